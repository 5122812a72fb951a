theorem dL_law_0 : decode cL_law 0 = .ok (.new 8, 3) := by decide +kernel
theorem dL_law_3 : decode cL_law 3 = .ok (.dup, 1) := by decide +kernel
theorem dL_law_4 : decode cL_law 4 = .ok (.invokespecial 145, 3) := by decide +kernel
theorem dL_law_7 : decode cL_law 7 = .ok (.astore_n 1, 1) := by decide +kernel
theorem dL_law_8 : decode cL_law 8 = .ok (.aload_n 1, 1) := by decide +kernel
theorem dL_law_9 : decode cL_law 9 = .ok (.iconst 1, 1) := by decide +kernel
theorem dL_law_10 : decode cL_law 10 = .ok (.invokestatic 146, 3) := by decide +kernel
theorem dL_law_13 : decode cL_law 13 = .ok (.ifCond .eq 1932, 3) := by decide +kernel
theorem dL_law_16 : decode cL_law 16 = .ok (.aload_n 1, 1) := by decide +kernel
theorem dL_law_17 : decode cL_law 17 = .ok (.iconst 0, 1) := by decide +kernel
theorem dL_law_18 : decode cL_law 18 = .ok (.invokestatic 146, 3) := by decide +kernel
theorem dL_law_21 : decode cL_law 21 = .ok (.ifCond .eq 1924, 3) := by decide +kernel
theorem dL_law_24 : decode cL_law 24 = .ok (.aload_n 1, 1) := by decide +kernel
theorem dL_law_25 : decode cL_law 25 = .ok (.invokevirtual 150, 3) := by decide +kernel
theorem dL_law_28 : decode cL_law 28 = .ok (.ifCond .ne 1917, 3) := by decide +kernel
theorem dL_law_31 : decode cL_law 31 = .ok (.aload_n 1, 1) := by decide +kernel
theorem dL_law_32 : decode cL_law 32 = .ok (.invokevirtual 154, 3) := by decide +kernel
theorem dL_law_35 : decode cL_law 35 = .ok (.ifCond .ne 1910, 3) := by decide +kernel
theorem dL_law_38 : decode cL_law 38 = .ok (.aload_n 1, 1) := by decide +kernel
theorem dL_law_39 : decode cL_law 39 = .ok (.invokevirtual 157, 3) := by decide +kernel
theorem dL_law_42 : decode cL_law 42 = .ok (.ifCond .ne 1903, 3) := by decide +kernel
theorem dL_law_45 : decode cL_law 45 = .ok (.aload_n 1, 1) := by decide +kernel
theorem dL_law_46 : decode cL_law 46 = .ok (.iconst 1, 1) := by decide +kernel
theorem dL_law_47 : decode cL_law 47 = .ok (.iconst 1, 1) := by decide +kernel
theorem dL_law_48 : decode cL_law 48 = .ok (.invokevirtual 160, 3) := by decide +kernel
theorem dL_law_51 : decode cL_law 51 = .ok (.ifCond .eq 1894, 3) := by decide +kernel
theorem dL_law_54 : decode cL_law 54 = .ok (.aload_n 1, 1) := by decide +kernel
theorem dL_law_55 : decode cL_law 55 = .ok (.invokevirtual 164, 3) := by decide +kernel
theorem dL_law_58 : decode cL_law 58 = .ok (.ldc2_w 168, 3) := by decide +kernel
theorem dL_law_61 : decode cL_law 61 = .ok (.lcmp, 1) := by decide +kernel
theorem dL_law_62 : decode cL_law 62 = .ok (.ifCond .ne 1883, 3) := by decide +kernel
theorem dL_law_65 : decode cL_law 65 = .ok (.aload_n 1, 1) := by decide +kernel
theorem dL_law_66 : decode cL_law 66 = .ok (.invokevirtual 170, 3) := by decide +kernel
theorem dL_law_69 : decode cL_law 69 = .ok (.ifCond .eq 1876, 3) := by decide +kernel
theorem dL_law_72 : decode cL_law 72 = .ok (.aload_n 1, 1) := by decide +kernel
theorem dL_law_73 : decode cL_law 73 = .ok (.bipush 73, 2) := by decide +kernel
theorem dL_law_75 : decode cL_law 75 = .ok (.iconst 2, 1) := by decide +kernel
theorem dL_law_76 : decode cL_law 76 = .ok (.newarray .int, 2) := by decide +kernel
theorem dL_law_78 : decode cL_law 78 = .ok (.dup, 1) := by decide +kernel
theorem dL_law_79 : decode cL_law 79 = .ok (.iconst 0, 1) := by decide +kernel
theorem dL_law_80 : decode cL_law 80 = .ok (.iconst 4, 1) := by decide +kernel
theorem dL_law_81 : decode cL_law 81 = .ok (.iastore, 1) := by decide +kernel
theorem dL_law_82 : decode cL_law 82 = .ok (.dup, 1) := by decide +kernel
theorem dL_law_83 : decode cL_law 83 = .ok (.iconst 1, 1) := by decide +kernel
theorem dL_law_84 : decode cL_law 84 = .ok (.iconst 0, 1) := by decide +kernel
theorem dL_law_85 : decode cL_law 85 = .ok (.iastore, 1) := by decide +kernel
theorem dL_law_86 : decode cL_law 86 = .ok (.invokestatic 174, 3) := by decide +kernel
theorem dL_law_89 : decode cL_law 89 = .ok (.ldc 68, 2) := by decide +kernel
theorem dL_law_91 : decode cL_law 91 = .ok (.if_icmp .ne 1854, 3) := by decide +kernel
theorem dL_law_94 : decode cL_law 94 = .ok (.aload_n 1, 1) := by decide +kernel
theorem dL_law_95 : decode cL_law 95 = .ok (.bipush 70, 2) := by decide +kernel
theorem dL_law_97 : decode cL_law 97 = .ok (.iconst 2, 1) := by decide +kernel
theorem dL_law_98 : decode cL_law 98 = .ok (.newarray .int, 2) := by decide +kernel
theorem dL_law_100 : decode cL_law 100 = .ok (.dup, 1) := by decide +kernel
theorem dL_law_101 : decode cL_law 101 = .ok (.iconst 0, 1) := by decide +kernel
theorem dL_law_102 : decode cL_law 102 = .ok (.iconst (-1), 1) := by decide +kernel
theorem dL_law_103 : decode cL_law 103 = .ok (.iastore, 1) := by decide +kernel
theorem dL_law_104 : decode cL_law 104 = .ok (.dup, 1) := by decide +kernel
theorem dL_law_105 : decode cL_law 105 = .ok (.iconst 1, 1) := by decide +kernel
theorem dL_law_106 : decode cL_law 106 = .ok (.iconst 0, 1) := by decide +kernel
theorem dL_law_107 : decode cL_law 107 = .ok (.iastore, 1) := by decide +kernel
theorem dL_law_108 : decode cL_law 108 = .ok (.invokestatic 174, 3) := by decide +kernel
theorem dL_law_111 : decode cL_law 111 = .ok (.ldc 68, 2) := by decide +kernel
theorem dL_law_113 : decode cL_law 113 = .ok (.if_icmp .ne 1832, 3) := by decide +kernel
theorem dL_law_116 : decode cL_law 116 = .ok (.aload_n 1, 1) := by decide +kernel
theorem dL_law_117 : decode cL_law 117 = .ok (.bipush 70, 2) := by decide +kernel
theorem dL_law_119 : decode cL_law 119 = .ok (.iconst 2, 1) := by decide +kernel
theorem dL_law_120 : decode cL_law 120 = .ok (.newarray .int, 2) := by decide +kernel
theorem dL_law_122 : decode cL_law 122 = .ok (.dup, 1) := by decide +kernel
theorem dL_law_123 : decode cL_law 123 = .ok (.iconst 0, 1) := by decide +kernel
theorem dL_law_124 : decode cL_law 124 = .ok (.iconst 0, 1) := by decide +kernel
theorem dL_law_125 : decode cL_law 125 = .ok (.iastore, 1) := by decide +kernel
theorem dL_law_126 : decode cL_law 126 = .ok (.dup, 1) := by decide +kernel
theorem dL_law_127 : decode cL_law 127 = .ok (.iconst 1, 1) := by decide +kernel
theorem dL_law_128 : decode cL_law 128 = .ok (.sipush 10000, 3) := by decide +kernel
theorem dL_law_131 : decode cL_law 131 = .ok (.iastore, 1) := by decide +kernel
theorem dL_law_132 : decode cL_law 132 = .ok (.invokestatic 174, 3) := by decide +kernel
theorem dL_law_135 : decode cL_law 135 = .ok (.ldc 71, 2) := by decide +kernel
theorem dL_law_137 : decode cL_law 137 = .ok (.if_icmp .ne 1808, 3) := by decide +kernel
theorem dL_law_140 : decode cL_law 140 = .ok (.aload_n 1, 1) := by decide +kernel
theorem dL_law_141 : decode cL_law 141 = .ok (.bipush 70, 2) := by decide +kernel
theorem dL_law_143 : decode cL_law 143 = .ok (.iconst 2, 1) := by decide +kernel
theorem dL_law_144 : decode cL_law 144 = .ok (.newarray .int, 2) := by decide +kernel
theorem dL_law_146 : decode cL_law 146 = .ok (.dup, 1) := by decide +kernel
theorem dL_law_147 : decode cL_law 147 = .ok (.iconst 0, 1) := by decide +kernel
theorem dL_law_148 : decode cL_law 148 = .ok (.iconst 0, 1) := by decide +kernel
theorem dL_law_149 : decode cL_law 149 = .ok (.iastore, 1) := by decide +kernel
theorem dL_law_150 : decode cL_law 150 = .ok (.dup, 1) := by decide +kernel
theorem dL_law_151 : decode cL_law 151 = .ok (.iconst 1, 1) := by decide +kernel
theorem dL_law_152 : decode cL_law 152 = .ok (.iconst (-1), 1) := by decide +kernel
theorem dL_law_153 : decode cL_law 153 = .ok (.iastore, 1) := by decide +kernel
theorem dL_law_154 : decode cL_law 154 = .ok (.invokestatic 174, 3) := by decide +kernel
theorem dL_law_157 : decode cL_law 157 = .ok (.ldc 71, 2) := by decide +kernel
theorem dL_law_159 : decode cL_law 159 = .ok (.if_icmp .ne 1786, 3) := by decide +kernel
theorem dL_law_162 : decode cL_law 162 = .ok (.aload_n 1, 1) := by decide +kernel
theorem dL_law_163 : decode cL_law 163 = .ok (.bipush 76, 2) := by decide +kernel
theorem dL_law_165 : decode cL_law 165 = .ok (.iconst 2, 1) := by decide +kernel
theorem dL_law_166 : decode cL_law 166 = .ok (.newarray .int, 2) := by decide +kernel
theorem dL_law_168 : decode cL_law 168 = .ok (.dup, 1) := by decide +kernel
theorem dL_law_169 : decode cL_law 169 = .ok (.iconst 0, 1) := by decide +kernel
theorem dL_law_170 : decode cL_law 170 = .ok (.iconst 4, 1) := by decide +kernel
theorem dL_law_171 : decode cL_law 171 = .ok (.iastore, 1) := by decide +kernel
theorem dL_law_172 : decode cL_law 172 = .ok (.dup, 1) := by decide +kernel
theorem dL_law_173 : decode cL_law 173 = .ok (.iconst 1, 1) := by decide +kernel
theorem dL_law_174 : decode cL_law 174 = .ok (.iconst 0, 1) := by decide +kernel
theorem dL_law_175 : decode cL_law 175 = .ok (.iastore, 1) := by decide +kernel
theorem dL_law_176 : decode cL_law 176 = .ok (.invokestatic 174, 3) := by decide +kernel
theorem dL_law_179 : decode cL_law 179 = .ok (.ldc 68, 2) := by decide +kernel
theorem dL_law_181 : decode cL_law 181 = .ok (.if_icmp .ne 1764, 3) := by decide +kernel
theorem dL_law_184 : decode cL_law 184 = .ok (.aload_n 1, 1) := by decide +kernel
theorem dL_law_185 : decode cL_law 185 = .ok (.bipush 76, 2) := by decide +kernel
theorem dL_law_187 : decode cL_law 187 = .ok (.iconst 2, 1) := by decide +kernel
theorem dL_law_188 : decode cL_law 188 = .ok (.newarray .int, 2) := by decide +kernel
theorem dL_law_190 : decode cL_law 190 = .ok (.dup, 1) := by decide +kernel
theorem dL_law_191 : decode cL_law 191 = .ok (.iconst 0, 1) := by decide +kernel
theorem dL_law_192 : decode cL_law 192 = .ok (.iconst 0, 1) := by decide +kernel
theorem dL_law_193 : decode cL_law 193 = .ok (.iastore, 1) := by decide +kernel
theorem dL_law_194 : decode cL_law 194 = .ok (.dup, 1) := by decide +kernel
theorem dL_law_195 : decode cL_law 195 = .ok (.iconst 1, 1) := by decide +kernel
theorem dL_law_196 : decode cL_law 196 = .ok (.sipush 10000, 3) := by decide +kernel
theorem dL_law_199 : decode cL_law 199 = .ok (.iastore, 1) := by decide +kernel
theorem dL_law_200 : decode cL_law 200 = .ok (.invokestatic 174, 3) := by decide +kernel
theorem dL_law_203 : decode cL_law 203 = .ok (.ldc 71, 2) := by decide +kernel
theorem dL_law_205 : decode cL_law 205 = .ok (.if_icmp .ne 1740, 3) := by decide +kernel
theorem dL_law_208 : decode cL_law 208 = .ok (.aload_n 1, 1) := by decide +kernel
theorem dL_law_209 : decode cL_law 209 = .ok (.bipush 103, 2) := by decide +kernel
theorem dL_law_211 : decode cL_law 211 = .ok (.iconst 3, 1) := by decide +kernel
theorem dL_law_212 : decode cL_law 212 = .ok (.newarray .int, 2) := by decide +kernel
theorem dL_law_214 : decode cL_law 214 = .ok (.dup, 1) := by decide +kernel
theorem dL_law_215 : decode cL_law 215 = .ok (.iconst 0, 1) := by decide +kernel
theorem dL_law_216 : decode cL_law 216 = .ok (.iconst 4, 1) := by decide +kernel
theorem dL_law_217 : decode cL_law 217 = .ok (.iastore, 1) := by decide +kernel
theorem dL_law_218 : decode cL_law 218 = .ok (.dup, 1) := by decide +kernel
theorem dL_law_219 : decode cL_law 219 = .ok (.iconst 1, 1) := by decide +kernel
theorem dL_law_220 : decode cL_law 220 = .ok (.iconst 0, 1) := by decide +kernel
theorem dL_law_221 : decode cL_law 221 = .ok (.iastore, 1) := by decide +kernel
theorem dL_law_222 : decode cL_law 222 = .ok (.dup, 1) := by decide +kernel
theorem dL_law_223 : decode cL_law 223 = .ok (.iconst 2, 1) := by decide +kernel
theorem dL_law_224 : decode cL_law 224 = .ok (.iconst 1, 1) := by decide +kernel
theorem dL_law_225 : decode cL_law 225 = .ok (.iastore, 1) := by decide +kernel
theorem dL_law_226 : decode cL_law 226 = .ok (.invokestatic 174, 3) := by decide +kernel
theorem dL_law_229 : decode cL_law 229 = .ok (.ldc 68, 2) := by decide +kernel
theorem dL_law_231 : decode cL_law 231 = .ok (.if_icmp .ne 1714, 3) := by decide +kernel
theorem dL_law_234 : decode cL_law 234 = .ok (.aload_n 1, 1) := by decide +kernel
theorem dL_law_235 : decode cL_law 235 = .ok (.bipush 103, 2) := by decide +kernel
theorem dL_law_237 : decode cL_law 237 = .ok (.iconst 3, 1) := by decide +kernel
theorem dL_law_238 : decode cL_law 238 = .ok (.newarray .int, 2) := by decide +kernel
theorem dL_law_240 : decode cL_law 240 = .ok (.dup, 1) := by decide +kernel
theorem dL_law_241 : decode cL_law 241 = .ok (.iconst 0, 1) := by decide +kernel
theorem dL_law_242 : decode cL_law 242 = .ok (.iconst 0, 1) := by decide +kernel
theorem dL_law_243 : decode cL_law 243 = .ok (.iastore, 1) := by decide +kernel
theorem dL_law_244 : decode cL_law 244 = .ok (.dup, 1) := by decide +kernel
theorem dL_law_245 : decode cL_law 245 = .ok (.iconst 1, 1) := by decide +kernel
theorem dL_law_246 : decode cL_law 246 = .ok (.iconst 0, 1) := by decide +kernel
theorem dL_law_247 : decode cL_law 247 = .ok (.iastore, 1) := by decide +kernel
theorem dL_law_248 : decode cL_law 248 = .ok (.dup, 1) := by decide +kernel
theorem dL_law_249 : decode cL_law 249 = .ok (.iconst 2, 1) := by decide +kernel
theorem dL_law_250 : decode cL_law 250 = .ok (.iconst 0, 1) := by decide +kernel
theorem dL_law_251 : decode cL_law 251 = .ok (.iastore, 1) := by decide +kernel
theorem dL_law_252 : decode cL_law 252 = .ok (.invokestatic 174, 3) := by decide +kernel
theorem dL_law_255 : decode cL_law 255 = .ok (.ldc 71, 2) := by decide +kernel
theorem dL_law_257 : decode cL_law 257 = .ok (.if_icmp .ne 1688, 3) := by decide +kernel
theorem dL_law_260 : decode cL_law 260 = .ok (.aload_n 1, 1) := by decide +kernel
theorem dL_law_261 : decode cL_law 261 = .ok (.bipush 103, 2) := by decide +kernel
theorem dL_law_263 : decode cL_law 263 = .ok (.iconst 3, 1) := by decide +kernel
theorem dL_law_264 : decode cL_law 264 = .ok (.newarray .int, 2) := by decide +kernel
theorem dL_law_266 : decode cL_law 266 = .ok (.dup, 1) := by decide +kernel
theorem dL_law_267 : decode cL_law 267 = .ok (.iconst 0, 1) := by decide +kernel
theorem dL_law_268 : decode cL_law 268 = .ok (.iconst 0, 1) := by decide +kernel
theorem dL_law_269 : decode cL_law 269 = .ok (.iastore, 1) := by decide +kernel
theorem dL_law_270 : decode cL_law 270 = .ok (.dup, 1) := by decide +kernel
theorem dL_law_271 : decode cL_law 271 = .ok (.iconst 1, 1) := by decide +kernel
theorem dL_law_272 : decode cL_law 272 = .ok (.iconst 0, 1) := by decide +kernel
theorem dL_law_273 : decode cL_law 273 = .ok (.iastore, 1) := by decide +kernel
theorem dL_law_274 : decode cL_law 274 = .ok (.dup, 1) := by decide +kernel
theorem dL_law_275 : decode cL_law 275 = .ok (.iconst 2, 1) := by decide +kernel
theorem dL_law_276 : decode cL_law 276 = .ok (.bipush 100, 2) := by decide +kernel
theorem dL_law_278 : decode cL_law 278 = .ok (.iastore, 1) := by decide +kernel
theorem dL_law_279 : decode cL_law 279 = .ok (.invokestatic 174, 3) := by decide +kernel
theorem dL_law_282 : decode cL_law 282 = .ok (.ldc 71, 2) := by decide +kernel
theorem dL_law_284 : decode cL_law 284 = .ok (.if_icmp .ne 1661, 3) := by decide +kernel
theorem dL_law_287 : decode cL_law 287 = .ok (.aload_n 1, 1) := by decide +kernel
theorem dL_law_288 : decode cL_law 288 = .ok (.bipush 103, 2) := by decide +kernel
theorem dL_law_290 : decode cL_law 290 = .ok (.iconst 3, 1) := by decide +kernel
theorem dL_law_291 : decode cL_law 291 = .ok (.newarray .int, 2) := by decide +kernel
theorem dL_law_293 : decode cL_law 293 = .ok (.dup, 1) := by decide +kernel
theorem dL_law_294 : decode cL_law 294 = .ok (.iconst 0, 1) := by decide +kernel
theorem dL_law_295 : decode cL_law 295 = .ok (.iconst 0, 1) := by decide +kernel
theorem dL_law_296 : decode cL_law 296 = .ok (.iastore, 1) := by decide +kernel
theorem dL_law_297 : decode cL_law 297 = .ok (.dup, 1) := by decide +kernel
theorem dL_law_298 : decode cL_law 298 = .ok (.iconst 1, 1) := by decide +kernel
theorem dL_law_299 : decode cL_law 299 = .ok (.sipush 9999, 3) := by decide +kernel
theorem dL_law_302 : decode cL_law 302 = .ok (.iastore, 1) := by decide +kernel
theorem dL_law_303 : decode cL_law 303 = .ok (.dup, 1) := by decide +kernel
theorem dL_law_304 : decode cL_law 304 = .ok (.iconst 2, 1) := by decide +kernel
theorem dL_law_305 : decode cL_law 305 = .ok (.iconst 1, 1) := by decide +kernel
theorem dL_law_306 : decode cL_law 306 = .ok (.iastore, 1) := by decide +kernel
theorem dL_law_307 : decode cL_law 307 = .ok (.invokestatic 174, 3) := by decide +kernel
theorem dL_law_310 : decode cL_law 310 = .ok (.ldc 71, 2) := by decide +kernel
theorem dL_law_312 : decode cL_law 312 = .ok (.if_icmp .ne 1633, 3) := by decide +kernel
theorem dL_law_315 : decode cL_law 315 = .ok (.aload_n 1, 1) := by decide +kernel
theorem dL_law_316 : decode cL_law 316 = .ok (.bipush 68, 2) := by decide +kernel
theorem dL_law_318 : decode cL_law 318 = .ok (.iconst 1, 1) := by decide +kernel
theorem dL_law_319 : decode cL_law 319 = .ok (.newarray .int, 2) := by decide +kernel
theorem dL_law_321 : decode cL_law 321 = .ok (.dup, 1) := by decide +kernel
theorem dL_law_322 : decode cL_law 322 = .ok (.iconst 0, 1) := by decide +kernel
theorem dL_law_323 : decode cL_law 323 = .ok (.bipush 51, 2) := by decide +kernel
theorem dL_law_325 : decode cL_law 325 = .ok (.iastore, 1) := by decide +kernel
theorem dL_law_326 : decode cL_law 326 = .ok (.invokestatic 174, 3) := by decide +kernel
theorem dL_law_329 : decode cL_law 329 = .ok (.ldc 71, 2) := by decide +kernel
theorem dL_law_331 : decode cL_law 331 = .ok (.if_icmp .ne 1614, 3) := by decide +kernel
theorem dL_law_334 : decode cL_law 334 = .ok (.aload_n 1, 1) := by decide +kernel
theorem dL_law_335 : decode cL_law 335 = .ok (.bipush 68, 2) := by decide +kernel
theorem dL_law_337 : decode cL_law 337 = .ok (.iconst 1, 1) := by decide +kernel
theorem dL_law_338 : decode cL_law 338 = .ok (.newarray .int, 2) := by decide +kernel
theorem dL_law_340 : decode cL_law 340 = .ok (.dup, 1) := by decide +kernel
theorem dL_law_341 : decode cL_law 341 = .ok (.iconst 0, 1) := by decide +kernel
theorem dL_law_342 : decode cL_law 342 = .ok (.bipush (-51), 2) := by decide +kernel
theorem dL_law_344 : decode cL_law 344 = .ok (.iastore, 1) := by decide +kernel
theorem dL_law_345 : decode cL_law 345 = .ok (.invokestatic 174, 3) := by decide +kernel
theorem dL_law_348 : decode cL_law 348 = .ok (.ldc 71, 2) := by decide +kernel
theorem dL_law_350 : decode cL_law 350 = .ok (.if_icmp .ne 1595, 3) := by decide +kernel
theorem dL_law_353 : decode cL_law 353 = .ok (.aload_n 1, 1) := by decide +kernel
theorem dL_law_354 : decode cL_law 354 = .ok (.bipush 115, 2) := by decide +kernel
theorem dL_law_356 : decode cL_law 356 = .ok (.iconst 5, 1) := by decide +kernel
theorem dL_law_357 : decode cL_law 357 = .ok (.newarray .int, 2) := by decide +kernel
theorem dL_law_359 : decode cL_law 359 = .ok (.dup, 1) := by decide +kernel
theorem dL_law_360 : decode cL_law 360 = .ok (.iconst 0, 1) := by decide +kernel
theorem dL_law_361 : decode cL_law 361 = .ok (.iconst 4, 1) := by decide +kernel
theorem dL_law_362 : decode cL_law 362 = .ok (.iastore, 1) := by decide +kernel
theorem dL_law_363 : decode cL_law 363 = .ok (.dup, 1) := by decide +kernel
theorem dL_law_364 : decode cL_law 364 = .ok (.iconst 1, 1) := by decide +kernel
theorem dL_law_365 : decode cL_law 365 = .ok (.iconst 0, 1) := by decide +kernel
theorem dL_law_366 : decode cL_law 366 = .ok (.iastore, 1) := by decide +kernel
theorem dL_law_367 : decode cL_law 367 = .ok (.dup, 1) := by decide +kernel
theorem dL_law_368 : decode cL_law 368 = .ok (.iconst 2, 1) := by decide +kernel
theorem dL_law_369 : decode cL_law 369 = .ok (.iconst 0, 1) := by decide +kernel
theorem dL_law_370 : decode cL_law 370 = .ok (.iastore, 1) := by decide +kernel
theorem dL_law_371 : decode cL_law 371 = .ok (.dup, 1) := by decide +kernel
theorem dL_law_372 : decode cL_law 372 = .ok (.iconst 3, 1) := by decide +kernel
theorem dL_law_373 : decode cL_law 373 = .ok (.iconst 2, 1) := by decide +kernel
theorem dL_law_374 : decode cL_law 374 = .ok (.iastore, 1) := by decide +kernel
theorem dL_law_375 : decode cL_law 375 = .ok (.dup, 1) := by decide +kernel
theorem dL_law_376 : decode cL_law 376 = .ok (.iconst 4, 1) := by decide +kernel
theorem dL_law_377 : decode cL_law 377 = .ok (.bipush 110, 2) := by decide +kernel
theorem dL_law_379 : decode cL_law 379 = .ok (.iastore, 1) := by decide +kernel
theorem dL_law_380 : decode cL_law 380 = .ok (.invokestatic 174, 3) := by decide +kernel
theorem dL_law_383 : decode cL_law 383 = .ok (.ldc 68, 2) := by decide +kernel
theorem dL_law_385 : decode cL_law 385 = .ok (.if_icmp .ne 1560, 3) := by decide +kernel
theorem dL_law_388 : decode cL_law 388 = .ok (.aload_n 1, 1) := by decide +kernel
theorem dL_law_389 : decode cL_law 389 = .ok (.bipush 115, 2) := by decide +kernel
theorem dL_law_391 : decode cL_law 391 = .ok (.iconst 5, 1) := by decide +kernel
theorem dL_law_392 : decode cL_law 392 = .ok (.newarray .int, 2) := by decide +kernel
theorem dL_law_394 : decode cL_law 394 = .ok (.dup, 1) := by decide +kernel
theorem dL_law_395 : decode cL_law 395 = .ok (.iconst 0, 1) := by decide +kernel
theorem dL_law_396 : decode cL_law 396 = .ok (.iconst 0, 1) := by decide +kernel
theorem dL_law_397 : decode cL_law 397 = .ok (.iastore, 1) := by decide +kernel
theorem dL_law_398 : decode cL_law 398 = .ok (.dup, 1) := by decide +kernel
theorem dL_law_399 : decode cL_law 399 = .ok (.iconst 1, 1) := by decide +kernel
theorem dL_law_400 : decode cL_law 400 = .ok (.sipush 256, 3) := by decide +kernel
theorem dL_law_403 : decode cL_law 403 = .ok (.iastore, 1) := by decide +kernel
theorem dL_law_404 : decode cL_law 404 = .ok (.dup, 1) := by decide +kernel
theorem dL_law_405 : decode cL_law 405 = .ok (.iconst 2, 1) := by decide +kernel
theorem dL_law_406 : decode cL_law 406 = .ok (.iconst 0, 1) := by decide +kernel
theorem dL_law_407 : decode cL_law 407 = .ok (.iastore, 1) := by decide +kernel
theorem dL_law_408 : decode cL_law 408 = .ok (.dup, 1) := by decide +kernel
theorem dL_law_409 : decode cL_law 409 = .ok (.iconst 3, 1) := by decide +kernel
theorem dL_law_410 : decode cL_law 410 = .ok (.iconst 2, 1) := by decide +kernel
theorem dL_law_411 : decode cL_law 411 = .ok (.iastore, 1) := by decide +kernel
theorem dL_law_412 : decode cL_law 412 = .ok (.dup, 1) := by decide +kernel
theorem dL_law_413 : decode cL_law 413 = .ok (.iconst 4, 1) := by decide +kernel
theorem dL_law_414 : decode cL_law 414 = .ok (.bipush 110, 2) := by decide +kernel
theorem dL_law_416 : decode cL_law 416 = .ok (.iastore, 1) := by decide +kernel
theorem dL_law_417 : decode cL_law 417 = .ok (.invokestatic 174, 3) := by decide +kernel
theorem dL_law_420 : decode cL_law 420 = .ok (.ldc 71, 2) := by decide +kernel
theorem dL_law_422 : decode cL_law 422 = .ok (.if_icmp .ne 1523, 3) := by decide +kernel
theorem dL_law_425 : decode cL_law 425 = .ok (.aload_n 1, 1) := by decide +kernel
theorem dL_law_426 : decode cL_law 426 = .ok (.bipush 115, 2) := by decide +kernel
theorem dL_law_428 : decode cL_law 428 = .ok (.iconst 5, 1) := by decide +kernel
theorem dL_law_429 : decode cL_law 429 = .ok (.newarray .int, 2) := by decide +kernel
theorem dL_law_431 : decode cL_law 431 = .ok (.dup, 1) := by decide +kernel
theorem dL_law_432 : decode cL_law 432 = .ok (.iconst 0, 1) := by decide +kernel
theorem dL_law_433 : decode cL_law 433 = .ok (.iconst 0, 1) := by decide +kernel
theorem dL_law_434 : decode cL_law 434 = .ok (.iastore, 1) := by decide +kernel
theorem dL_law_435 : decode cL_law 435 = .ok (.dup, 1) := by decide +kernel
theorem dL_law_436 : decode cL_law 436 = .ok (.iconst 1, 1) := by decide +kernel
theorem dL_law_437 : decode cL_law 437 = .ok (.iconst 0, 1) := by decide +kernel
theorem dL_law_438 : decode cL_law 438 = .ok (.iastore, 1) := by decide +kernel
theorem dL_law_439 : decode cL_law 439 = .ok (.dup, 1) := by decide +kernel
theorem dL_law_440 : decode cL_law 440 = .ok (.iconst 2, 1) := by decide +kernel
theorem dL_law_441 : decode cL_law 441 = .ok (.iconst 0, 1) := by decide +kernel
theorem dL_law_442 : decode cL_law 442 = .ok (.iastore, 1) := by decide +kernel
theorem dL_law_443 : decode cL_law 443 = .ok (.dup, 1) := by decide +kernel
theorem dL_law_444 : decode cL_law 444 = .ok (.iconst 3, 1) := by decide +kernel
theorem dL_law_445 : decode cL_law 445 = .ok (.iconst 1, 1) := by decide +kernel
theorem dL_law_446 : decode cL_law 446 = .ok (.iastore, 1) := by decide +kernel
theorem dL_law_447 : decode cL_law 447 = .ok (.dup, 1) := by decide +kernel
theorem dL_law_448 : decode cL_law 448 = .ok (.iconst 4, 1) := by decide +kernel
theorem dL_law_449 : decode cL_law 449 = .ok (.bipush 110, 2) := by decide +kernel
theorem dL_law_451 : decode cL_law 451 = .ok (.iastore, 1) := by decide +kernel
theorem dL_law_452 : decode cL_law 452 = .ok (.invokestatic 174, 3) := by decide +kernel
theorem dL_law_455 : decode cL_law 455 = .ok (.ldc 71, 2) := by decide +kernel
theorem dL_law_457 : decode cL_law 457 = .ok (.if_icmp .ne 1488, 3) := by decide +kernel
theorem dL_law_460 : decode cL_law 460 = .ok (.aload_n 1, 1) := by decide +kernel
theorem dL_law_461 : decode cL_law 461 = .ok (.bipush 115, 2) := by decide +kernel
theorem dL_law_463 : decode cL_law 463 = .ok (.iconst 5, 1) := by decide +kernel
theorem dL_law_464 : decode cL_law 464 = .ok (.newarray .int, 2) := by decide +kernel
theorem dL_law_466 : decode cL_law 466 = .ok (.dup, 1) := by decide +kernel
theorem dL_law_467 : decode cL_law 467 = .ok (.iconst 0, 1) := by decide +kernel
theorem dL_law_468 : decode cL_law 468 = .ok (.iconst 0, 1) := by decide +kernel
theorem dL_law_469 : decode cL_law 469 = .ok (.iastore, 1) := by decide +kernel
theorem dL_law_470 : decode cL_law 470 = .ok (.dup, 1) := by decide +kernel
theorem dL_law_471 : decode cL_law 471 = .ok (.iconst 1, 1) := by decide +kernel
theorem dL_law_472 : decode cL_law 472 = .ok (.iconst 0, 1) := by decide +kernel
theorem dL_law_473 : decode cL_law 473 = .ok (.iastore, 1) := by decide +kernel
theorem dL_law_474 : decode cL_law 474 = .ok (.dup, 1) := by decide +kernel
theorem dL_law_475 : decode cL_law 475 = .ok (.iconst 2, 1) := by decide +kernel
theorem dL_law_476 : decode cL_law 476 = .ok (.iconst 0, 1) := by decide +kernel
theorem dL_law_477 : decode cL_law 477 = .ok (.iastore, 1) := by decide +kernel
theorem dL_law_478 : decode cL_law 478 = .ok (.dup, 1) := by decide +kernel
theorem dL_law_479 : decode cL_law 479 = .ok (.iconst 3, 1) := by decide +kernel
theorem dL_law_480 : decode cL_law 480 = .ok (.iconst 2, 1) := by decide +kernel
theorem dL_law_481 : decode cL_law 481 = .ok (.iastore, 1) := by decide +kernel
theorem dL_law_482 : decode cL_law 482 = .ok (.dup, 1) := by decide +kernel
theorem dL_law_483 : decode cL_law 483 = .ok (.iconst 4, 1) := by decide +kernel
theorem dL_law_484 : decode cL_law 484 = .ok (.bipush 120, 2) := by decide +kernel
theorem dL_law_486 : decode cL_law 486 = .ok (.iastore, 1) := by decide +kernel
theorem dL_law_487 : decode cL_law 487 = .ok (.invokestatic 174, 3) := by decide +kernel
theorem dL_law_490 : decode cL_law 490 = .ok (.ldc 71, 2) := by decide +kernel
theorem dL_law_492 : decode cL_law 492 = .ok (.if_icmp .ne 1453, 3) := by decide +kernel
theorem dL_law_495 : decode cL_law 495 = .ok (.aload_n 1, 1) := by decide +kernel
theorem dL_law_496 : decode cL_law 496 = .ok (.bipush 115, 2) := by decide +kernel
theorem dL_law_498 : decode cL_law 498 = .ok (.iconst 5, 1) := by decide +kernel
theorem dL_law_499 : decode cL_law 499 = .ok (.newarray .int, 2) := by decide +kernel
theorem dL_law_501 : decode cL_law 501 = .ok (.dup, 1) := by decide +kernel
theorem dL_law_502 : decode cL_law 502 = .ok (.iconst 0, 1) := by decide +kernel
theorem dL_law_503 : decode cL_law 503 = .ok (.iconst 0, 1) := by decide +kernel
theorem dL_law_504 : decode cL_law 504 = .ok (.iastore, 1) := by decide +kernel
theorem dL_law_505 : decode cL_law 505 = .ok (.dup, 1) := by decide +kernel
theorem dL_law_506 : decode cL_law 506 = .ok (.iconst 1, 1) := by decide +kernel
theorem dL_law_507 : decode cL_law 507 = .ok (.iconst 0, 1) := by decide +kernel
theorem dL_law_508 : decode cL_law 508 = .ok (.iastore, 1) := by decide +kernel
theorem dL_law_509 : decode cL_law 509 = .ok (.dup, 1) := by decide +kernel
theorem dL_law_510 : decode cL_law 510 = .ok (.iconst 2, 1) := by decide +kernel
theorem dL_law_511 : decode cL_law 511 = .ok (.sipush 9999, 3) := by decide +kernel
theorem dL_law_514 : decode cL_law 514 = .ok (.iastore, 1) := by decide +kernel
theorem dL_law_515 : decode cL_law 515 = .ok (.dup, 1) := by decide +kernel
theorem dL_law_516 : decode cL_law 516 = .ok (.iconst 3, 1) := by decide +kernel
theorem dL_law_517 : decode cL_law 517 = .ok (.iconst 2, 1) := by decide +kernel
theorem dL_law_518 : decode cL_law 518 = .ok (.iastore, 1) := by decide +kernel
theorem dL_law_519 : decode cL_law 519 = .ok (.dup, 1) := by decide +kernel
theorem dL_law_520 : decode cL_law 520 = .ok (.iconst 4, 1) := by decide +kernel
theorem dL_law_521 : decode cL_law 521 = .ok (.bipush 110, 2) := by decide +kernel
theorem dL_law_523 : decode cL_law 523 = .ok (.iastore, 1) := by decide +kernel
theorem dL_law_524 : decode cL_law 524 = .ok (.invokestatic 174, 3) := by decide +kernel
theorem dL_law_527 : decode cL_law 527 = .ok (.ldc 74, 2) := by decide +kernel
theorem dL_law_529 : decode cL_law 529 = .ok (.if_icmp .ne 1416, 3) := by decide +kernel
theorem dL_law_532 : decode cL_law 532 = .ok (.aload_n 1, 1) := by decide +kernel
theorem dL_law_533 : decode cL_law 533 = .ok (.bipush 116, 2) := by decide +kernel
theorem dL_law_535 : decode cL_law 535 = .ok (.bipush 8, 2) := by decide +kernel
theorem dL_law_537 : decode cL_law 537 = .ok (.newarray .int, 2) := by decide +kernel
theorem dL_law_539 : decode cL_law 539 = .ok (.dup, 1) := by decide +kernel
theorem dL_law_540 : decode cL_law 540 = .ok (.iconst 0, 1) := by decide +kernel
theorem dL_law_541 : decode cL_law 541 = .ok (.iconst 0, 1) := by decide +kernel
theorem dL_law_542 : decode cL_law 542 = .ok (.iastore, 1) := by decide +kernel
theorem dL_law_543 : decode cL_law 543 = .ok (.dup, 1) := by decide +kernel
theorem dL_law_544 : decode cL_law 544 = .ok (.iconst 1, 1) := by decide +kernel
theorem dL_law_545 : decode cL_law 545 = .ok (.iconst 4, 1) := by decide +kernel
theorem dL_law_546 : decode cL_law 546 = .ok (.iastore, 1) := by decide +kernel
theorem dL_law_547 : decode cL_law 547 = .ok (.dup, 1) := by decide +kernel
theorem dL_law_548 : decode cL_law 548 = .ok (.iconst 2, 1) := by decide +kernel
theorem dL_law_549 : decode cL_law 549 = .ok (.iconst 0, 1) := by decide +kernel
theorem dL_law_550 : decode cL_law 550 = .ok (.iastore, 1) := by decide +kernel
theorem dL_law_551 : decode cL_law 551 = .ok (.dup, 1) := by decide +kernel
theorem dL_law_552 : decode cL_law 552 = .ok (.iconst 3, 1) := by decide +kernel
theorem dL_law_553 : decode cL_law 553 = .ok (.iconst 0, 1) := by decide +kernel
theorem dL_law_554 : decode cL_law 554 = .ok (.iastore, 1) := by decide +kernel
theorem dL_law_555 : decode cL_law 555 = .ok (.dup, 1) := by decide +kernel
theorem dL_law_556 : decode cL_law 556 = .ok (.iconst 4, 1) := by decide +kernel
theorem dL_law_557 : decode cL_law 557 = .ok (.iconst 0, 1) := by decide +kernel
theorem dL_law_558 : decode cL_law 558 = .ok (.iastore, 1) := by decide +kernel
theorem dL_law_559 : decode cL_law 559 = .ok (.dup, 1) := by decide +kernel
theorem dL_law_560 : decode cL_law 560 = .ok (.iconst 5, 1) := by decide +kernel
theorem dL_law_561 : decode cL_law 561 = .ok (.iconst 0, 1) := by decide +kernel
theorem dL_law_562 : decode cL_law 562 = .ok (.iastore, 1) := by decide +kernel
theorem dL_law_563 : decode cL_law 563 = .ok (.dup, 1) := by decide +kernel
theorem dL_law_564 : decode cL_law 564 = .ok (.bipush 6, 2) := by decide +kernel
theorem dL_law_566 : decode cL_law 566 = .ok (.iconst 0, 1) := by decide +kernel
theorem dL_law_567 : decode cL_law 567 = .ok (.iastore, 1) := by decide +kernel
theorem dL_law_568 : decode cL_law 568 = .ok (.dup, 1) := by decide +kernel
theorem dL_law_569 : decode cL_law 569 = .ok (.bipush 7, 2) := by decide +kernel
theorem dL_law_571 : decode cL_law 571 = .ok (.iconst 1, 1) := by decide +kernel
theorem dL_law_572 : decode cL_law 572 = .ok (.iastore, 1) := by decide +kernel
theorem dL_law_573 : decode cL_law 573 = .ok (.invokestatic 174, 3) := by decide +kernel
theorem dL_law_576 : decode cL_law 576 = .ok (.ldc 68, 2) := by decide +kernel
theorem dL_law_578 : decode cL_law 578 = .ok (.if_icmp .ne 1367, 3) := by decide +kernel
theorem dL_law_581 : decode cL_law 581 = .ok (.aload_n 1, 1) := by decide +kernel
theorem dL_law_582 : decode cL_law 582 = .ok (.bipush 116, 2) := by decide +kernel
theorem dL_law_584 : decode cL_law 584 = .ok (.bipush 8, 2) := by decide +kernel
theorem dL_law_586 : decode cL_law 586 = .ok (.newarray .int, 2) := by decide +kernel
theorem dL_law_588 : decode cL_law 588 = .ok (.dup, 1) := by decide +kernel
theorem dL_law_589 : decode cL_law 589 = .ok (.iconst 0, 1) := by decide +kernel
theorem dL_law_590 : decode cL_law 590 = .ok (.iconst 0, 1) := by decide +kernel
theorem dL_law_591 : decode cL_law 591 = .ok (.iastore, 1) := by decide +kernel
theorem dL_law_592 : decode cL_law 592 = .ok (.dup, 1) := by decide +kernel
theorem dL_law_593 : decode cL_law 593 = .ok (.iconst 1, 1) := by decide +kernel
theorem dL_law_594 : decode cL_law 594 = .ok (.iconst 0, 1) := by decide +kernel
theorem dL_law_595 : decode cL_law 595 = .ok (.iastore, 1) := by decide +kernel
theorem dL_law_596 : decode cL_law 596 = .ok (.dup, 1) := by decide +kernel
theorem dL_law_597 : decode cL_law 597 = .ok (.iconst 2, 1) := by decide +kernel
theorem dL_law_598 : decode cL_law 598 = .ok (.iconst 0, 1) := by decide +kernel
theorem dL_law_599 : decode cL_law 599 = .ok (.iastore, 1) := by decide +kernel
theorem dL_law_600 : decode cL_law 600 = .ok (.dup, 1) := by decide +kernel
theorem dL_law_601 : decode cL_law 601 = .ok (.iconst 3, 1) := by decide +kernel
theorem dL_law_602 : decode cL_law 602 = .ok (.iconst 0, 1) := by decide +kernel
theorem dL_law_603 : decode cL_law 603 = .ok (.iastore, 1) := by decide +kernel
theorem dL_law_604 : decode cL_law 604 = .ok (.dup, 1) := by decide +kernel
theorem dL_law_605 : decode cL_law 605 = .ok (.iconst 4, 1) := by decide +kernel
theorem dL_law_606 : decode cL_law 606 = .ok (.iconst 0, 1) := by decide +kernel
theorem dL_law_607 : decode cL_law 607 = .ok (.iastore, 1) := by decide +kernel
theorem dL_law_608 : decode cL_law 608 = .ok (.dup, 1) := by decide +kernel
theorem dL_law_609 : decode cL_law 609 = .ok (.iconst 5, 1) := by decide +kernel
theorem dL_law_610 : decode cL_law 610 = .ok (.iconst 0, 1) := by decide +kernel
theorem dL_law_611 : decode cL_law 611 = .ok (.iastore, 1) := by decide +kernel
theorem dL_law_612 : decode cL_law 612 = .ok (.dup, 1) := by decide +kernel
theorem dL_law_613 : decode cL_law 613 = .ok (.bipush 6, 2) := by decide +kernel
theorem dL_law_615 : decode cL_law 615 = .ok (.iconst 0, 1) := by decide +kernel
theorem dL_law_616 : decode cL_law 616 = .ok (.iastore, 1) := by decide +kernel
theorem dL_law_617 : decode cL_law 617 = .ok (.dup, 1) := by decide +kernel
theorem dL_law_618 : decode cL_law 618 = .ok (.bipush 7, 2) := by decide +kernel
theorem dL_law_620 : decode cL_law 620 = .ok (.iconst 1, 1) := by decide +kernel
theorem dL_law_621 : decode cL_law 621 = .ok (.iastore, 1) := by decide +kernel
theorem dL_law_622 : decode cL_law 622 = .ok (.invokestatic 174, 3) := by decide +kernel
theorem dL_law_625 : decode cL_law 625 = .ok (.ldc 71, 2) := by decide +kernel
theorem dL_law_627 : decode cL_law 627 = .ok (.if_icmp .ne 1318, 3) := by decide +kernel
theorem dL_law_630 : decode cL_law 630 = .ok (.aload_n 1, 1) := by decide +kernel
theorem dL_law_631 : decode cL_law 631 = .ok (.bipush 116, 2) := by decide +kernel
theorem dL_law_633 : decode cL_law 633 = .ok (.bipush 8, 2) := by decide +kernel
theorem dL_law_635 : decode cL_law 635 = .ok (.newarray .int, 2) := by decide +kernel
theorem dL_law_637 : decode cL_law 637 = .ok (.dup, 1) := by decide +kernel
theorem dL_law_638 : decode cL_law 638 = .ok (.iconst 0, 1) := by decide +kernel
theorem dL_law_639 : decode cL_law 639 = .ok (.iconst 0, 1) := by decide +kernel
theorem dL_law_640 : decode cL_law 640 = .ok (.iastore, 1) := by decide +kernel
theorem dL_law_641 : decode cL_law 641 = .ok (.dup, 1) := by decide +kernel
theorem dL_law_642 : decode cL_law 642 = .ok (.iconst 1, 1) := by decide +kernel
theorem dL_law_643 : decode cL_law 643 = .ok (.iconst 1, 1) := by decide +kernel
theorem dL_law_644 : decode cL_law 644 = .ok (.iastore, 1) := by decide +kernel
theorem dL_law_645 : decode cL_law 645 = .ok (.dup, 1) := by decide +kernel
theorem dL_law_646 : decode cL_law 646 = .ok (.iconst 2, 1) := by decide +kernel
theorem dL_law_647 : decode cL_law 647 = .ok (.sipush 128, 3) := by decide +kernel
theorem dL_law_650 : decode cL_law 650 = .ok (.iastore, 1) := by decide +kernel
theorem dL_law_651 : decode cL_law 651 = .ok (.dup, 1) := by decide +kernel
theorem dL_law_652 : decode cL_law 652 = .ok (.iconst 3, 1) := by decide +kernel
theorem dL_law_653 : decode cL_law 653 = .ok (.iconst 0, 1) := by decide +kernel
theorem dL_law_654 : decode cL_law 654 = .ok (.iastore, 1) := by decide +kernel
theorem dL_law_655 : decode cL_law 655 = .ok (.dup, 1) := by decide +kernel
theorem dL_law_656 : decode cL_law 656 = .ok (.iconst 4, 1) := by decide +kernel
theorem dL_law_657 : decode cL_law 657 = .ok (.iconst 0, 1) := by decide +kernel
theorem dL_law_658 : decode cL_law 658 = .ok (.iastore, 1) := by decide +kernel
theorem dL_law_659 : decode cL_law 659 = .ok (.dup, 1) := by decide +kernel
theorem dL_law_660 : decode cL_law 660 = .ok (.iconst 5, 1) := by decide +kernel
theorem dL_law_661 : decode cL_law 661 = .ok (.iconst 0, 1) := by decide +kernel
theorem dL_law_662 : decode cL_law 662 = .ok (.iastore, 1) := by decide +kernel
theorem dL_law_663 : decode cL_law 663 = .ok (.dup, 1) := by decide +kernel
theorem dL_law_664 : decode cL_law 664 = .ok (.bipush 6, 2) := by decide +kernel
theorem dL_law_666 : decode cL_law 666 = .ok (.iconst 0, 1) := by decide +kernel
theorem dL_law_667 : decode cL_law 667 = .ok (.iastore, 1) := by decide +kernel
theorem dL_law_668 : decode cL_law 668 = .ok (.dup, 1) := by decide +kernel
theorem dL_law_669 : decode cL_law 669 = .ok (.bipush 7, 2) := by decide +kernel
theorem dL_law_671 : decode cL_law 671 = .ok (.iconst 1, 1) := by decide +kernel
theorem dL_law_672 : decode cL_law 672 = .ok (.iastore, 1) := by decide +kernel
theorem dL_law_673 : decode cL_law 673 = .ok (.invokestatic 174, 3) := by decide +kernel
theorem dL_law_676 : decode cL_law 676 = .ok (.ldc 71, 2) := by decide +kernel
theorem dL_law_678 : decode cL_law 678 = .ok (.if_icmp .ne 1267, 3) := by decide +kernel
theorem dL_law_681 : decode cL_law 681 = .ok (.aload_n 1, 1) := by decide +kernel
theorem dL_law_682 : decode cL_law 682 = .ok (.bipush 116, 2) := by decide +kernel
theorem dL_law_684 : decode cL_law 684 = .ok (.bipush 8, 2) := by decide +kernel
theorem dL_law_686 : decode cL_law 686 = .ok (.newarray .int, 2) := by decide +kernel
theorem dL_law_688 : decode cL_law 688 = .ok (.dup, 1) := by decide +kernel
theorem dL_law_689 : decode cL_law 689 = .ok (.iconst 0, 1) := by decide +kernel
theorem dL_law_690 : decode cL_law 690 = .ok (.iconst 0, 1) := by decide +kernel
theorem dL_law_691 : decode cL_law 691 = .ok (.iastore, 1) := by decide +kernel
theorem dL_law_692 : decode cL_law 692 = .ok (.dup, 1) := by decide +kernel
theorem dL_law_693 : decode cL_law 693 = .ok (.iconst 1, 1) := by decide +kernel
theorem dL_law_694 : decode cL_law 694 = .ok (.iconst 1, 1) := by decide +kernel
theorem dL_law_695 : decode cL_law 695 = .ok (.iastore, 1) := by decide +kernel
theorem dL_law_696 : decode cL_law 696 = .ok (.dup, 1) := by decide +kernel
theorem dL_law_697 : decode cL_law 697 = .ok (.iconst 2, 1) := by decide +kernel
theorem dL_law_698 : decode cL_law 698 = .ok (.iconst 0, 1) := by decide +kernel
theorem dL_law_699 : decode cL_law 699 = .ok (.iastore, 1) := by decide +kernel
theorem dL_law_700 : decode cL_law 700 = .ok (.dup, 1) := by decide +kernel
theorem dL_law_701 : decode cL_law 701 = .ok (.iconst 3, 1) := by decide +kernel
theorem dL_law_702 : decode cL_law 702 = .ok (.iconst 0, 1) := by decide +kernel
theorem dL_law_703 : decode cL_law 703 = .ok (.iastore, 1) := by decide +kernel
theorem dL_law_704 : decode cL_law 704 = .ok (.dup, 1) := by decide +kernel
theorem dL_law_705 : decode cL_law 705 = .ok (.iconst 4, 1) := by decide +kernel
theorem dL_law_706 : decode cL_law 706 = .ok (.bipush 16, 2) := by decide +kernel
theorem dL_law_708 : decode cL_law 708 = .ok (.iastore, 1) := by decide +kernel
theorem dL_law_709 : decode cL_law 709 = .ok (.dup, 1) := by decide +kernel
theorem dL_law_710 : decode cL_law 710 = .ok (.iconst 5, 1) := by decide +kernel
theorem dL_law_711 : decode cL_law 711 = .ok (.iconst 0, 1) := by decide +kernel
theorem dL_law_712 : decode cL_law 712 = .ok (.iastore, 1) := by decide +kernel
theorem dL_law_713 : decode cL_law 713 = .ok (.dup, 1) := by decide +kernel
theorem dL_law_714 : decode cL_law 714 = .ok (.bipush 6, 2) := by decide +kernel
theorem dL_law_716 : decode cL_law 716 = .ok (.iconst 0, 1) := by decide +kernel
theorem dL_law_717 : decode cL_law 717 = .ok (.iastore, 1) := by decide +kernel
theorem dL_law_718 : decode cL_law 718 = .ok (.dup, 1) := by decide +kernel
theorem dL_law_719 : decode cL_law 719 = .ok (.bipush 7, 2) := by decide +kernel
theorem dL_law_721 : decode cL_law 721 = .ok (.iconst 1, 1) := by decide +kernel
theorem dL_law_722 : decode cL_law 722 = .ok (.iastore, 1) := by decide +kernel
theorem dL_law_723 : decode cL_law 723 = .ok (.invokestatic 174, 3) := by decide +kernel
theorem dL_law_726 : decode cL_law 726 = .ok (.ldc 71, 2) := by decide +kernel
theorem dL_law_728 : decode cL_law 728 = .ok (.if_icmp .ne 1217, 3) := by decide +kernel
theorem dL_law_731 : decode cL_law 731 = .ok (.aload_n 1, 1) := by decide +kernel
theorem dL_law_732 : decode cL_law 732 = .ok (.bipush 116, 2) := by decide +kernel
theorem dL_law_734 : decode cL_law 734 = .ok (.bipush 8, 2) := by decide +kernel
theorem dL_law_736 : decode cL_law 736 = .ok (.newarray .int, 2) := by decide +kernel
theorem dL_law_738 : decode cL_law 738 = .ok (.dup, 1) := by decide +kernel
theorem dL_law_739 : decode cL_law 739 = .ok (.iconst 0, 1) := by decide +kernel
theorem dL_law_740 : decode cL_law 740 = .ok (.iconst 0, 1) := by decide +kernel
theorem dL_law_741 : decode cL_law 741 = .ok (.iastore, 1) := by decide +kernel
theorem dL_law_742 : decode cL_law 742 = .ok (.dup, 1) := by decide +kernel
theorem dL_law_743 : decode cL_law 743 = .ok (.iconst 1, 1) := by decide +kernel
theorem dL_law_744 : decode cL_law 744 = .ok (.iconst 1, 1) := by decide +kernel
theorem dL_law_745 : decode cL_law 745 = .ok (.iastore, 1) := by decide +kernel
theorem dL_law_746 : decode cL_law 746 = .ok (.dup, 1) := by decide +kernel
theorem dL_law_747 : decode cL_law 747 = .ok (.iconst 2, 1) := by decide +kernel
theorem dL_law_748 : decode cL_law 748 = .ok (.iconst 0, 1) := by decide +kernel
theorem dL_law_749 : decode cL_law 749 = .ok (.iastore, 1) := by decide +kernel
theorem dL_law_750 : decode cL_law 750 = .ok (.dup, 1) := by decide +kernel
theorem dL_law_751 : decode cL_law 751 = .ok (.iconst 3, 1) := by decide +kernel
theorem dL_law_752 : decode cL_law 752 = .ok (.iconst 0, 1) := by decide +kernel
theorem dL_law_753 : decode cL_law 753 = .ok (.iastore, 1) := by decide +kernel
theorem dL_law_754 : decode cL_law 754 = .ok (.dup, 1) := by decide +kernel
theorem dL_law_755 : decode cL_law 755 = .ok (.iconst 4, 1) := by decide +kernel
theorem dL_law_756 : decode cL_law 756 = .ok (.iconst 0, 1) := by decide +kernel
theorem dL_law_757 : decode cL_law 757 = .ok (.iastore, 1) := by decide +kernel
theorem dL_law_758 : decode cL_law 758 = .ok (.dup, 1) := by decide +kernel
theorem dL_law_759 : decode cL_law 759 = .ok (.iconst 5, 1) := by decide +kernel
theorem dL_law_760 : decode cL_law 760 = .ok (.iconst 0, 1) := by decide +kernel
theorem dL_law_761 : decode cL_law 761 = .ok (.iastore, 1) := by decide +kernel
theorem dL_law_762 : decode cL_law 762 = .ok (.dup, 1) := by decide +kernel
theorem dL_law_763 : decode cL_law 763 = .ok (.bipush 6, 2) := by decide +kernel
theorem dL_law_765 : decode cL_law 765 = .ok (.iconst 0, 1) := by decide +kernel
theorem dL_law_766 : decode cL_law 766 = .ok (.iastore, 1) := by decide +kernel
theorem dL_law_767 : decode cL_law 767 = .ok (.dup, 1) := by decide +kernel
theorem dL_law_768 : decode cL_law 768 = .ok (.bipush 7, 2) := by decide +kernel
theorem dL_law_770 : decode cL_law 770 = .ok (.bipush 51, 2) := by decide +kernel
theorem dL_law_772 : decode cL_law 772 = .ok (.iastore, 1) := by decide +kernel
theorem dL_law_773 : decode cL_law 773 = .ok (.invokestatic 174, 3) := by decide +kernel
theorem dL_law_776 : decode cL_law 776 = .ok (.ldc 71, 2) := by decide +kernel
theorem dL_law_778 : decode cL_law 778 = .ok (.if_icmp .ne 1167, 3) := by decide +kernel
theorem dL_law_781 : decode cL_law 781 = .ok (.aload_n 1, 1) := by decide +kernel
theorem dL_law_782 : decode cL_law 782 = .ok (.bipush 116, 2) := by decide +kernel
theorem dL_law_784 : decode cL_law 784 = .ok (.bipush 8, 2) := by decide +kernel
theorem dL_law_786 : decode cL_law 786 = .ok (.newarray .int, 2) := by decide +kernel
theorem dL_law_788 : decode cL_law 788 = .ok (.dup, 1) := by decide +kernel
theorem dL_law_789 : decode cL_law 789 = .ok (.iconst 0, 1) := by decide +kernel
theorem dL_law_790 : decode cL_law 790 = .ok (.iconst 0, 1) := by decide +kernel
theorem dL_law_791 : decode cL_law 791 = .ok (.iastore, 1) := by decide +kernel
theorem dL_law_792 : decode cL_law 792 = .ok (.dup, 1) := by decide +kernel
theorem dL_law_793 : decode cL_law 793 = .ok (.iconst 1, 1) := by decide +kernel
theorem dL_law_794 : decode cL_law 794 = .ok (.iconst 1, 1) := by decide +kernel
theorem dL_law_795 : decode cL_law 795 = .ok (.iastore, 1) := by decide +kernel
theorem dL_law_796 : decode cL_law 796 = .ok (.dup, 1) := by decide +kernel
theorem dL_law_797 : decode cL_law 797 = .ok (.iconst 2, 1) := by decide +kernel
theorem dL_law_798 : decode cL_law 798 = .ok (.iconst 0, 1) := by decide +kernel
theorem dL_law_799 : decode cL_law 799 = .ok (.iastore, 1) := by decide +kernel
theorem dL_law_800 : decode cL_law 800 = .ok (.dup, 1) := by decide +kernel
theorem dL_law_801 : decode cL_law 801 = .ok (.iconst 3, 1) := by decide +kernel
theorem dL_law_802 : decode cL_law 802 = .ok (.iconst 0, 1) := by decide +kernel
theorem dL_law_803 : decode cL_law 803 = .ok (.iastore, 1) := by decide +kernel
theorem dL_law_804 : decode cL_law 804 = .ok (.dup, 1) := by decide +kernel
theorem dL_law_805 : decode cL_law 805 = .ok (.iconst 4, 1) := by decide +kernel
theorem dL_law_806 : decode cL_law 806 = .ok (.iconst 0, 1) := by decide +kernel
theorem dL_law_807 : decode cL_law 807 = .ok (.iastore, 1) := by decide +kernel
theorem dL_law_808 : decode cL_law 808 = .ok (.dup, 1) := by decide +kernel
theorem dL_law_809 : decode cL_law 809 = .ok (.iconst 5, 1) := by decide +kernel
theorem dL_law_810 : decode cL_law 810 = .ok (.iconst 0, 1) := by decide +kernel
theorem dL_law_811 : decode cL_law 811 = .ok (.iastore, 1) := by decide +kernel
theorem dL_law_812 : decode cL_law 812 = .ok (.dup, 1) := by decide +kernel
theorem dL_law_813 : decode cL_law 813 = .ok (.bipush 6, 2) := by decide +kernel
theorem dL_law_815 : decode cL_law 815 = .ok (.sipush 9990, 3) := by decide +kernel
theorem dL_law_818 : decode cL_law 818 = .ok (.iastore, 1) := by decide +kernel
theorem dL_law_819 : decode cL_law 819 = .ok (.dup, 1) := by decide +kernel
theorem dL_law_820 : decode cL_law 820 = .ok (.bipush 7, 2) := by decide +kernel
theorem dL_law_822 : decode cL_law 822 = .ok (.iconst 1, 1) := by decide +kernel
theorem dL_law_823 : decode cL_law 823 = .ok (.iastore, 1) := by decide +kernel
theorem dL_law_824 : decode cL_law 824 = .ok (.invokestatic 174, 3) := by decide +kernel
theorem dL_law_827 : decode cL_law 827 = .ok (.ldc 74, 2) := by decide +kernel
theorem dL_law_829 : decode cL_law 829 = .ok (.if_icmp .ne 1116, 3) := by decide +kernel
theorem dL_law_832 : decode cL_law 832 = .ok (.aload_n 1, 1) := by decide +kernel
theorem dL_law_833 : decode cL_law 833 = .ok (.bipush 102, 2) := by decide +kernel
theorem dL_law_835 : decode cL_law 835 = .ok (.bipush 7, 2) := by decide +kernel
theorem dL_law_837 : decode cL_law 837 = .ok (.newarray .int, 2) := by decide +kernel
theorem dL_law_839 : decode cL_law 839 = .ok (.dup, 1) := by decide +kernel
theorem dL_law_840 : decode cL_law 840 = .ok (.iconst 0, 1) := by decide +kernel
theorem dL_law_841 : decode cL_law 841 = .ok (.iconst 0, 1) := by decide +kernel
theorem dL_law_842 : decode cL_law 842 = .ok (.iastore, 1) := by decide +kernel
theorem dL_law_843 : decode cL_law 843 = .ok (.dup, 1) := by decide +kernel
theorem dL_law_844 : decode cL_law 844 = .ok (.iconst 1, 1) := by decide +kernel
theorem dL_law_845 : decode cL_law 845 = .ok (.iconst 1, 1) := by decide +kernel
theorem dL_law_846 : decode cL_law 846 = .ok (.iastore, 1) := by decide +kernel
theorem dL_law_847 : decode cL_law 847 = .ok (.dup, 1) := by decide +kernel
theorem dL_law_848 : decode cL_law 848 = .ok (.iconst 2, 1) := by decide +kernel
theorem dL_law_849 : decode cL_law 849 = .ok (.iconst 4, 1) := by decide +kernel
theorem dL_law_850 : decode cL_law 850 = .ok (.iastore, 1) := by decide +kernel
theorem dL_law_851 : decode cL_law 851 = .ok (.dup, 1) := by decide +kernel
theorem dL_law_852 : decode cL_law 852 = .ok (.iconst 3, 1) := by decide +kernel
theorem dL_law_853 : decode cL_law 853 = .ok (.iconst 0, 1) := by decide +kernel
theorem dL_law_854 : decode cL_law 854 = .ok (.iastore, 1) := by decide +kernel
theorem dL_law_855 : decode cL_law 855 = .ok (.dup, 1) := by decide +kernel
theorem dL_law_856 : decode cL_law 856 = .ok (.iconst 4, 1) := by decide +kernel
theorem dL_law_857 : decode cL_law 857 = .ok (.iconst 0, 1) := by decide +kernel
theorem dL_law_858 : decode cL_law 858 = .ok (.iastore, 1) := by decide +kernel
theorem dL_law_859 : decode cL_law 859 = .ok (.dup, 1) := by decide +kernel
theorem dL_law_860 : decode cL_law 860 = .ok (.iconst 5, 1) := by decide +kernel
theorem dL_law_861 : decode cL_law 861 = .ok (.iconst 1, 1) := by decide +kernel
theorem dL_law_862 : decode cL_law 862 = .ok (.iastore, 1) := by decide +kernel
theorem dL_law_863 : decode cL_law 863 = .ok (.dup, 1) := by decide +kernel
theorem dL_law_864 : decode cL_law 864 = .ok (.bipush 6, 2) := by decide +kernel
theorem dL_law_866 : decode cL_law 866 = .ok (.iconst 0, 1) := by decide +kernel
theorem dL_law_867 : decode cL_law 867 = .ok (.iastore, 1) := by decide +kernel
theorem dL_law_868 : decode cL_law 868 = .ok (.invokestatic 174, 3) := by decide +kernel
theorem dL_law_871 : decode cL_law 871 = .ok (.ldc 68, 2) := by decide +kernel
theorem dL_law_873 : decode cL_law 873 = .ok (.if_icmp .ne 1072, 3) := by decide +kernel
theorem dL_law_876 : decode cL_law 876 = .ok (.aload_n 1, 1) := by decide +kernel
theorem dL_law_877 : decode cL_law 877 = .ok (.bipush 102, 2) := by decide +kernel
theorem dL_law_879 : decode cL_law 879 = .ok (.bipush 7, 2) := by decide +kernel
theorem dL_law_881 : decode cL_law 881 = .ok (.newarray .int, 2) := by decide +kernel
theorem dL_law_883 : decode cL_law 883 = .ok (.dup, 1) := by decide +kernel
theorem dL_law_884 : decode cL_law 884 = .ok (.iconst 0, 1) := by decide +kernel
theorem dL_law_885 : decode cL_law 885 = .ok (.iconst 0, 1) := by decide +kernel
theorem dL_law_886 : decode cL_law 886 = .ok (.iastore, 1) := by decide +kernel
theorem dL_law_887 : decode cL_law 887 = .ok (.dup, 1) := by decide +kernel
theorem dL_law_888 : decode cL_law 888 = .ok (.iconst 1, 1) := by decide +kernel
theorem dL_law_889 : decode cL_law 889 = .ok (.iconst 1, 1) := by decide +kernel
theorem dL_law_890 : decode cL_law 890 = .ok (.iastore, 1) := by decide +kernel
theorem dL_law_891 : decode cL_law 891 = .ok (.dup, 1) := by decide +kernel
theorem dL_law_892 : decode cL_law 892 = .ok (.iconst 2, 1) := by decide +kernel
theorem dL_law_893 : decode cL_law 893 = .ok (.iconst 1, 1) := by decide +kernel
theorem dL_law_894 : decode cL_law 894 = .ok (.iastore, 1) := by decide +kernel
theorem dL_law_895 : decode cL_law 895 = .ok (.dup, 1) := by decide +kernel
theorem dL_law_896 : decode cL_law 896 = .ok (.iconst 3, 1) := by decide +kernel
theorem dL_law_897 : decode cL_law 897 = .ok (.iconst 0, 1) := by decide +kernel
theorem dL_law_898 : decode cL_law 898 = .ok (.iastore, 1) := by decide +kernel
theorem dL_law_899 : decode cL_law 899 = .ok (.dup, 1) := by decide +kernel
theorem dL_law_900 : decode cL_law 900 = .ok (.iconst 4, 1) := by decide +kernel
theorem dL_law_901 : decode cL_law 901 = .ok (.iconst 0, 1) := by decide +kernel
theorem dL_law_902 : decode cL_law 902 = .ok (.iastore, 1) := by decide +kernel
theorem dL_law_903 : decode cL_law 903 = .ok (.dup, 1) := by decide +kernel
theorem dL_law_904 : decode cL_law 904 = .ok (.iconst 5, 1) := by decide +kernel
theorem dL_law_905 : decode cL_law 905 = .ok (.iconst 1, 1) := by decide +kernel
theorem dL_law_906 : decode cL_law 906 = .ok (.iastore, 1) := by decide +kernel
theorem dL_law_907 : decode cL_law 907 = .ok (.dup, 1) := by decide +kernel
theorem dL_law_908 : decode cL_law 908 = .ok (.bipush 6, 2) := by decide +kernel
theorem dL_law_910 : decode cL_law 910 = .ok (.iconst 0, 1) := by decide +kernel
theorem dL_law_911 : decode cL_law 911 = .ok (.iastore, 1) := by decide +kernel
theorem dL_law_912 : decode cL_law 912 = .ok (.invokestatic 174, 3) := by decide +kernel
theorem dL_law_915 : decode cL_law 915 = .ok (.ldc 71, 2) := by decide +kernel
theorem dL_law_917 : decode cL_law 917 = .ok (.if_icmp .ne 1028, 3) := by decide +kernel
theorem dL_law_920 : decode cL_law 920 = .ok (.aload_n 1, 1) := by decide +kernel
theorem dL_law_921 : decode cL_law 921 = .ok (.bipush 102, 2) := by decide +kernel
theorem dL_law_923 : decode cL_law 923 = .ok (.bipush 7, 2) := by decide +kernel
theorem dL_law_925 : decode cL_law 925 = .ok (.newarray .int, 2) := by decide +kernel
theorem dL_law_927 : decode cL_law 927 = .ok (.dup, 1) := by decide +kernel
theorem dL_law_928 : decode cL_law 928 = .ok (.iconst 0, 1) := by decide +kernel
theorem dL_law_929 : decode cL_law 929 = .ok (.iconst 0, 1) := by decide +kernel
theorem dL_law_930 : decode cL_law 930 = .ok (.iastore, 1) := by decide +kernel
theorem dL_law_931 : decode cL_law 931 = .ok (.dup, 1) := by decide +kernel
theorem dL_law_932 : decode cL_law 932 = .ok (.iconst 1, 1) := by decide +kernel
theorem dL_law_933 : decode cL_law 933 = .ok (.iconst 1, 1) := by decide +kernel
theorem dL_law_934 : decode cL_law 934 = .ok (.iastore, 1) := by decide +kernel
theorem dL_law_935 : decode cL_law 935 = .ok (.dup, 1) := by decide +kernel
theorem dL_law_936 : decode cL_law 936 = .ok (.iconst 2, 1) := by decide +kernel
theorem dL_law_937 : decode cL_law 937 = .ok (.iconst 2, 1) := by decide +kernel
theorem dL_law_938 : decode cL_law 938 = .ok (.iastore, 1) := by decide +kernel
theorem dL_law_939 : decode cL_law 939 = .ok (.dup, 1) := by decide +kernel
theorem dL_law_940 : decode cL_law 940 = .ok (.iconst 3, 1) := by decide +kernel
theorem dL_law_941 : decode cL_law 941 = .ok (.iconst 0, 1) := by decide +kernel
theorem dL_law_942 : decode cL_law 942 = .ok (.iastore, 1) := by decide +kernel
theorem dL_law_943 : decode cL_law 943 = .ok (.dup, 1) := by decide +kernel
theorem dL_law_944 : decode cL_law 944 = .ok (.iconst 4, 1) := by decide +kernel
theorem dL_law_945 : decode cL_law 945 = .ok (.iconst 0, 1) := by decide +kernel
theorem dL_law_946 : decode cL_law 946 = .ok (.iastore, 1) := by decide +kernel
theorem dL_law_947 : decode cL_law 947 = .ok (.dup, 1) := by decide +kernel
theorem dL_law_948 : decode cL_law 948 = .ok (.iconst 5, 1) := by decide +kernel
theorem dL_law_949 : decode cL_law 949 = .ok (.iconst 1, 1) := by decide +kernel
theorem dL_law_950 : decode cL_law 950 = .ok (.iastore, 1) := by decide +kernel
theorem dL_law_951 : decode cL_law 951 = .ok (.dup, 1) := by decide +kernel
theorem dL_law_952 : decode cL_law 952 = .ok (.bipush 6, 2) := by decide +kernel
theorem dL_law_954 : decode cL_law 954 = .ok (.iconst 4, 1) := by decide +kernel
theorem dL_law_955 : decode cL_law 955 = .ok (.iastore, 1) := by decide +kernel
theorem dL_law_956 : decode cL_law 956 = .ok (.invokestatic 174, 3) := by decide +kernel
theorem dL_law_959 : decode cL_law 959 = .ok (.ldc 71, 2) := by decide +kernel
theorem dL_law_961 : decode cL_law 961 = .ok (.if_icmp .ne 984, 3) := by decide +kernel
theorem dL_law_964 : decode cL_law 964 = .ok (.aload_n 1, 1) := by decide +kernel
theorem dL_law_965 : decode cL_law 965 = .ok (.bipush 102, 2) := by decide +kernel
theorem dL_law_967 : decode cL_law 967 = .ok (.bipush 7, 2) := by decide +kernel
theorem dL_law_969 : decode cL_law 969 = .ok (.newarray .int, 2) := by decide +kernel
theorem dL_law_971 : decode cL_law 971 = .ok (.dup, 1) := by decide +kernel
theorem dL_law_972 : decode cL_law 972 = .ok (.iconst 0, 1) := by decide +kernel
theorem dL_law_973 : decode cL_law 973 = .ok (.iconst 0, 1) := by decide +kernel
theorem dL_law_974 : decode cL_law 974 = .ok (.iastore, 1) := by decide +kernel
theorem dL_law_975 : decode cL_law 975 = .ok (.dup, 1) := by decide +kernel
theorem dL_law_976 : decode cL_law 976 = .ok (.iconst 1, 1) := by decide +kernel
theorem dL_law_977 : decode cL_law 977 = .ok (.iconst 1, 1) := by decide +kernel
theorem dL_law_978 : decode cL_law 978 = .ok (.iastore, 1) := by decide +kernel
theorem dL_law_979 : decode cL_law 979 = .ok (.dup, 1) := by decide +kernel
theorem dL_law_980 : decode cL_law 980 = .ok (.iconst 2, 1) := by decide +kernel
theorem dL_law_981 : decode cL_law 981 = .ok (.iconst 2, 1) := by decide +kernel
theorem dL_law_982 : decode cL_law 982 = .ok (.iastore, 1) := by decide +kernel
theorem dL_law_983 : decode cL_law 983 = .ok (.dup, 1) := by decide +kernel
theorem dL_law_984 : decode cL_law 984 = .ok (.iconst 3, 1) := by decide +kernel
theorem dL_law_985 : decode cL_law 985 = .ok (.iconst 0, 1) := by decide +kernel
theorem dL_law_986 : decode cL_law 986 = .ok (.iastore, 1) := by decide +kernel
theorem dL_law_987 : decode cL_law 987 = .ok (.dup, 1) := by decide +kernel
theorem dL_law_988 : decode cL_law 988 = .ok (.iconst 4, 1) := by decide +kernel
theorem dL_law_989 : decode cL_law 989 = .ok (.sipush 9990, 3) := by decide +kernel
theorem dL_law_992 : decode cL_law 992 = .ok (.iastore, 1) := by decide +kernel
theorem dL_law_993 : decode cL_law 993 = .ok (.dup, 1) := by decide +kernel
theorem dL_law_994 : decode cL_law 994 = .ok (.iconst 5, 1) := by decide +kernel
theorem dL_law_995 : decode cL_law 995 = .ok (.iconst 1, 1) := by decide +kernel
theorem dL_law_996 : decode cL_law 996 = .ok (.iastore, 1) := by decide +kernel
theorem dL_law_997 : decode cL_law 997 = .ok (.dup, 1) := by decide +kernel
theorem dL_law_998 : decode cL_law 998 = .ok (.bipush 6, 2) := by decide +kernel
theorem dL_law_1000 : decode cL_law 1000 = .ok (.iconst 0, 1) := by decide +kernel
theorem dL_law_1001 : decode cL_law 1001 = .ok (.iastore, 1) := by decide +kernel
theorem dL_law_1002 : decode cL_law 1002 = .ok (.invokestatic 174, 3) := by decide +kernel
theorem dL_law_1005 : decode cL_law 1005 = .ok (.ldc 74, 2) := by decide +kernel
theorem dL_law_1007 : decode cL_law 1007 = .ok (.if_icmp .ne 938, 3) := by decide +kernel
theorem dL_law_1010 : decode cL_law 1010 = .ok (.aload_n 1, 1) := by decide +kernel
theorem dL_law_1011 : decode cL_law 1011 = .ok (.bipush 67, 2) := by decide +kernel
theorem dL_law_1013 : decode cL_law 1013 = .ok (.iconst 4, 1) := by decide +kernel
theorem dL_law_1014 : decode cL_law 1014 = .ok (.newarray .int, 2) := by decide +kernel
theorem dL_law_1016 : decode cL_law 1016 = .ok (.dup, 1) := by decide +kernel
theorem dL_law_1017 : decode cL_law 1017 = .ok (.iconst 0, 1) := by decide +kernel
theorem dL_law_1018 : decode cL_law 1018 = .ok (.iconst 2, 1) := by decide +kernel
theorem dL_law_1019 : decode cL_law 1019 = .ok (.iastore, 1) := by decide +kernel
theorem dL_law_1020 : decode cL_law 1020 = .ok (.dup, 1) := by decide +kernel
theorem dL_law_1021 : decode cL_law 1021 = .ok (.iconst 1, 1) := by decide +kernel
theorem dL_law_1022 : decode cL_law 1022 = .ok (.iconst 0, 1) := by decide +kernel
theorem dL_law_1023 : decode cL_law 1023 = .ok (.iastore, 1) := by decide +kernel
theorem dL_law_1024 : decode cL_law 1024 = .ok (.dup, 1) := by decide +kernel
theorem dL_law_1025 : decode cL_law 1025 = .ok (.iconst 2, 1) := by decide +kernel
theorem dL_law_1026 : decode cL_law 1026 = .ok (.iconst 1, 1) := by decide +kernel
theorem dL_law_1027 : decode cL_law 1027 = .ok (.iastore, 1) := by decide +kernel
theorem dL_law_1028 : decode cL_law 1028 = .ok (.dup, 1) := by decide +kernel
theorem dL_law_1029 : decode cL_law 1029 = .ok (.iconst 3, 1) := by decide +kernel
theorem dL_law_1030 : decode cL_law 1030 = .ok (.iconst 1, 1) := by decide +kernel
theorem dL_law_1031 : decode cL_law 1031 = .ok (.iastore, 1) := by decide +kernel
theorem dL_law_1032 : decode cL_law 1032 = .ok (.invokestatic 174, 3) := by decide +kernel
theorem dL_law_1035 : decode cL_law 1035 = .ok (.ldc 68, 2) := by decide +kernel
theorem dL_law_1037 : decode cL_law 1037 = .ok (.if_icmp .ne 908, 3) := by decide +kernel
theorem dL_law_1040 : decode cL_law 1040 = .ok (.aload_n 1, 1) := by decide +kernel
theorem dL_law_1041 : decode cL_law 1041 = .ok (.bipush 67, 2) := by decide +kernel
theorem dL_law_1043 : decode cL_law 1043 = .ok (.iconst 4, 1) := by decide +kernel
theorem dL_law_1044 : decode cL_law 1044 = .ok (.newarray .int, 2) := by decide +kernel
theorem dL_law_1046 : decode cL_law 1046 = .ok (.dup, 1) := by decide +kernel
theorem dL_law_1047 : decode cL_law 1047 = .ok (.iconst 0, 1) := by decide +kernel
theorem dL_law_1048 : decode cL_law 1048 = .ok (.iconst 0, 1) := by decide +kernel
theorem dL_law_1049 : decode cL_law 1049 = .ok (.iastore, 1) := by decide +kernel
theorem dL_law_1050 : decode cL_law 1050 = .ok (.dup, 1) := by decide +kernel
theorem dL_law_1051 : decode cL_law 1051 = .ok (.iconst 1, 1) := by decide +kernel
theorem dL_law_1052 : decode cL_law 1052 = .ok (.iconst 0, 1) := by decide +kernel
theorem dL_law_1053 : decode cL_law 1053 = .ok (.iastore, 1) := by decide +kernel
theorem dL_law_1054 : decode cL_law 1054 = .ok (.dup, 1) := by decide +kernel
theorem dL_law_1055 : decode cL_law 1055 = .ok (.iconst 2, 1) := by decide +kernel
theorem dL_law_1056 : decode cL_law 1056 = .ok (.iconst 0, 1) := by decide +kernel
theorem dL_law_1057 : decode cL_law 1057 = .ok (.iastore, 1) := by decide +kernel
theorem dL_law_1058 : decode cL_law 1058 = .ok (.dup, 1) := by decide +kernel
theorem dL_law_1059 : decode cL_law 1059 = .ok (.iconst 3, 1) := by decide +kernel
theorem dL_law_1060 : decode cL_law 1060 = .ok (.iconst 1, 1) := by decide +kernel
theorem dL_law_1061 : decode cL_law 1061 = .ok (.iastore, 1) := by decide +kernel
theorem dL_law_1062 : decode cL_law 1062 = .ok (.invokestatic 174, 3) := by decide +kernel
theorem dL_law_1065 : decode cL_law 1065 = .ok (.ldc 71, 2) := by decide +kernel
theorem dL_law_1067 : decode cL_law 1067 = .ok (.if_icmp .ne 878, 3) := by decide +kernel
theorem dL_law_1070 : decode cL_law 1070 = .ok (.aload_n 1, 1) := by decide +kernel
theorem dL_law_1071 : decode cL_law 1071 = .ok (.bipush 67, 2) := by decide +kernel
theorem dL_law_1073 : decode cL_law 1073 = .ok (.iconst 4, 1) := by decide +kernel
theorem dL_law_1074 : decode cL_law 1074 = .ok (.newarray .int, 2) := by decide +kernel
theorem dL_law_1076 : decode cL_law 1076 = .ok (.dup, 1) := by decide +kernel
theorem dL_law_1077 : decode cL_law 1077 = .ok (.iconst 0, 1) := by decide +kernel
theorem dL_law_1078 : decode cL_law 1078 = .ok (.iconst 0, 1) := by decide +kernel
theorem dL_law_1079 : decode cL_law 1079 = .ok (.iastore, 1) := by decide +kernel
theorem dL_law_1080 : decode cL_law 1080 = .ok (.dup, 1) := by decide +kernel
theorem dL_law_1081 : decode cL_law 1081 = .ok (.iconst 1, 1) := by decide +kernel
theorem dL_law_1082 : decode cL_law 1082 = .ok (.iconst 0, 1) := by decide +kernel
theorem dL_law_1083 : decode cL_law 1083 = .ok (.iastore, 1) := by decide +kernel
theorem dL_law_1084 : decode cL_law 1084 = .ok (.dup, 1) := by decide +kernel
theorem dL_law_1085 : decode cL_law 1085 = .ok (.iconst 2, 1) := by decide +kernel
theorem dL_law_1086 : decode cL_law 1086 = .ok (.iconst 1, 1) := by decide +kernel
theorem dL_law_1087 : decode cL_law 1087 = .ok (.iastore, 1) := by decide +kernel
theorem dL_law_1088 : decode cL_law 1088 = .ok (.dup, 1) := by decide +kernel
theorem dL_law_1089 : decode cL_law 1089 = .ok (.iconst 3, 1) := by decide +kernel
theorem dL_law_1090 : decode cL_law 1090 = .ok (.sipush 401, 3) := by decide +kernel
theorem dL_law_1093 : decode cL_law 1093 = .ok (.iastore, 1) := by decide +kernel
theorem dL_law_1094 : decode cL_law 1094 = .ok (.invokestatic 174, 3) := by decide +kernel
theorem dL_law_1097 : decode cL_law 1097 = .ok (.ldc 71, 2) := by decide +kernel
theorem dL_law_1099 : decode cL_law 1099 = .ok (.if_icmp .ne 846, 3) := by decide +kernel
theorem dL_law_1102 : decode cL_law 1102 = .ok (.aload_n 1, 1) := by decide +kernel
theorem dL_law_1103 : decode cL_law 1103 = .ok (.bipush 67, 2) := by decide +kernel
theorem dL_law_1105 : decode cL_law 1105 = .ok (.iconst 4, 1) := by decide +kernel
theorem dL_law_1106 : decode cL_law 1106 = .ok (.newarray .int, 2) := by decide +kernel
theorem dL_law_1108 : decode cL_law 1108 = .ok (.dup, 1) := by decide +kernel
theorem dL_law_1109 : decode cL_law 1109 = .ok (.iconst 0, 1) := by decide +kernel
theorem dL_law_1110 : decode cL_law 1110 = .ok (.iconst 0, 1) := by decide +kernel
theorem dL_law_1111 : decode cL_law 1111 = .ok (.iastore, 1) := by decide +kernel
theorem dL_law_1112 : decode cL_law 1112 = .ok (.dup, 1) := by decide +kernel
theorem dL_law_1113 : decode cL_law 1113 = .ok (.iconst 1, 1) := by decide +kernel
theorem dL_law_1114 : decode cL_law 1114 = .ok (.sipush 9999, 3) := by decide +kernel
theorem dL_law_1117 : decode cL_law 1117 = .ok (.iastore, 1) := by decide +kernel
theorem dL_law_1118 : decode cL_law 1118 = .ok (.dup, 1) := by decide +kernel
theorem dL_law_1119 : decode cL_law 1119 = .ok (.iconst 2, 1) := by decide +kernel
theorem dL_law_1120 : decode cL_law 1120 = .ok (.iconst 1, 1) := by decide +kernel
theorem dL_law_1121 : decode cL_law 1121 = .ok (.iastore, 1) := by decide +kernel
theorem dL_law_1122 : decode cL_law 1122 = .ok (.dup, 1) := by decide +kernel
theorem dL_law_1123 : decode cL_law 1123 = .ok (.iconst 3, 1) := by decide +kernel
theorem dL_law_1124 : decode cL_law 1124 = .ok (.iconst 2, 1) := by decide +kernel
theorem dL_law_1125 : decode cL_law 1125 = .ok (.iastore, 1) := by decide +kernel
theorem dL_law_1126 : decode cL_law 1126 = .ok (.invokestatic 174, 3) := by decide +kernel
theorem dL_law_1129 : decode cL_law 1129 = .ok (.ldc 71, 2) := by decide +kernel
theorem dL_law_1131 : decode cL_law 1131 = .ok (.if_icmp .ne 814, 3) := by decide +kernel
theorem dL_law_1134 : decode cL_law 1134 = .ok (.aload_n 1, 1) := by decide +kernel
theorem dL_law_1135 : decode cL_law 1135 = .ok (.bipush 83, 2) := by decide +kernel
theorem dL_law_1137 : decode cL_law 1137 = .ok (.iconst 1, 1) := by decide +kernel
theorem dL_law_1138 : decode cL_law 1138 = .ok (.newarray .int, 2) := by decide +kernel
theorem dL_law_1140 : decode cL_law 1140 = .ok (.dup, 1) := by decide +kernel
theorem dL_law_1141 : decode cL_law 1141 = .ok (.iconst 0, 1) := by decide +kernel
theorem dL_law_1142 : decode cL_law 1142 = .ok (.iconst 2, 1) := by decide +kernel
theorem dL_law_1143 : decode cL_law 1143 = .ok (.iastore, 1) := by decide +kernel
theorem dL_law_1144 : decode cL_law 1144 = .ok (.invokestatic 174, 3) := by decide +kernel
theorem dL_law_1147 : decode cL_law 1147 = .ok (.ldc 68, 2) := by decide +kernel
theorem dL_law_1149 : decode cL_law 1149 = .ok (.if_icmp .ne 796, 3) := by decide +kernel
theorem dL_law_1152 : decode cL_law 1152 = .ok (.aload_n 1, 1) := by decide +kernel
theorem dL_law_1153 : decode cL_law 1153 = .ok (.bipush 83, 2) := by decide +kernel
theorem dL_law_1155 : decode cL_law 1155 = .ok (.iconst 1, 1) := by decide +kernel
theorem dL_law_1156 : decode cL_law 1156 = .ok (.newarray .int, 2) := by decide +kernel
theorem dL_law_1158 : decode cL_law 1158 = .ok (.dup, 1) := by decide +kernel
theorem dL_law_1159 : decode cL_law 1159 = .ok (.iconst 0, 1) := by decide +kernel
theorem dL_law_1160 : decode cL_law 1160 = .ok (.iconst 0, 1) := by decide +kernel
theorem dL_law_1161 : decode cL_law 1161 = .ok (.iastore, 1) := by decide +kernel
theorem dL_law_1162 : decode cL_law 1162 = .ok (.invokestatic 174, 3) := by decide +kernel
theorem dL_law_1165 : decode cL_law 1165 = .ok (.ifCond .ne 780, 3) := by decide +kernel
theorem dL_law_1168 : decode cL_law 1168 = .ok (.aload_n 1, 1) := by decide +kernel
theorem dL_law_1169 : decode cL_law 1169 = .ok (.bipush 97, 2) := by decide +kernel
theorem dL_law_1171 : decode cL_law 1171 = .ok (.iconst 2, 1) := by decide +kernel
theorem dL_law_1172 : decode cL_law 1172 = .ok (.newarray .int, 2) := by decide +kernel
theorem dL_law_1174 : decode cL_law 1174 = .ok (.dup, 1) := by decide +kernel
theorem dL_law_1175 : decode cL_law 1175 = .ok (.iconst 0, 1) := by decide +kernel
theorem dL_law_1176 : decode cL_law 1176 = .ok (.iconst 0, 1) := by decide +kernel
theorem dL_law_1177 : decode cL_law 1177 = .ok (.iastore, 1) := by decide +kernel
theorem dL_law_1178 : decode cL_law 1178 = .ok (.dup, 1) := by decide +kernel
theorem dL_law_1179 : decode cL_law 1179 = .ok (.iconst 1, 1) := by decide +kernel
theorem dL_law_1180 : decode cL_law 1180 = .ok (.iconst 0, 1) := by decide +kernel
theorem dL_law_1181 : decode cL_law 1181 = .ok (.iastore, 1) := by decide +kernel
theorem dL_law_1182 : decode cL_law 1182 = .ok (.invokestatic 174, 3) := by decide +kernel
theorem dL_law_1185 : decode cL_law 1185 = .ok (.ldc 80, 2) := by decide +kernel
theorem dL_law_1187 : decode cL_law 1187 = .ok (.if_icmp .ne 758, 3) := by decide +kernel
theorem dL_law_1190 : decode cL_law 1190 = .ok (.aload_n 1, 1) := by decide +kernel
theorem dL_law_1191 : decode cL_law 1191 = .ok (.bipush 114, 2) := by decide +kernel
theorem dL_law_1193 : decode cL_law 1193 = .ok (.iconst 2, 1) := by decide +kernel
theorem dL_law_1194 : decode cL_law 1194 = .ok (.newarray .int, 2) := by decide +kernel
theorem dL_law_1196 : decode cL_law 1196 = .ok (.dup, 1) := by decide +kernel
theorem dL_law_1197 : decode cL_law 1197 = .ok (.iconst 0, 1) := by decide +kernel
theorem dL_law_1198 : decode cL_law 1198 = .ok (.iconst 0, 1) := by decide +kernel
theorem dL_law_1199 : decode cL_law 1199 = .ok (.iastore, 1) := by decide +kernel
theorem dL_law_1200 : decode cL_law 1200 = .ok (.dup, 1) := by decide +kernel
theorem dL_law_1201 : decode cL_law 1201 = .ok (.iconst 1, 1) := by decide +kernel
theorem dL_law_1202 : decode cL_law 1202 = .ok (.iconst 4, 1) := by decide +kernel
theorem dL_law_1203 : decode cL_law 1203 = .ok (.iastore, 1) := by decide +kernel
theorem dL_law_1204 : decode cL_law 1204 = .ok (.invokestatic 174, 3) := by decide +kernel
theorem dL_law_1207 : decode cL_law 1207 = .ok (.ldc 68, 2) := by decide +kernel
theorem dL_law_1209 : decode cL_law 1209 = .ok (.if_icmp .ne 736, 3) := by decide +kernel
theorem dL_law_1212 : decode cL_law 1212 = .ok (.aload_n 1, 1) := by decide +kernel
theorem dL_law_1213 : decode cL_law 1213 = .ok (.bipush 114, 2) := by decide +kernel
theorem dL_law_1215 : decode cL_law 1215 = .ok (.iconst 2, 1) := by decide +kernel
theorem dL_law_1216 : decode cL_law 1216 = .ok (.newarray .int, 2) := by decide +kernel
theorem dL_law_1218 : decode cL_law 1218 = .ok (.dup, 1) := by decide +kernel
theorem dL_law_1219 : decode cL_law 1219 = .ok (.iconst 0, 1) := by decide +kernel
theorem dL_law_1220 : decode cL_law 1220 = .ok (.iconst 0, 1) := by decide +kernel
theorem dL_law_1221 : decode cL_law 1221 = .ok (.iastore, 1) := by decide +kernel
theorem dL_law_1222 : decode cL_law 1222 = .ok (.dup, 1) := by decide +kernel
theorem dL_law_1223 : decode cL_law 1223 = .ok (.iconst 1, 1) := by decide +kernel
theorem dL_law_1224 : decode cL_law 1224 = .ok (.iconst 0, 1) := by decide +kernel
theorem dL_law_1225 : decode cL_law 1225 = .ok (.iastore, 1) := by decide +kernel
theorem dL_law_1226 : decode cL_law 1226 = .ok (.invokestatic 174, 3) := by decide +kernel
theorem dL_law_1229 : decode cL_law 1229 = .ok (.ifCond .ne 716, 3) := by decide +kernel
theorem dL_law_1232 : decode cL_law 1232 = .ok (.aload_n 1, 1) := by decide +kernel
theorem dL_law_1233 : decode cL_law 1233 = .ok (.bipush 82, 2) := by decide +kernel
theorem dL_law_1235 : decode cL_law 1235 = .ok (.iconst 3, 1) := by decide +kernel
theorem dL_law_1236 : decode cL_law 1236 = .ok (.newarray .int, 2) := by decide +kernel
theorem dL_law_1238 : decode cL_law 1238 = .ok (.dup, 1) := by decide +kernel
theorem dL_law_1239 : decode cL_law 1239 = .ok (.iconst 0, 1) := by decide +kernel
theorem dL_law_1240 : decode cL_law 1240 = .ok (.iconst 0, 1) := by decide +kernel
theorem dL_law_1241 : decode cL_law 1241 = .ok (.iastore, 1) := by decide +kernel
theorem dL_law_1242 : decode cL_law 1242 = .ok (.dup, 1) := by decide +kernel
theorem dL_law_1243 : decode cL_law 1243 = .ok (.iconst 1, 1) := by decide +kernel
theorem dL_law_1244 : decode cL_law 1244 = .ok (.iconst 0, 1) := by decide +kernel
theorem dL_law_1245 : decode cL_law 1245 = .ok (.iastore, 1) := by decide +kernel
theorem dL_law_1246 : decode cL_law 1246 = .ok (.dup, 1) := by decide +kernel
theorem dL_law_1247 : decode cL_law 1247 = .ok (.iconst 2, 1) := by decide +kernel
theorem dL_law_1248 : decode cL_law 1248 = .ok (.iconst 0, 1) := by decide +kernel
theorem dL_law_1249 : decode cL_law 1249 = .ok (.iastore, 1) := by decide +kernel
theorem dL_law_1250 : decode cL_law 1250 = .ok (.invokestatic 174, 3) := by decide +kernel
theorem dL_law_1253 : decode cL_law 1253 = .ok (.ldc 80, 2) := by decide +kernel
theorem dL_law_1255 : decode cL_law 1255 = .ok (.if_icmp .ne 690, 3) := by decide +kernel
theorem dL_law_1258 : decode cL_law 1258 = .ok (.aload_n 1, 1) := by decide +kernel
theorem dL_law_1259 : decode cL_law 1259 = .ok (.bipush 104, 2) := by decide +kernel
theorem dL_law_1261 : decode cL_law 1261 = .ok (.iconst 2, 1) := by decide +kernel
theorem dL_law_1262 : decode cL_law 1262 = .ok (.newarray .int, 2) := by decide +kernel
theorem dL_law_1264 : decode cL_law 1264 = .ok (.dup, 1) := by decide +kernel
theorem dL_law_1265 : decode cL_law 1265 = .ok (.iconst 0, 1) := by decide +kernel
theorem dL_law_1266 : decode cL_law 1266 = .ok (.iconst 0, 1) := by decide +kernel
theorem dL_law_1267 : decode cL_law 1267 = .ok (.iastore, 1) := by decide +kernel
theorem dL_law_1268 : decode cL_law 1268 = .ok (.dup, 1) := by decide +kernel
theorem dL_law_1269 : decode cL_law 1269 = .ok (.iconst 1, 1) := by decide +kernel
theorem dL_law_1270 : decode cL_law 1270 = .ok (.iconst 0, 1) := by decide +kernel
theorem dL_law_1271 : decode cL_law 1271 = .ok (.iastore, 1) := by decide +kernel
theorem dL_law_1272 : decode cL_law 1272 = .ok (.invokestatic 174, 3) := by decide +kernel
theorem dL_law_1275 : decode cL_law 1275 = .ok (.ldc 80, 2) := by decide +kernel
theorem dL_law_1277 : decode cL_law 1277 = .ok (.if_icmp .ne 668, 3) := by decide +kernel
theorem dL_law_1280 : decode cL_law 1280 = .ok (.aload_n 1, 1) := by decide +kernel
theorem dL_law_1281 : decode cL_law 1281 = .ok (.bipush 66, 2) := by decide +kernel
theorem dL_law_1283 : decode cL_law 1283 = .ok (.iconst 4, 1) := by decide +kernel
theorem dL_law_1284 : decode cL_law 1284 = .ok (.newarray .int, 2) := by decide +kernel
theorem dL_law_1286 : decode cL_law 1286 = .ok (.dup, 1) := by decide +kernel
theorem dL_law_1287 : decode cL_law 1287 = .ok (.iconst 0, 1) := by decide +kernel
theorem dL_law_1288 : decode cL_law 1288 = .ok (.iconst 0, 1) := by decide +kernel
theorem dL_law_1289 : decode cL_law 1289 = .ok (.iastore, 1) := by decide +kernel
theorem dL_law_1290 : decode cL_law 1290 = .ok (.dup, 1) := by decide +kernel
theorem dL_law_1291 : decode cL_law 1291 = .ok (.iconst 1, 1) := by decide +kernel
theorem dL_law_1292 : decode cL_law 1292 = .ok (.iconst 0, 1) := by decide +kernel
theorem dL_law_1293 : decode cL_law 1293 = .ok (.iastore, 1) := by decide +kernel
theorem dL_law_1294 : decode cL_law 1294 = .ok (.dup, 1) := by decide +kernel
theorem dL_law_1295 : decode cL_law 1295 = .ok (.iconst 2, 1) := by decide +kernel
theorem dL_law_1296 : decode cL_law 1296 = .ok (.bipush 10, 2) := by decide +kernel
theorem dL_law_1298 : decode cL_law 1298 = .ok (.iastore, 1) := by decide +kernel
theorem dL_law_1299 : decode cL_law 1299 = .ok (.dup, 1) := by decide +kernel
theorem dL_law_1300 : decode cL_law 1300 = .ok (.iconst 3, 1) := by decide +kernel
theorem dL_law_1301 : decode cL_law 1301 = .ok (.iconst 0, 1) := by decide +kernel
theorem dL_law_1302 : decode cL_law 1302 = .ok (.iastore, 1) := by decide +kernel
theorem dL_law_1303 : decode cL_law 1303 = .ok (.invokestatic 174, 3) := by decide +kernel
theorem dL_law_1306 : decode cL_law 1306 = .ok (.ldc 71, 2) := by decide +kernel
theorem dL_law_1308 : decode cL_law 1308 = .ok (.if_icmp .ne 637, 3) := by decide +kernel
theorem dL_law_1311 : decode cL_law 1311 = .ok (.aload_n 1, 1) := by decide +kernel
theorem dL_law_1312 : decode cL_law 1312 = .ok (.bipush 66, 2) := by decide +kernel
theorem dL_law_1314 : decode cL_law 1314 = .ok (.iconst 4, 1) := by decide +kernel
theorem dL_law_1315 : decode cL_law 1315 = .ok (.newarray .int, 2) := by decide +kernel
theorem dL_law_1317 : decode cL_law 1317 = .ok (.dup, 1) := by decide +kernel
theorem dL_law_1318 : decode cL_law 1318 = .ok (.iconst 0, 1) := by decide +kernel
theorem dL_law_1319 : decode cL_law 1319 = .ok (.iconst 0, 1) := by decide +kernel
theorem dL_law_1320 : decode cL_law 1320 = .ok (.iastore, 1) := by decide +kernel
theorem dL_law_1321 : decode cL_law 1321 = .ok (.dup, 1) := by decide +kernel
theorem dL_law_1322 : decode cL_law 1322 = .ok (.iconst 1, 1) := by decide +kernel
theorem dL_law_1323 : decode cL_law 1323 = .ok (.iconst 0, 1) := by decide +kernel
theorem dL_law_1324 : decode cL_law 1324 = .ok (.iastore, 1) := by decide +kernel
theorem dL_law_1325 : decode cL_law 1325 = .ok (.dup, 1) := by decide +kernel
theorem dL_law_1326 : decode cL_law 1326 = .ok (.iconst 2, 1) := by decide +kernel
theorem dL_law_1327 : decode cL_law 1327 = .ok (.iconst 0, 1) := by decide +kernel
theorem dL_law_1328 : decode cL_law 1328 = .ok (.iastore, 1) := by decide +kernel
theorem dL_law_1329 : decode cL_law 1329 = .ok (.dup, 1) := by decide +kernel
theorem dL_law_1330 : decode cL_law 1330 = .ok (.iconst 3, 1) := by decide +kernel
theorem dL_law_1331 : decode cL_law 1331 = .ok (.iconst 0, 1) := by decide +kernel
theorem dL_law_1332 : decode cL_law 1332 = .ok (.iastore, 1) := by decide +kernel
theorem dL_law_1333 : decode cL_law 1333 = .ok (.invokestatic 174, 3) := by decide +kernel
theorem dL_law_1336 : decode cL_law 1336 = .ok (.ldc 80, 2) := by decide +kernel
theorem dL_law_1338 : decode cL_law 1338 = .ok (.if_icmp .ne 607, 3) := by decide +kernel
theorem dL_law_1341 : decode cL_law 1341 = .ok (.aload_n 1, 1) := by decide +kernel
theorem dL_law_1342 : decode cL_law 1342 = .ok (.bipush 112, 2) := by decide +kernel
theorem dL_law_1344 : decode cL_law 1344 = .ok (.iconst 3, 1) := by decide +kernel
theorem dL_law_1345 : decode cL_law 1345 = .ok (.newarray .int, 2) := by decide +kernel
theorem dL_law_1347 : decode cL_law 1347 = .ok (.dup, 1) := by decide +kernel
theorem dL_law_1348 : decode cL_law 1348 = .ok (.iconst 0, 1) := by decide +kernel
theorem dL_law_1349 : decode cL_law 1349 = .ok (.bipush 114, 2) := by decide +kernel
theorem dL_law_1351 : decode cL_law 1351 = .ok (.iastore, 1) := by decide +kernel
theorem dL_law_1352 : decode cL_law 1352 = .ok (.dup, 1) := by decide +kernel
theorem dL_law_1353 : decode cL_law 1353 = .ok (.iconst 1, 1) := by decide +kernel
theorem dL_law_1354 : decode cL_law 1354 = .ok (.iconst 4, 1) := by decide +kernel
theorem dL_law_1355 : decode cL_law 1355 = .ok (.iastore, 1) := by decide +kernel
theorem dL_law_1356 : decode cL_law 1356 = .ok (.dup, 1) := by decide +kernel
theorem dL_law_1357 : decode cL_law 1357 = .ok (.iconst 2, 1) := by decide +kernel
theorem dL_law_1358 : decode cL_law 1358 = .ok (.iconst 1, 1) := by decide +kernel
theorem dL_law_1359 : decode cL_law 1359 = .ok (.iastore, 1) := by decide +kernel
theorem dL_law_1360 : decode cL_law 1360 = .ok (.invokestatic 174, 3) := by decide +kernel
theorem dL_law_1363 : decode cL_law 1363 = .ok (.ldc 68, 2) := by decide +kernel
theorem dL_law_1365 : decode cL_law 1365 = .ok (.if_icmp .ne 580, 3) := by decide +kernel
theorem dL_law_1368 : decode cL_law 1368 = .ok (.aload_n 1, 1) := by decide +kernel
theorem dL_law_1369 : decode cL_law 1369 = .ok (.bipush 112, 2) := by decide +kernel
theorem dL_law_1371 : decode cL_law 1371 = .ok (.iconst 3, 1) := by decide +kernel
theorem dL_law_1372 : decode cL_law 1372 = .ok (.newarray .int, 2) := by decide +kernel
theorem dL_law_1374 : decode cL_law 1374 = .ok (.dup, 1) := by decide +kernel
theorem dL_law_1375 : decode cL_law 1375 = .ok (.iconst 0, 1) := by decide +kernel
theorem dL_law_1376 : decode cL_law 1376 = .ok (.bipush 120, 2) := by decide +kernel
theorem dL_law_1378 : decode cL_law 1378 = .ok (.iastore, 1) := by decide +kernel
theorem dL_law_1379 : decode cL_law 1379 = .ok (.dup, 1) := by decide +kernel
theorem dL_law_1380 : decode cL_law 1380 = .ok (.iconst 1, 1) := by decide +kernel
theorem dL_law_1381 : decode cL_law 1381 = .ok (.iconst 0, 1) := by decide +kernel
theorem dL_law_1382 : decode cL_law 1382 = .ok (.iastore, 1) := by decide +kernel
theorem dL_law_1383 : decode cL_law 1383 = .ok (.dup, 1) := by decide +kernel
theorem dL_law_1384 : decode cL_law 1384 = .ok (.iconst 2, 1) := by decide +kernel
theorem dL_law_1385 : decode cL_law 1385 = .ok (.iconst 1, 1) := by decide +kernel
theorem dL_law_1386 : decode cL_law 1386 = .ok (.iastore, 1) := by decide +kernel
theorem dL_law_1387 : decode cL_law 1387 = .ok (.invokestatic 174, 3) := by decide +kernel
theorem dL_law_1390 : decode cL_law 1390 = .ok (.ldc 71, 2) := by decide +kernel
theorem dL_law_1392 : decode cL_law 1392 = .ok (.if_icmp .ne 553, 3) := by decide +kernel
theorem dL_law_1395 : decode cL_law 1395 = .ok (.aload_n 1, 1) := by decide +kernel
theorem dL_law_1396 : decode cL_law 1396 = .ok (.bipush 112, 2) := by decide +kernel
theorem dL_law_1398 : decode cL_law 1398 = .ok (.iconst 3, 1) := by decide +kernel
theorem dL_law_1399 : decode cL_law 1399 = .ok (.newarray .int, 2) := by decide +kernel
theorem dL_law_1401 : decode cL_law 1401 = .ok (.dup, 1) := by decide +kernel
theorem dL_law_1402 : decode cL_law 1402 = .ok (.iconst 0, 1) := by decide +kernel
theorem dL_law_1403 : decode cL_law 1403 = .ok (.bipush 114, 2) := by decide +kernel
theorem dL_law_1405 : decode cL_law 1405 = .ok (.iastore, 1) := by decide +kernel
theorem dL_law_1406 : decode cL_law 1406 = .ok (.dup, 1) := by decide +kernel
theorem dL_law_1407 : decode cL_law 1407 = .ok (.iconst 1, 1) := by decide +kernel
theorem dL_law_1408 : decode cL_law 1408 = .ok (.iconst 0, 1) := by decide +kernel
theorem dL_law_1409 : decode cL_law 1409 = .ok (.iastore, 1) := by decide +kernel
theorem dL_law_1410 : decode cL_law 1410 = .ok (.dup, 1) := by decide +kernel
theorem dL_law_1411 : decode cL_law 1411 = .ok (.iconst 2, 1) := by decide +kernel
theorem dL_law_1412 : decode cL_law 1412 = .ok (.iconst 0, 1) := by decide +kernel
theorem dL_law_1413 : decode cL_law 1413 = .ok (.iastore, 1) := by decide +kernel
theorem dL_law_1414 : decode cL_law 1414 = .ok (.invokestatic 174, 3) := by decide +kernel
theorem dL_law_1417 : decode cL_law 1417 = .ok (.ldc 71, 2) := by decide +kernel
theorem dL_law_1419 : decode cL_law 1419 = .ok (.if_icmp .ne 526, 3) := by decide +kernel
theorem dL_law_1422 : decode cL_law 1422 = .ok (.aload_n 1, 1) := by decide +kernel
theorem dL_law_1423 : decode cL_law 1423 = .ok (.bipush 112, 2) := by decide +kernel
theorem dL_law_1425 : decode cL_law 1425 = .ok (.iconst 3, 1) := by decide +kernel
theorem dL_law_1426 : decode cL_law 1426 = .ok (.newarray .int, 2) := by decide +kernel
theorem dL_law_1428 : decode cL_law 1428 = .ok (.dup, 1) := by decide +kernel
theorem dL_law_1429 : decode cL_law 1429 = .ok (.iconst 0, 1) := by decide +kernel
theorem dL_law_1430 : decode cL_law 1430 = .ok (.bipush 112, 2) := by decide +kernel
theorem dL_law_1432 : decode cL_law 1432 = .ok (.iastore, 1) := by decide +kernel
theorem dL_law_1433 : decode cL_law 1433 = .ok (.dup, 1) := by decide +kernel
theorem dL_law_1434 : decode cL_law 1434 = .ok (.iconst 1, 1) := by decide +kernel
theorem dL_law_1435 : decode cL_law 1435 = .ok (.bipush 9, 2) := by decide +kernel
theorem dL_law_1437 : decode cL_law 1437 = .ok (.iastore, 1) := by decide +kernel
theorem dL_law_1438 : decode cL_law 1438 = .ok (.dup, 1) := by decide +kernel
theorem dL_law_1439 : decode cL_law 1439 = .ok (.iconst 2, 1) := by decide +kernel
theorem dL_law_1440 : decode cL_law 1440 = .ok (.bipush 16, 2) := by decide +kernel
theorem dL_law_1442 : decode cL_law 1442 = .ok (.iastore, 1) := by decide +kernel
theorem dL_law_1443 : decode cL_law 1443 = .ok (.invokestatic 174, 3) := by decide +kernel
theorem dL_law_1446 : decode cL_law 1446 = .ok (.ldc 71, 2) := by decide +kernel
theorem dL_law_1448 : decode cL_law 1448 = .ok (.if_icmp .ne 497, 3) := by decide +kernel
theorem dL_law_1451 : decode cL_law 1451 = .ok (.aload_n 1, 1) := by decide +kernel
theorem dL_law_1452 : decode cL_law 1452 = .ok (.bipush 84, 2) := by decide +kernel
theorem dL_law_1454 : decode cL_law 1454 = .ok (.iconst 1, 1) := by decide +kernel
theorem dL_law_1455 : decode cL_law 1455 = .ok (.newarray .int, 2) := by decide +kernel
theorem dL_law_1457 : decode cL_law 1457 = .ok (.dup, 1) := by decide +kernel
theorem dL_law_1458 : decode cL_law 1458 = .ok (.iconst 0, 1) := by decide +kernel
theorem dL_law_1459 : decode cL_law 1459 = .ok (.iconst 0, 1) := by decide +kernel
theorem dL_law_1460 : decode cL_law 1460 = .ok (.iastore, 1) := by decide +kernel
theorem dL_law_1461 : decode cL_law 1461 = .ok (.invokestatic 174, 3) := by decide +kernel
theorem dL_law_1464 : decode cL_law 1464 = .ok (.ldc 77, 2) := by decide +kernel
theorem dL_law_1466 : decode cL_law 1466 = .ok (.if_icmp .ne 479, 3) := by decide +kernel
theorem dL_law_1469 : decode cL_law 1469 = .ok (.aload_n 1, 1) := by decide +kernel
theorem dL_law_1470 : decode cL_law 1470 = .ok (.bipush 84, 2) := by decide +kernel
theorem dL_law_1472 : decode cL_law 1472 = .ok (.iconst 1, 1) := by decide +kernel
theorem dL_law_1473 : decode cL_law 1473 = .ok (.newarray .int, 2) := by decide +kernel
theorem dL_law_1475 : decode cL_law 1475 = .ok (.dup, 1) := by decide +kernel
theorem dL_law_1476 : decode cL_law 1476 = .ok (.iconst 0, 1) := by decide +kernel
theorem dL_law_1477 : decode cL_law 1477 = .ok (.iconst 2, 1) := by decide +kernel
theorem dL_law_1478 : decode cL_law 1478 = .ok (.iastore, 1) := by decide +kernel
theorem dL_law_1479 : decode cL_law 1479 = .ok (.invokestatic 174, 3) := by decide +kernel
theorem dL_law_1482 : decode cL_law 1482 = .ok (.ldc 68, 2) := by decide +kernel
theorem dL_law_1484 : decode cL_law 1484 = .ok (.if_icmp .ne 461, 3) := by decide +kernel
theorem dL_law_1487 : decode cL_law 1487 = .ok (.aload_n 1, 1) := by decide +kernel
theorem dL_law_1488 : decode cL_law 1488 = .ok (.bipush 49, 2) := by decide +kernel
theorem dL_law_1490 : decode cL_law 1490 = .ok (.iconst 4, 1) := by decide +kernel
theorem dL_law_1491 : decode cL_law 1491 = .ok (.newarray .int, 2) := by decide +kernel
theorem dL_law_1493 : decode cL_law 1493 = .ok (.dup, 1) := by decide +kernel
theorem dL_law_1494 : decode cL_law 1494 = .ok (.iconst 0, 1) := by decide +kernel
theorem dL_law_1495 : decode cL_law 1495 = .ok (.iconst 0, 1) := by decide +kernel
theorem dL_law_1496 : decode cL_law 1496 = .ok (.iastore, 1) := by decide +kernel
theorem dL_law_1497 : decode cL_law 1497 = .ok (.dup, 1) := by decide +kernel
theorem dL_law_1498 : decode cL_law 1498 = .ok (.iconst 1, 1) := by decide +kernel
theorem dL_law_1499 : decode cL_law 1499 = .ok (.iconst 0, 1) := by decide +kernel
theorem dL_law_1500 : decode cL_law 1500 = .ok (.iastore, 1) := by decide +kernel
theorem dL_law_1501 : decode cL_law 1501 = .ok (.dup, 1) := by decide +kernel
theorem dL_law_1502 : decode cL_law 1502 = .ok (.iconst 2, 1) := by decide +kernel
theorem dL_law_1503 : decode cL_law 1503 = .ok (.bipush 9, 2) := by decide +kernel
theorem dL_law_1505 : decode cL_law 1505 = .ok (.iastore, 1) := by decide +kernel
theorem dL_law_1506 : decode cL_law 1506 = .ok (.dup, 1) := by decide +kernel
theorem dL_law_1507 : decode cL_law 1507 = .ok (.iconst 3, 1) := by decide +kernel
theorem dL_law_1508 : decode cL_law 1508 = .ok (.bipush 110, 2) := by decide +kernel
theorem dL_law_1510 : decode cL_law 1510 = .ok (.iastore, 1) := by decide +kernel
theorem dL_law_1511 : decode cL_law 1511 = .ok (.invokestatic 174, 3) := by decide +kernel
theorem dL_law_1514 : decode cL_law 1514 = .ok (.ldc 71, 2) := by decide +kernel
theorem dL_law_1516 : decode cL_law 1516 = .ok (.if_icmp .ne 429, 3) := by decide +kernel
theorem dL_law_1519 : decode cL_law 1519 = .ok (.aload_n 1, 1) := by decide +kernel
theorem dL_law_1520 : decode cL_law 1520 = .ok (.bipush 49, 2) := by decide +kernel
theorem dL_law_1522 : decode cL_law 1522 = .ok (.iconst 4, 1) := by decide +kernel
theorem dL_law_1523 : decode cL_law 1523 = .ok (.newarray .int, 2) := by decide +kernel
theorem dL_law_1525 : decode cL_law 1525 = .ok (.dup, 1) := by decide +kernel
theorem dL_law_1526 : decode cL_law 1526 = .ok (.iconst 0, 1) := by decide +kernel
theorem dL_law_1527 : decode cL_law 1527 = .ok (.iconst 0, 1) := by decide +kernel
theorem dL_law_1528 : decode cL_law 1528 = .ok (.iastore, 1) := by decide +kernel
theorem dL_law_1529 : decode cL_law 1529 = .ok (.dup, 1) := by decide +kernel
theorem dL_law_1530 : decode cL_law 1530 = .ok (.iconst 1, 1) := by decide +kernel
theorem dL_law_1531 : decode cL_law 1531 = .ok (.iconst 0, 1) := by decide +kernel
theorem dL_law_1532 : decode cL_law 1532 = .ok (.iastore, 1) := by decide +kernel
theorem dL_law_1533 : decode cL_law 1533 = .ok (.dup, 1) := by decide +kernel
theorem dL_law_1534 : decode cL_law 1534 = .ok (.iconst 2, 1) := by decide +kernel
theorem dL_law_1535 : decode cL_law 1535 = .ok (.bipush 10, 2) := by decide +kernel
theorem dL_law_1537 : decode cL_law 1537 = .ok (.iastore, 1) := by decide +kernel
theorem dL_law_1538 : decode cL_law 1538 = .ok (.dup, 1) := by decide +kernel
theorem dL_law_1539 : decode cL_law 1539 = .ok (.iconst 3, 1) := by decide +kernel
theorem dL_law_1540 : decode cL_law 1540 = .ok (.bipush 120, 2) := by decide +kernel
theorem dL_law_1542 : decode cL_law 1542 = .ok (.iastore, 1) := by decide +kernel
theorem dL_law_1543 : decode cL_law 1543 = .ok (.invokestatic 174, 3) := by decide +kernel
theorem dL_law_1546 : decode cL_law 1546 = .ok (.ldc 71, 2) := by decide +kernel
theorem dL_law_1548 : decode cL_law 1548 = .ok (.if_icmp .ne 397, 3) := by decide +kernel
theorem dL_law_1551 : decode cL_law 1551 = .ok (.aload_n 1, 1) := by decide +kernel
theorem dL_law_1552 : decode cL_law 1552 = .ok (.bipush 49, 2) := by decide +kernel
theorem dL_law_1554 : decode cL_law 1554 = .ok (.iconst 4, 1) := by decide +kernel
theorem dL_law_1555 : decode cL_law 1555 = .ok (.newarray .int, 2) := by decide +kernel
theorem dL_law_1557 : decode cL_law 1557 = .ok (.dup, 1) := by decide +kernel
theorem dL_law_1558 : decode cL_law 1558 = .ok (.iconst 0, 1) := by decide +kernel
theorem dL_law_1559 : decode cL_law 1559 = .ok (.iconst 0, 1) := by decide +kernel
theorem dL_law_1560 : decode cL_law 1560 = .ok (.iastore, 1) := by decide +kernel
theorem dL_law_1561 : decode cL_law 1561 = .ok (.dup, 1) := by decide +kernel
theorem dL_law_1562 : decode cL_law 1562 = .ok (.iconst 1, 1) := by decide +kernel
theorem dL_law_1563 : decode cL_law 1563 = .ok (.iconst 0, 1) := by decide +kernel
theorem dL_law_1564 : decode cL_law 1564 = .ok (.iastore, 1) := by decide +kernel
theorem dL_law_1565 : decode cL_law 1565 = .ok (.dup, 1) := by decide +kernel
theorem dL_law_1566 : decode cL_law 1566 = .ok (.iconst 2, 1) := by decide +kernel
theorem dL_law_1567 : decode cL_law 1567 = .ok (.bipush 10, 2) := by decide +kernel
theorem dL_law_1569 : decode cL_law 1569 = .ok (.iastore, 1) := by decide +kernel
theorem dL_law_1570 : decode cL_law 1570 = .ok (.dup, 1) := by decide +kernel
theorem dL_law_1571 : decode cL_law 1571 = .ok (.iconst 3, 1) := by decide +kernel
theorem dL_law_1572 : decode cL_law 1572 = .ok (.bipush 110, 2) := by decide +kernel
theorem dL_law_1574 : decode cL_law 1574 = .ok (.iastore, 1) := by decide +kernel
theorem dL_law_1575 : decode cL_law 1575 = .ok (.invokestatic 174, 3) := by decide +kernel
theorem dL_law_1578 : decode cL_law 1578 = .ok (.ifCond .ne 367, 3) := by decide +kernel
theorem dL_law_1581 : decode cL_law 1581 = .ok (.aload_n 1, 1) := by decide +kernel
theorem dL_law_1582 : decode cL_law 1582 = .ok (.bipush 50, 2) := by decide +kernel
theorem dL_law_1584 : decode cL_law 1584 = .ok (.iconst 3, 1) := by decide +kernel
theorem dL_law_1585 : decode cL_law 1585 = .ok (.newarray .int, 2) := by decide +kernel
theorem dL_law_1587 : decode cL_law 1587 = .ok (.dup, 1) := by decide +kernel
theorem dL_law_1588 : decode cL_law 1588 = .ok (.iconst 0, 1) := by decide +kernel
theorem dL_law_1589 : decode cL_law 1589 = .ok (.iconst 0, 1) := by decide +kernel
theorem dL_law_1590 : decode cL_law 1590 = .ok (.iastore, 1) := by decide +kernel
theorem dL_law_1591 : decode cL_law 1591 = .ok (.dup, 1) := by decide +kernel
theorem dL_law_1592 : decode cL_law 1592 = .ok (.iconst 1, 1) := by decide +kernel
theorem dL_law_1593 : decode cL_law 1593 = .ok (.iconst 1, 1) := by decide +kernel
theorem dL_law_1594 : decode cL_law 1594 = .ok (.iastore, 1) := by decide +kernel
theorem dL_law_1595 : decode cL_law 1595 = .ok (.dup, 1) := by decide +kernel
theorem dL_law_1596 : decode cL_law 1596 = .ok (.iconst 2, 1) := by decide +kernel
theorem dL_law_1597 : decode cL_law 1597 = .ok (.iconst 1, 1) := by decide +kernel
theorem dL_law_1598 : decode cL_law 1598 = .ok (.iastore, 1) := by decide +kernel
theorem dL_law_1599 : decode cL_law 1599 = .ok (.invokestatic 174, 3) := by decide +kernel
theorem dL_law_1602 : decode cL_law 1602 = .ok (.ldc 71, 2) := by decide +kernel
theorem dL_law_1604 : decode cL_law 1604 = .ok (.if_icmp .ne 341, 3) := by decide +kernel
theorem dL_law_1607 : decode cL_law 1607 = .ok (.aload_n 1, 1) := by decide +kernel
theorem dL_law_1608 : decode cL_law 1608 = .ok (.bipush 50, 2) := by decide +kernel
theorem dL_law_1610 : decode cL_law 1610 = .ok (.iconst 3, 1) := by decide +kernel
theorem dL_law_1611 : decode cL_law 1611 = .ok (.newarray .int, 2) := by decide +kernel
theorem dL_law_1613 : decode cL_law 1613 = .ok (.dup, 1) := by decide +kernel
theorem dL_law_1614 : decode cL_law 1614 = .ok (.iconst 0, 1) := by decide +kernel
theorem dL_law_1615 : decode cL_law 1615 = .ok (.iconst 0, 1) := by decide +kernel
theorem dL_law_1616 : decode cL_law 1616 = .ok (.iastore, 1) := by decide +kernel
theorem dL_law_1617 : decode cL_law 1617 = .ok (.dup, 1) := by decide +kernel
theorem dL_law_1618 : decode cL_law 1618 = .ok (.iconst 1, 1) := by decide +kernel
theorem dL_law_1619 : decode cL_law 1619 = .ok (.iconst 4, 1) := by decide +kernel
theorem dL_law_1620 : decode cL_law 1620 = .ok (.iastore, 1) := by decide +kernel
theorem dL_law_1621 : decode cL_law 1621 = .ok (.dup, 1) := by decide +kernel
theorem dL_law_1622 : decode cL_law 1622 = .ok (.iconst 2, 1) := by decide +kernel
theorem dL_law_1623 : decode cL_law 1623 = .ok (.iconst 1, 1) := by decide +kernel
theorem dL_law_1624 : decode cL_law 1624 = .ok (.iastore, 1) := by decide +kernel
theorem dL_law_1625 : decode cL_law 1625 = .ok (.invokestatic 174, 3) := by decide +kernel
theorem dL_law_1628 : decode cL_law 1628 = .ok (.ldc 68, 2) := by decide +kernel
theorem dL_law_1630 : decode cL_law 1630 = .ok (.if_icmp .ne 315, 3) := by decide +kernel
theorem dL_law_1633 : decode cL_law 1633 = .ok (.aload_n 1, 1) := by decide +kernel
theorem dL_law_1634 : decode cL_law 1634 = .ok (.bipush 52, 2) := by decide +kernel
theorem dL_law_1636 : decode cL_law 1636 = .ok (.iconst 5, 1) := by decide +kernel
theorem dL_law_1637 : decode cL_law 1637 = .ok (.newarray .int, 2) := by decide +kernel
theorem dL_law_1639 : decode cL_law 1639 = .ok (.dup, 1) := by decide +kernel
theorem dL_law_1640 : decode cL_law 1640 = .ok (.iconst 0, 1) := by decide +kernel
theorem dL_law_1641 : decode cL_law 1641 = .ok (.iconst 0, 1) := by decide +kernel
theorem dL_law_1642 : decode cL_law 1642 = .ok (.iastore, 1) := by decide +kernel
theorem dL_law_1643 : decode cL_law 1643 = .ok (.dup, 1) := by decide +kernel
theorem dL_law_1644 : decode cL_law 1644 = .ok (.iconst 1, 1) := by decide +kernel
theorem dL_law_1645 : decode cL_law 1645 = .ok (.iconst 0, 1) := by decide +kernel
theorem dL_law_1646 : decode cL_law 1646 = .ok (.iastore, 1) := by decide +kernel
theorem dL_law_1647 : decode cL_law 1647 = .ok (.dup, 1) := by decide +kernel
theorem dL_law_1648 : decode cL_law 1648 = .ok (.iconst 2, 1) := by decide +kernel
theorem dL_law_1649 : decode cL_law 1649 = .ok (.iconst 1, 1) := by decide +kernel
theorem dL_law_1650 : decode cL_law 1650 = .ok (.iastore, 1) := by decide +kernel
theorem dL_law_1651 : decode cL_law 1651 = .ok (.dup, 1) := by decide +kernel
theorem dL_law_1652 : decode cL_law 1652 = .ok (.iconst 3, 1) := by decide +kernel
theorem dL_law_1653 : decode cL_law 1653 = .ok (.iconst 2, 1) := by decide +kernel
theorem dL_law_1654 : decode cL_law 1654 = .ok (.iastore, 1) := by decide +kernel
theorem dL_law_1655 : decode cL_law 1655 = .ok (.dup, 1) := by decide +kernel
theorem dL_law_1656 : decode cL_law 1656 = .ok (.iconst 4, 1) := by decide +kernel
theorem dL_law_1657 : decode cL_law 1657 = .ok (.iconst 4, 1) := by decide +kernel
theorem dL_law_1658 : decode cL_law 1658 = .ok (.iastore, 1) := by decide +kernel
theorem dL_law_1659 : decode cL_law 1659 = .ok (.invokestatic 174, 3) := by decide +kernel
theorem dL_law_1662 : decode cL_law 1662 = .ok (.ldc 71, 2) := by decide +kernel
theorem dL_law_1664 : decode cL_law 1664 = .ok (.if_icmp .ne 281, 3) := by decide +kernel
theorem dL_law_1667 : decode cL_law 1667 = .ok (.aload_n 1, 1) := by decide +kernel
theorem dL_law_1668 : decode cL_law 1668 = .ok (.bipush 52, 2) := by decide +kernel
theorem dL_law_1670 : decode cL_law 1670 = .ok (.iconst 5, 1) := by decide +kernel
theorem dL_law_1671 : decode cL_law 1671 = .ok (.newarray .int, 2) := by decide +kernel
theorem dL_law_1673 : decode cL_law 1673 = .ok (.dup, 1) := by decide +kernel
theorem dL_law_1674 : decode cL_law 1674 = .ok (.iconst 0, 1) := by decide +kernel
theorem dL_law_1675 : decode cL_law 1675 = .ok (.iconst 0, 1) := by decide +kernel
theorem dL_law_1676 : decode cL_law 1676 = .ok (.iastore, 1) := by decide +kernel
theorem dL_law_1677 : decode cL_law 1677 = .ok (.dup, 1) := by decide +kernel
theorem dL_law_1678 : decode cL_law 1678 = .ok (.iconst 1, 1) := by decide +kernel
theorem dL_law_1679 : decode cL_law 1679 = .ok (.iconst 0, 1) := by decide +kernel
theorem dL_law_1680 : decode cL_law 1680 = .ok (.iastore, 1) := by decide +kernel
theorem dL_law_1681 : decode cL_law 1681 = .ok (.dup, 1) := by decide +kernel
theorem dL_law_1682 : decode cL_law 1682 = .ok (.iconst 2, 1) := by decide +kernel
theorem dL_law_1683 : decode cL_law 1683 = .ok (.iconst 1, 1) := by decide +kernel
theorem dL_law_1684 : decode cL_law 1684 = .ok (.iastore, 1) := by decide +kernel
theorem dL_law_1685 : decode cL_law 1685 = .ok (.dup, 1) := by decide +kernel
theorem dL_law_1686 : decode cL_law 1686 = .ok (.iconst 3, 1) := by decide +kernel
theorem dL_law_1687 : decode cL_law 1687 = .ok (.iconst 1, 1) := by decide +kernel
theorem dL_law_1688 : decode cL_law 1688 = .ok (.iastore, 1) := by decide +kernel
theorem dL_law_1689 : decode cL_law 1689 = .ok (.dup, 1) := by decide +kernel
theorem dL_law_1690 : decode cL_law 1690 = .ok (.iconst 4, 1) := by decide +kernel
theorem dL_law_1691 : decode cL_law 1691 = .ok (.iconst 0, 1) := by decide +kernel
theorem dL_law_1692 : decode cL_law 1692 = .ok (.iastore, 1) := by decide +kernel
theorem dL_law_1693 : decode cL_law 1693 = .ok (.invokestatic 174, 3) := by decide +kernel
theorem dL_law_1696 : decode cL_law 1696 = .ok (.ldc 71, 2) := by decide +kernel
theorem dL_law_1698 : decode cL_law 1698 = .ok (.if_icmp .ne 247, 3) := by decide +kernel
theorem dL_law_1701 : decode cL_law 1701 = .ok (.aload_n 1, 1) := by decide +kernel
theorem dL_law_1702 : decode cL_law 1702 = .ok (.bipush 107, 2) := by decide +kernel
theorem dL_law_1704 : decode cL_law 1704 = .ok (.iconst 1, 1) := by decide +kernel
theorem dL_law_1705 : decode cL_law 1705 = .ok (.newarray .int, 2) := by decide +kernel
theorem dL_law_1707 : decode cL_law 1707 = .ok (.dup, 1) := by decide +kernel
theorem dL_law_1708 : decode cL_law 1708 = .ok (.iconst 0, 1) := by decide +kernel
theorem dL_law_1709 : decode cL_law 1709 = .ok (.iconst 0, 1) := by decide +kernel
theorem dL_law_1710 : decode cL_law 1710 = .ok (.iastore, 1) := by decide +kernel
theorem dL_law_1711 : decode cL_law 1711 = .ok (.invokestatic 174, 3) := by decide +kernel
theorem dL_law_1714 : decode cL_law 1714 = .ok (.ldc 68, 2) := by decide +kernel
theorem dL_law_1716 : decode cL_law 1716 = .ok (.if_icmp .ne 229, 3) := by decide +kernel
theorem dL_law_1719 : decode cL_law 1719 = .ok (.aload_n 1, 1) := by decide +kernel
theorem dL_law_1720 : decode cL_law 1720 = .ok (.bipush 113, 2) := by decide +kernel
theorem dL_law_1722 : decode cL_law 1722 = .ok (.iconst 2, 1) := by decide +kernel
theorem dL_law_1723 : decode cL_law 1723 = .ok (.newarray .int, 2) := by decide +kernel
theorem dL_law_1725 : decode cL_law 1725 = .ok (.dup, 1) := by decide +kernel
theorem dL_law_1726 : decode cL_law 1726 = .ok (.iconst 0, 1) := by decide +kernel
theorem dL_law_1727 : decode cL_law 1727 = .ok (.iconst 0, 1) := by decide +kernel
theorem dL_law_1728 : decode cL_law 1728 = .ok (.iastore, 1) := by decide +kernel
theorem dL_law_1729 : decode cL_law 1729 = .ok (.dup, 1) := by decide +kernel
theorem dL_law_1730 : decode cL_law 1730 = .ok (.iconst 1, 1) := by decide +kernel
theorem dL_law_1731 : decode cL_law 1731 = .ok (.iconst 0, 1) := by decide +kernel
theorem dL_law_1732 : decode cL_law 1732 = .ok (.iastore, 1) := by decide +kernel
theorem dL_law_1733 : decode cL_law 1733 = .ok (.invokestatic 174, 3) := by decide +kernel
theorem dL_law_1736 : decode cL_law 1736 = .ok (.ldc 80, 2) := by decide +kernel
theorem dL_law_1738 : decode cL_law 1738 = .ok (.if_icmp .ne 207, 3) := by decide +kernel
theorem dL_law_1741 : decode cL_law 1741 = .ok (.aload_n 1, 1) := by decide +kernel
theorem dL_law_1742 : decode cL_law 1742 = .ok (.bipush 122, 2) := by decide +kernel
theorem dL_law_1744 : decode cL_law 1744 = .ok (.iconst 2, 1) := by decide +kernel
theorem dL_law_1745 : decode cL_law 1745 = .ok (.newarray .int, 2) := by decide +kernel
theorem dL_law_1747 : decode cL_law 1747 = .ok (.dup, 1) := by decide +kernel
theorem dL_law_1748 : decode cL_law 1748 = .ok (.iconst 0, 1) := by decide +kernel
theorem dL_law_1749 : decode cL_law 1749 = .ok (.sipush 128, 3) := by decide +kernel
theorem dL_law_1752 : decode cL_law 1752 = .ok (.iastore, 1) := by decide +kernel
theorem dL_law_1753 : decode cL_law 1753 = .ok (.dup, 1) := by decide +kernel
theorem dL_law_1754 : decode cL_law 1754 = .ok (.iconst 1, 1) := by decide +kernel
theorem dL_law_1755 : decode cL_law 1755 = .ok (.iconst 0, 1) := by decide +kernel
theorem dL_law_1756 : decode cL_law 1756 = .ok (.iastore, 1) := by decide +kernel
theorem dL_law_1757 : decode cL_law 1757 = .ok (.invokestatic 174, 3) := by decide +kernel
theorem dL_law_1760 : decode cL_law 1760 = .ok (.ldc 71, 2) := by decide +kernel
theorem dL_law_1762 : decode cL_law 1762 = .ok (.if_icmp .ne 183, 3) := by decide +kernel
theorem dL_law_1765 : decode cL_law 1765 = .ok (.aload_n 1, 1) := by decide +kernel
theorem dL_law_1766 : decode cL_law 1766 = .ok (.bipush 122, 2) := by decide +kernel
theorem dL_law_1768 : decode cL_law 1768 = .ok (.iconst 2, 1) := by decide +kernel
theorem dL_law_1769 : decode cL_law 1769 = .ok (.newarray .int, 2) := by decide +kernel
theorem dL_law_1771 : decode cL_law 1771 = .ok (.dup, 1) := by decide +kernel
theorem dL_law_1772 : decode cL_law 1772 = .ok (.iconst 0, 1) := by decide +kernel
theorem dL_law_1773 : decode cL_law 1773 = .ok (.iconst 0, 1) := by decide +kernel
theorem dL_law_1774 : decode cL_law 1774 = .ok (.iastore, 1) := by decide +kernel
theorem dL_law_1775 : decode cL_law 1775 = .ok (.dup, 1) := by decide +kernel
theorem dL_law_1776 : decode cL_law 1776 = .ok (.iconst 1, 1) := by decide +kernel
theorem dL_law_1777 : decode cL_law 1777 = .ok (.bipush 16, 2) := by decide +kernel
theorem dL_law_1779 : decode cL_law 1779 = .ok (.iastore, 1) := by decide +kernel
theorem dL_law_1780 : decode cL_law 1780 = .ok (.invokestatic 174, 3) := by decide +kernel
theorem dL_law_1783 : decode cL_law 1783 = .ok (.ldc 71, 2) := by decide +kernel
theorem dL_law_1785 : decode cL_law 1785 = .ok (.if_icmp .ne 160, 3) := by decide +kernel
theorem dL_law_1788 : decode cL_law 1788 = .ok (.aload_n 1, 1) := by decide +kernel
theorem dL_law_1789 : decode cL_law 1789 = .ok (.bipush 122, 2) := by decide +kernel
theorem dL_law_1791 : decode cL_law 1791 = .ok (.iconst 2, 1) := by decide +kernel
theorem dL_law_1792 : decode cL_law 1792 = .ok (.newarray .int, 2) := by decide +kernel
theorem dL_law_1794 : decode cL_law 1794 = .ok (.dup, 1) := by decide +kernel
theorem dL_law_1795 : decode cL_law 1795 = .ok (.iconst 0, 1) := by decide +kernel
theorem dL_law_1796 : decode cL_law 1796 = .ok (.bipush 127, 2) := by decide +kernel
theorem dL_law_1798 : decode cL_law 1798 = .ok (.iastore, 1) := by decide +kernel
theorem dL_law_1799 : decode cL_law 1799 = .ok (.dup, 1) := by decide +kernel
theorem dL_law_1800 : decode cL_law 1800 = .ok (.iconst 1, 1) := by decide +kernel
theorem dL_law_1801 : decode cL_law 1801 = .ok (.bipush 15, 2) := by decide +kernel
theorem dL_law_1803 : decode cL_law 1803 = .ok (.iastore, 1) := by decide +kernel
theorem dL_law_1804 : decode cL_law 1804 = .ok (.invokestatic 174, 3) := by decide +kernel
theorem dL_law_1807 : decode cL_law 1807 = .ok (.ifCond .ne 138, 3) := by decide +kernel
theorem dL_law_1810 : decode cL_law 1810 = .ok (.aload_n 1, 1) := by decide +kernel
theorem dL_law_1811 : decode cL_law 1811 = .ok (.bipush 119, 2) := by decide +kernel
theorem dL_law_1813 : decode cL_law 1813 = .ok (.iconst 2, 1) := by decide +kernel
theorem dL_law_1814 : decode cL_law 1814 = .ok (.newarray .int, 2) := by decide +kernel
theorem dL_law_1816 : decode cL_law 1816 = .ok (.dup, 1) := by decide +kernel
theorem dL_law_1817 : decode cL_law 1817 = .ok (.iconst 0, 1) := by decide +kernel
theorem dL_law_1818 : decode cL_law 1818 = .ok (.sipush 256, 3) := by decide +kernel
theorem dL_law_1821 : decode cL_law 1821 = .ok (.iastore, 1) := by decide +kernel
theorem dL_law_1822 : decode cL_law 1822 = .ok (.dup, 1) := by decide +kernel
theorem dL_law_1823 : decode cL_law 1823 = .ok (.iconst 1, 1) := by decide +kernel
theorem dL_law_1824 : decode cL_law 1824 = .ok (.iconst 0, 1) := by decide +kernel
theorem dL_law_1825 : decode cL_law 1825 = .ok (.iastore, 1) := by decide +kernel
theorem dL_law_1826 : decode cL_law 1826 = .ok (.invokestatic 174, 3) := by decide +kernel
theorem dL_law_1829 : decode cL_law 1829 = .ok (.ldc 71, 2) := by decide +kernel
theorem dL_law_1831 : decode cL_law 1831 = .ok (.if_icmp .ne 114, 3) := by decide +kernel
theorem dL_law_1834 : decode cL_law 1834 = .ok (.aload_n 1, 1) := by decide +kernel
theorem dL_law_1835 : decode cL_law 1835 = .ok (.bipush 119, 2) := by decide +kernel
theorem dL_law_1837 : decode cL_law 1837 = .ok (.iconst 2, 1) := by decide +kernel
theorem dL_law_1838 : decode cL_law 1838 = .ok (.newarray .int, 2) := by decide +kernel
theorem dL_law_1840 : decode cL_law 1840 = .ok (.dup, 1) := by decide +kernel
theorem dL_law_1841 : decode cL_law 1841 = .ok (.iconst 0, 1) := by decide +kernel
theorem dL_law_1842 : decode cL_law 1842 = .ok (.iconst 0, 1) := by decide +kernel
theorem dL_law_1843 : decode cL_law 1843 = .ok (.iastore, 1) := by decide +kernel
theorem dL_law_1844 : decode cL_law 1844 = .ok (.dup, 1) := by decide +kernel
theorem dL_law_1845 : decode cL_law 1845 = .ok (.iconst 1, 1) := by decide +kernel
theorem dL_law_1846 : decode cL_law 1846 = .ok (.iconst 0, 1) := by decide +kernel
theorem dL_law_1847 : decode cL_law 1847 = .ok (.iastore, 1) := by decide +kernel
theorem dL_law_1848 : decode cL_law 1848 = .ok (.invokestatic 174, 3) := by decide +kernel
theorem dL_law_1851 : decode cL_law 1851 = .ok (.ifCond .ne 94, 3) := by decide +kernel
theorem dL_law_1854 : decode cL_law 1854 = .ok (.aload_n 1, 1) := by decide +kernel
theorem dL_law_1855 : decode cL_law 1855 = .ok (.bipush 65, 2) := by decide +kernel
theorem dL_law_1857 : decode cL_law 1857 = .ok (.iconst 1, 1) := by decide +kernel
theorem dL_law_1858 : decode cL_law 1858 = .ok (.newarray .int, 2) := by decide +kernel
theorem dL_law_1860 : decode cL_law 1860 = .ok (.dup, 1) := by decide +kernel
theorem dL_law_1861 : decode cL_law 1861 = .ok (.iconst 0, 1) := by decide +kernel
theorem dL_law_1862 : decode cL_law 1862 = .ok (.sipush 400, 3) := by decide +kernel
theorem dL_law_1865 : decode cL_law 1865 = .ok (.iastore, 1) := by decide +kernel
theorem dL_law_1866 : decode cL_law 1866 = .ok (.invokestatic 174, 3) := by decide +kernel
theorem dL_law_1869 : decode cL_law 1869 = .ok (.ldc 71, 2) := by decide +kernel
theorem dL_law_1871 : decode cL_law 1871 = .ok (.if_icmp .ne 74, 3) := by decide +kernel
theorem dL_law_1874 : decode cL_law 1874 = .ok (.aload_n 1, 1) := by decide +kernel
theorem dL_law_1875 : decode cL_law 1875 = .ok (.bipush 65, 2) := by decide +kernel
theorem dL_law_1877 : decode cL_law 1877 = .ok (.iconst 1, 1) := by decide +kernel
theorem dL_law_1878 : decode cL_law 1878 = .ok (.newarray .int, 2) := by decide +kernel
theorem dL_law_1880 : decode cL_law 1880 = .ok (.dup, 1) := by decide +kernel
theorem dL_law_1881 : decode cL_law 1881 = .ok (.iconst 0, 1) := by decide +kernel
theorem dL_law_1882 : decode cL_law 1882 = .ok (.iconst 0, 1) := by decide +kernel
theorem dL_law_1883 : decode cL_law 1883 = .ok (.iastore, 1) := by decide +kernel
theorem dL_law_1884 : decode cL_law 1884 = .ok (.invokestatic 174, 3) := by decide +kernel
theorem dL_law_1887 : decode cL_law 1887 = .ok (.ifCond .ne 58, 3) := by decide +kernel
theorem dL_law_1890 : decode cL_law 1890 = .ok (.aload_n 1, 1) := by decide +kernel
theorem dL_law_1891 : decode cL_law 1891 = .ok (.bipush 100, 2) := by decide +kernel
theorem dL_law_1893 : decode cL_law 1893 = .ok (.iconst 1, 1) := by decide +kernel
theorem dL_law_1894 : decode cL_law 1894 = .ok (.newarray .int, 2) := by decide +kernel
theorem dL_law_1896 : decode cL_law 1896 = .ok (.dup, 1) := by decide +kernel
theorem dL_law_1897 : decode cL_law 1897 = .ok (.iconst 0, 1) := by decide +kernel
theorem dL_law_1898 : decode cL_law 1898 = .ok (.iconst 0, 1) := by decide +kernel
theorem dL_law_1899 : decode cL_law 1899 = .ok (.iastore, 1) := by decide +kernel
theorem dL_law_1900 : decode cL_law 1900 = .ok (.invokestatic 174, 3) := by decide +kernel
theorem dL_law_1903 : decode cL_law 1903 = .ok (.ldc 80, 2) := by decide +kernel
theorem dL_law_1905 : decode cL_law 1905 = .ok (.if_icmp .ne 40, 3) := by decide +kernel
theorem dL_law_1908 : decode cL_law 1908 = .ok (.aload_n 1, 1) := by decide +kernel
theorem dL_law_1909 : decode cL_law 1909 = .ok (.bipush 111, 2) := by decide +kernel
theorem dL_law_1911 : decode cL_law 1911 = .ok (.iconst 1, 1) := by decide +kernel
theorem dL_law_1912 : decode cL_law 1912 = .ok (.newarray .int, 2) := by decide +kernel
theorem dL_law_1914 : decode cL_law 1914 = .ok (.dup, 1) := by decide +kernel
theorem dL_law_1915 : decode cL_law 1915 = .ok (.iconst 0, 1) := by decide +kernel
theorem dL_law_1916 : decode cL_law 1916 = .ok (.bipush 100, 2) := by decide +kernel
theorem dL_law_1918 : decode cL_law 1918 = .ok (.iastore, 1) := by decide +kernel
theorem dL_law_1919 : decode cL_law 1919 = .ok (.invokestatic 174, 3) := by decide +kernel
theorem dL_law_1922 : decode cL_law 1922 = .ok (.ldc 71, 2) := by decide +kernel
theorem dL_law_1924 : decode cL_law 1924 = .ok (.if_icmp .ne 21, 3) := by decide +kernel
theorem dL_law_1927 : decode cL_law 1927 = .ok (.aload_n 1, 1) := by decide +kernel
theorem dL_law_1928 : decode cL_law 1928 = .ok (.bipush 111, 2) := by decide +kernel
theorem dL_law_1930 : decode cL_law 1930 = .ok (.iconst 1, 1) := by decide +kernel
theorem dL_law_1931 : decode cL_law 1931 = .ok (.newarray .int, 2) := by decide +kernel
theorem dL_law_1933 : decode cL_law 1933 = .ok (.dup, 1) := by decide +kernel
theorem dL_law_1934 : decode cL_law 1934 = .ok (.iconst 0, 1) := by decide +kernel
theorem dL_law_1935 : decode cL_law 1935 = .ok (.iconst 0, 1) := by decide +kernel
theorem dL_law_1936 : decode cL_law 1936 = .ok (.iastore, 1) := by decide +kernel
theorem dL_law_1937 : decode cL_law 1937 = .ok (.invokestatic 174, 3) := by decide +kernel
theorem dL_law_1940 : decode cL_law 1940 = .ok (.ldc 77, 2) := by decide +kernel
theorem dL_law_1942 : decode cL_law 1942 = .ok (.if_icmp .eq 5, 3) := by decide +kernel
theorem dL_law_1945 : decode cL_law 1945 = .ok (.iconst 0, 1) := by decide +kernel
theorem dL_law_1946 : decode cL_law 1946 = .ok (.ireturn, 1) := by decide +kernel
theorem dL_law_1947 : decode cL_law 1947 = .ok (.aload_n 0, 1) := by decide +kernel
theorem dL_law_1948 : decode cL_law 1948 = .ok (.invokestatic 177, 3) := by decide +kernel
theorem dL_law_1951 : decode cL_law 1951 = .ok (.ifCond .eq 27, 3) := by decide +kernel
theorem dL_law_1954 : decode cL_law 1954 = .ok (.aload_n 0, 1) := by decide +kernel
theorem dL_law_1955 : decode cL_law 1955 = .ok (.invokestatic 180, 3) := by decide +kernel
theorem dL_law_1958 : decode cL_law 1958 = .ok (.ifCond .eq 20, 3) := by decide +kernel
theorem dL_law_1961 : decode cL_law 1961 = .ok (.aload_n 0, 1) := by decide +kernel
theorem dL_law_1962 : decode cL_law 1962 = .ok (.invokestatic 183, 3) := by decide +kernel
theorem dL_law_1965 : decode cL_law 1965 = .ok (.ifCond .eq 13, 3) := by decide +kernel
theorem dL_law_1968 : decode cL_law 1968 = .ok (.invokestatic 186, 3) := by decide +kernel
theorem dL_law_1971 : decode cL_law 1971 = .ok (.ifCond .eq 7, 3) := by decide +kernel
theorem dL_law_1974 : decode cL_law 1974 = .ok (.iconst 1, 1) := by decide +kernel
theorem dL_law_1975 : decode cL_law 1975 = .ok (.goto 4, 3) := by decide +kernel
theorem dL_law_1978 : decode cL_law 1978 = .ok (.iconst 0, 1) := by decide +kernel
theorem dL_law_1979 : decode cL_law 1979 = .ok (.ireturn, 1) := by decide +kernel
theorem dL_serial_0 : decode cL_serial 0 = .ok (.new 8, 3) := by decide +kernel
theorem dL_serial_3 : decode cL_serial 3 = .ok (.dup, 1) := by decide +kernel
theorem dL_serial_4 : decode cL_serial 4 = .ok (.invokespecial 145, 3) := by decide +kernel
theorem dL_serial_7 : decode cL_serial 7 = .ok (.astore_n 1, 1) := by decide +kernel
theorem dL_serial_8 : decode cL_serial 8 = .ok (.aload_n 0, 1) := by decide +kernel
theorem dL_serial_9 : decode cL_serial 9 = .ok (.iconst 0, 1) := by decide +kernel
theorem dL_serial_10 : decode cL_serial 10 = .ok (.invokestatic 189, 3) := by decide +kernel
theorem dL_serial_13 : decode cL_serial 13 = .ok (.iconst 4, 1) := by decide +kernel
theorem dL_serial_14 : decode cL_serial 14 = .ok (.invokestatic 193, 3) := by decide +kernel
theorem dL_serial_17 : decode cL_serial 17 = .ok (.istore_n 2, 1) := by decide +kernel
theorem dL_serial_18 : decode cL_serial 18 = .ok (.iconst 2, 1) := by decide +kernel
theorem dL_serial_19 : decode cL_serial 19 = .ok (.iconst 1, 1) := by decide +kernel
theorem dL_serial_20 : decode cL_serial 20 = .ok (.aload_n 0, 1) := by decide +kernel
theorem dL_serial_21 : decode cL_serial 21 = .ok (.iconst 1, 1) := by decide +kernel
theorem dL_serial_22 : decode cL_serial 22 = .ok (.invokestatic 189, 3) := by decide +kernel
theorem dL_serial_25 : decode cL_serial 25 = .ok (.bipush 9, 2) := by decide +kernel
theorem dL_serial_27 : decode cL_serial 27 = .ok (.invokestatic 193, 3) := by decide +kernel
theorem dL_serial_30 : decode cL_serial 30 = .ok (.iadd, 1) := by decide +kernel
theorem dL_serial_31 : decode cL_serial 31 = .ok (.imul, 1) := by decide +kernel
theorem dL_serial_32 : decode cL_serial 32 = .ok (.istore_n 3, 1) := by decide +kernel
theorem dL_serial_33 : decode cL_serial 33 = .ok (.ldc 196, 2) := by decide +kernel
theorem dL_serial_35 : decode cL_serial 35 = .ok (.aload_n 0, 1) := by decide +kernel
theorem dL_serial_36 : decode cL_serial 36 = .ok (.iconst 2, 1) := by decide +kernel
theorem dL_serial_37 : decode cL_serial 37 = .ok (.invokestatic 189, 3) := by decide +kernel
theorem dL_serial_40 : decode cL_serial 40 = .ok (.iconst 3, 1) := by decide +kernel
theorem dL_serial_41 : decode cL_serial 41 = .ok (.invokestatic 193, 3) := by decide +kernel
theorem dL_serial_44 : decode cL_serial 44 = .ok (.invokevirtual 198, 3) := by decide +kernel
theorem dL_serial_47 : decode cL_serial 47 = .ok (.istore 4, 2) := by decide +kernel
theorem dL_serial_49 : decode cL_serial 49 = .ok (.aload_n 0, 1) := by decide +kernel
theorem dL_serial_50 : decode cL_serial 50 = .ok (.iconst 3, 1) := by decide +kernel
theorem dL_serial_51 : decode cL_serial 51 = .ok (.invokestatic 189, 3) := by decide +kernel
theorem dL_serial_54 : decode cL_serial 54 = .ok (.sipush 256, 3) := by decide +kernel
theorem dL_serial_57 : decode cL_serial 57 = .ok (.invokestatic 193, 3) := by decide +kernel
theorem dL_serial_60 : decode cL_serial 60 = .ok (.istore 5, 2) := by decide +kernel
theorem dL_serial_62 : decode cL_serial 62 = .ok (.aload_n 0, 1) := by decide +kernel
theorem dL_serial_63 : decode cL_serial 63 = .ok (.iconst 4, 1) := by decide +kernel
theorem dL_serial_64 : decode cL_serial 64 = .ok (.invokestatic 189, 3) := by decide +kernel
theorem dL_serial_67 : decode cL_serial 67 = .ok (.sipush 256, 3) := by decide +kernel
theorem dL_serial_70 : decode cL_serial 70 = .ok (.invokestatic 193, 3) := by decide +kernel
theorem dL_serial_73 : decode cL_serial 73 = .ok (.istore 6, 2) := by decide +kernel
theorem dL_serial_75 : decode cL_serial 75 = .ok (.iload 4, 2) := by decide +kernel
theorem dL_serial_77 : decode cL_serial 77 = .ok (.bipush 110, 2) := by decide +kernel
theorem dL_serial_79 : decode cL_serial 79 = .ok (.if_icmp .ne 8, 3) := by decide +kernel
theorem dL_serial_82 : decode cL_serial 82 = .ok (.bipush 10, 2) := by decide +kernel
theorem dL_serial_84 : decode cL_serial 84 = .ok (.goto 5, 3) := by decide +kernel
theorem dL_serial_87 : decode cL_serial 87 = .ok (.bipush 11, 2) := by decide +kernel
theorem dL_serial_89 : decode cL_serial 89 = .ok (.istore 7, 2) := by decide +kernel
theorem dL_serial_91 : decode cL_serial 91 = .ok (.aload_n 0, 1) := by decide +kernel
theorem dL_serial_92 : decode cL_serial 92 = .ok (.iconst 5, 1) := by decide +kernel
theorem dL_serial_93 : decode cL_serial 93 = .ok (.invokestatic 189, 3) := by decide +kernel
theorem dL_serial_96 : decode cL_serial 96 = .ok (.bipush 20, 2) := by decide +kernel
theorem dL_serial_98 : decode cL_serial 98 = .ok (.invokestatic 193, 3) := by decide +kernel
theorem dL_serial_101 : decode cL_serial 101 = .ok (.istore 8, 2) := by decide +kernel
theorem dL_serial_103 : decode cL_serial 103 = .ok (.iconst 5, 1) := by decide +kernel
theorem dL_serial_104 : decode cL_serial 104 = .ok (.iload 7, 2) := by decide +kernel
theorem dL_serial_106 : decode cL_serial 106 = .ok (.iload_n 3, 1) := by decide +kernel
theorem dL_serial_107 : decode cL_serial 107 = .ok (.imul, 1) := by decide +kernel
theorem dL_serial_108 : decode cL_serial 108 = .ok (.iadd, 1) := by decide +kernel
theorem dL_serial_109 : decode cL_serial 109 = .ok (.iload 8, 2) := by decide +kernel
theorem dL_serial_111 : decode cL_serial 111 = .ok (.iadd, 1) := by decide +kernel
theorem dL_serial_112 : decode cL_serial 112 = .ok (.istore 9, 2) := by decide +kernel
theorem dL_serial_114 : decode cL_serial 114 = .ok (.aload_n 1, 1) := by decide +kernel
theorem dL_serial_115 : decode cL_serial 115 = .ok (.bipush 73, 2) := by decide +kernel
theorem dL_serial_117 : decode cL_serial 117 = .ok (.iconst 2, 1) := by decide +kernel
theorem dL_serial_118 : decode cL_serial 118 = .ok (.newarray .int, 2) := by decide +kernel
theorem dL_serial_120 : decode cL_serial 120 = .ok (.dup, 1) := by decide +kernel
theorem dL_serial_121 : decode cL_serial 121 = .ok (.iconst 0, 1) := by decide +kernel
theorem dL_serial_122 : decode cL_serial 122 = .ok (.iload_n 2, 1) := by decide +kernel
theorem dL_serial_123 : decode cL_serial 123 = .ok (.iastore, 1) := by decide +kernel
theorem dL_serial_124 : decode cL_serial 124 = .ok (.dup, 1) := by decide +kernel
theorem dL_serial_125 : decode cL_serial 125 = .ok (.iconst 1, 1) := by decide +kernel
theorem dL_serial_126 : decode cL_serial 126 = .ok (.iconst 1, 1) := by decide +kernel
theorem dL_serial_127 : decode cL_serial 127 = .ok (.iastore, 1) := by decide +kernel
theorem dL_serial_128 : decode cL_serial 128 = .ok (.invokestatic 174, 3) := by decide +kernel
theorem dL_serial_131 : decode cL_serial 131 = .ok (.ifCond .ne 85, 3) := by decide +kernel
theorem dL_serial_134 : decode cL_serial 134 = .ok (.aload_n 1, 1) := by decide +kernel
theorem dL_serial_135 : decode cL_serial 135 = .ok (.bipush 115, 2) := by decide +kernel
theorem dL_serial_137 : decode cL_serial 137 = .ok (.iconst 5, 1) := by decide +kernel
theorem dL_serial_138 : decode cL_serial 138 = .ok (.newarray .int, 2) := by decide +kernel
theorem dL_serial_140 : decode cL_serial 140 = .ok (.dup, 1) := by decide +kernel
theorem dL_serial_141 : decode cL_serial 141 = .ok (.iconst 0, 1) := by decide +kernel
theorem dL_serial_142 : decode cL_serial 142 = .ok (.iload_n 2, 1) := by decide +kernel
theorem dL_serial_143 : decode cL_serial 143 = .ok (.iastore, 1) := by decide +kernel
theorem dL_serial_144 : decode cL_serial 144 = .ok (.dup, 1) := by decide +kernel
theorem dL_serial_145 : decode cL_serial 145 = .ok (.iconst 1, 1) := by decide +kernel
theorem dL_serial_146 : decode cL_serial 146 = .ok (.iload 5, 2) := by decide +kernel
theorem dL_serial_148 : decode cL_serial 148 = .ok (.iastore, 1) := by decide +kernel
theorem dL_serial_149 : decode cL_serial 149 = .ok (.dup, 1) := by decide +kernel
theorem dL_serial_150 : decode cL_serial 150 = .ok (.iconst 2, 1) := by decide +kernel
theorem dL_serial_151 : decode cL_serial 151 = .ok (.iconst 5, 1) := by decide +kernel
theorem dL_serial_152 : decode cL_serial 152 = .ok (.iastore, 1) := by decide +kernel
theorem dL_serial_153 : decode cL_serial 153 = .ok (.dup, 1) := by decide +kernel
theorem dL_serial_154 : decode cL_serial 154 = .ok (.iconst 3, 1) := by decide +kernel
theorem dL_serial_155 : decode cL_serial 155 = .ok (.iload_n 3, 1) := by decide +kernel
theorem dL_serial_156 : decode cL_serial 156 = .ok (.iastore, 1) := by decide +kernel
theorem dL_serial_157 : decode cL_serial 157 = .ok (.dup, 1) := by decide +kernel
theorem dL_serial_158 : decode cL_serial 158 = .ok (.iconst 4, 1) := by decide +kernel
theorem dL_serial_159 : decode cL_serial 159 = .ok (.iload 4, 2) := by decide +kernel
theorem dL_serial_161 : decode cL_serial 161 = .ok (.iastore, 1) := by decide +kernel
theorem dL_serial_162 : decode cL_serial 162 = .ok (.invokestatic 174, 3) := by decide +kernel
theorem dL_serial_165 : decode cL_serial 165 = .ok (.iconst 5, 1) := by decide +kernel
theorem dL_serial_166 : decode cL_serial 166 = .ok (.iload 7, 2) := by decide +kernel
theorem dL_serial_168 : decode cL_serial 168 = .ok (.iload_n 3, 1) := by decide +kernel
theorem dL_serial_169 : decode cL_serial 169 = .ok (.imul, 1) := by decide +kernel
theorem dL_serial_170 : decode cL_serial 170 = .ok (.iadd, 1) := by decide +kernel
theorem dL_serial_171 : decode cL_serial 171 = .ok (.if_icmp .ne 45, 3) := by decide +kernel
theorem dL_serial_174 : decode cL_serial 174 = .ok (.aload_n 1, 1) := by decide +kernel
theorem dL_serial_175 : decode cL_serial 175 = .ok (.bipush 115, 2) := by decide +kernel
theorem dL_serial_177 : decode cL_serial 177 = .ok (.iconst 5, 1) := by decide +kernel
theorem dL_serial_178 : decode cL_serial 178 = .ok (.newarray .int, 2) := by decide +kernel
theorem dL_serial_180 : decode cL_serial 180 = .ok (.dup, 1) := by decide +kernel
theorem dL_serial_181 : decode cL_serial 181 = .ok (.iconst 0, 1) := by decide +kernel
theorem dL_serial_182 : decode cL_serial 182 = .ok (.iload_n 2, 1) := by decide +kernel
theorem dL_serial_183 : decode cL_serial 183 = .ok (.iastore, 1) := by decide +kernel
theorem dL_serial_184 : decode cL_serial 184 = .ok (.dup, 1) := by decide +kernel
theorem dL_serial_185 : decode cL_serial 185 = .ok (.iconst 1, 1) := by decide +kernel
theorem dL_serial_186 : decode cL_serial 186 = .ok (.iload 6, 2) := by decide +kernel
theorem dL_serial_188 : decode cL_serial 188 = .ok (.iastore, 1) := by decide +kernel
theorem dL_serial_189 : decode cL_serial 189 = .ok (.dup, 1) := by decide +kernel
theorem dL_serial_190 : decode cL_serial 190 = .ok (.iconst 2, 1) := by decide +kernel
theorem dL_serial_191 : decode cL_serial 191 = .ok (.iload 9, 2) := by decide +kernel
theorem dL_serial_193 : decode cL_serial 193 = .ok (.iastore, 1) := by decide +kernel
theorem dL_serial_194 : decode cL_serial 194 = .ok (.dup, 1) := by decide +kernel
theorem dL_serial_195 : decode cL_serial 195 = .ok (.iconst 3, 1) := by decide +kernel
theorem dL_serial_196 : decode cL_serial 196 = .ok (.iload_n 3, 1) := by decide +kernel
theorem dL_serial_197 : decode cL_serial 197 = .ok (.iastore, 1) := by decide +kernel
theorem dL_serial_198 : decode cL_serial 198 = .ok (.dup, 1) := by decide +kernel
theorem dL_serial_199 : decode cL_serial 199 = .ok (.iconst 4, 1) := by decide +kernel
theorem dL_serial_200 : decode cL_serial 200 = .ok (.iload 4, 2) := by decide +kernel
theorem dL_serial_202 : decode cL_serial 202 = .ok (.iastore, 1) := by decide +kernel
theorem dL_serial_203 : decode cL_serial 203 = .ok (.invokestatic 174, 3) := by decide +kernel
theorem dL_serial_206 : decode cL_serial 206 = .ok (.iload 9, 2) := by decide +kernel
theorem dL_serial_208 : decode cL_serial 208 = .ok (.iload 7, 2) := by decide +kernel
theorem dL_serial_210 : decode cL_serial 210 = .ok (.iload_n 3, 1) := by decide +kernel
theorem dL_serial_211 : decode cL_serial 211 = .ok (.imul, 1) := by decide +kernel
theorem dL_serial_212 : decode cL_serial 212 = .ok (.iadd, 1) := by decide +kernel
theorem dL_serial_213 : decode cL_serial 213 = .ok (.if_icmp .eq 5, 3) := by decide +kernel
theorem dL_serial_216 : decode cL_serial 216 = .ok (.iconst 0, 1) := by decide +kernel
theorem dL_serial_217 : decode cL_serial 217 = .ok (.ireturn, 1) := by decide +kernel
theorem dL_serial_218 : decode cL_serial 218 = .ok (.iload 9, 2) := by decide +kernel
theorem dL_serial_220 : decode cL_serial 220 = .ok (.iload 7, 2) := by decide +kernel
theorem dL_serial_222 : decode cL_serial 222 = .ok (.iload_n 3, 1) := by decide +kernel
theorem dL_serial_223 : decode cL_serial 223 = .ok (.imul, 1) := by decide +kernel
theorem dL_serial_224 : decode cL_serial 224 = .ok (.iadd, 1) := by decide +kernel
theorem dL_serial_225 : decode cL_serial 225 = .ok (.iconst 2, 1) := by decide +kernel
theorem dL_serial_226 : decode cL_serial 226 = .ok (.imul, 1) := by decide +kernel
theorem dL_serial_227 : decode cL_serial 227 = .ok (.iload_n 3, 1) := by decide +kernel
theorem dL_serial_228 : decode cL_serial 228 = .ok (.idiv, 1) := by decide +kernel
theorem dL_serial_229 : decode cL_serial 229 = .ok (.iconst 1, 1) := by decide +kernel
theorem dL_serial_230 : decode cL_serial 230 = .ok (.iadd, 1) := by decide +kernel
theorem dL_serial_231 : decode cL_serial 231 = .ok (.istore 10, 2) := by decide +kernel
theorem dL_serial_233 : decode cL_serial 233 = .ok (.iload 10, 2) := by decide +kernel
theorem dL_serial_235 : decode cL_serial 235 = .ok (.sipush 400, 3) := by decide +kernel
theorem dL_serial_238 : decode cL_serial 238 = .ok (.if_icmp .le 5, 3) := by decide +kernel
theorem dL_serial_241 : decode cL_serial 241 = .ok (.iconst 1, 1) := by decide +kernel
theorem dL_serial_242 : decode cL_serial 242 = .ok (.ireturn, 1) := by decide +kernel
theorem dL_serial_243 : decode cL_serial 243 = .ok (.iconst 0, 1) := by decide +kernel
theorem dL_serial_244 : decode cL_serial 244 = .ok (.iconst 5, 1) := by decide +kernel
theorem dL_serial_245 : decode cL_serial 245 = .ok (.iload_n 3, 1) := by decide +kernel
theorem dL_serial_246 : decode cL_serial 246 = .ok (.iconst 2, 1) := by decide +kernel
theorem dL_serial_247 : decode cL_serial 247 = .ok (.idiv, 1) := by decide +kernel
theorem dL_serial_248 : decode cL_serial 248 = .ok (.isub, 1) := by decide +kernel
theorem dL_serial_249 : decode cL_serial 249 = .ok (.invokestatic 203, 3) := by decide +kernel
theorem dL_serial_252 : decode cL_serial 252 = .ok (.istore 11, 2) := by decide +kernel
theorem dL_serial_254 : decode cL_serial 254 = .ok (.iload 8, 2) := by decide +kernel
theorem dL_serial_256 : decode cL_serial 256 = .ok (.iload_n 3, 1) := by decide +kernel
theorem dL_serial_257 : decode cL_serial 257 = .ok (.iconst 2, 1) := by decide +kernel
theorem dL_serial_258 : decode cL_serial 258 = .ok (.idiv, 1) := by decide +kernel
theorem dL_serial_259 : decode cL_serial 259 = .ok (.irem, 1) := by decide +kernel
theorem dL_serial_260 : decode cL_serial 260 = .ok (.ifCond .ne 71, 3) := by decide +kernel
theorem dL_serial_263 : decode cL_serial 263 = .ok (.iconst 5, 1) := by decide +kernel
theorem dL_serial_264 : decode cL_serial 264 = .ok (.iload 11, 2) := by decide +kernel
theorem dL_serial_266 : decode cL_serial 266 = .ok (.isub, 1) := by decide +kernel
theorem dL_serial_267 : decode cL_serial 267 = .ok (.iload_n 3, 1) := by decide +kernel
theorem dL_serial_268 : decode cL_serial 268 = .ok (.iconst 2, 1) := by decide +kernel
theorem dL_serial_269 : decode cL_serial 269 = .ok (.idiv, 1) := by decide +kernel
theorem dL_serial_270 : decode cL_serial 270 = .ok (.irem, 1) := by decide +kernel
theorem dL_serial_271 : decode cL_serial 271 = .ok (.ifCond .ne 60, 3) := by decide +kernel
theorem dL_serial_274 : decode cL_serial 274 = .ok (.iload 11, 2) := by decide +kernel
theorem dL_serial_276 : decode cL_serial 276 = .ok (.iconst 5, 1) := by decide +kernel
theorem dL_serial_277 : decode cL_serial 277 = .ok (.if_icmp .eq 54, 3) := by decide +kernel
theorem dL_serial_280 : decode cL_serial 280 = .ok (.aload_n 1, 1) := by decide +kernel
theorem dL_serial_281 : decode cL_serial 281 = .ok (.bipush 67, 2) := by decide +kernel
theorem dL_serial_283 : decode cL_serial 283 = .ok (.iconst 4, 1) := by decide +kernel
theorem dL_serial_284 : decode cL_serial 284 = .ok (.newarray .int, 2) := by decide +kernel
theorem dL_serial_286 : decode cL_serial 286 = .ok (.dup, 1) := by decide +kernel
theorem dL_serial_287 : decode cL_serial 287 = .ok (.iconst 0, 1) := by decide +kernel
theorem dL_serial_288 : decode cL_serial 288 = .ok (.iconst 0, 1) := by decide +kernel
theorem dL_serial_289 : decode cL_serial 289 = .ok (.iastore, 1) := by decide +kernel
theorem dL_serial_290 : decode cL_serial 290 = .ok (.dup, 1) := by decide +kernel
theorem dL_serial_291 : decode cL_serial 291 = .ok (.iconst 1, 1) := by decide +kernel
theorem dL_serial_292 : decode cL_serial 292 = .ok (.iload 11, 2) := by decide +kernel
theorem dL_serial_294 : decode cL_serial 294 = .ok (.iastore, 1) := by decide +kernel
theorem dL_serial_295 : decode cL_serial 295 = .ok (.dup, 1) := by decide +kernel
theorem dL_serial_296 : decode cL_serial 296 = .ok (.iconst 2, 1) := by decide +kernel
theorem dL_serial_297 : decode cL_serial 297 = .ok (.iload_n 3, 1) := by decide +kernel
theorem dL_serial_298 : decode cL_serial 298 = .ok (.iconst 2, 1) := by decide +kernel
theorem dL_serial_299 : decode cL_serial 299 = .ok (.idiv, 1) := by decide +kernel
theorem dL_serial_300 : decode cL_serial 300 = .ok (.iastore, 1) := by decide +kernel
theorem dL_serial_301 : decode cL_serial 301 = .ok (.dup, 1) := by decide +kernel
theorem dL_serial_302 : decode cL_serial 302 = .ok (.iconst 3, 1) := by decide +kernel
theorem dL_serial_303 : decode cL_serial 303 = .ok (.sipush 400, 3) := by decide +kernel
theorem dL_serial_306 : decode cL_serial 306 = .ok (.iconst 2, 1) := by decide +kernel
theorem dL_serial_307 : decode cL_serial 307 = .ok (.iload 7, 2) := by decide +kernel
theorem dL_serial_309 : decode cL_serial 309 = .ok (.imul, 1) := by decide +kernel
theorem dL_serial_310 : decode cL_serial 310 = .ok (.iconst 2, 1) := by decide +kernel
theorem dL_serial_311 : decode cL_serial 311 = .ok (.imul, 1) := by decide +kernel
theorem dL_serial_312 : decode cL_serial 312 = .ok (.iload 8, 2) := by decide +kernel
theorem dL_serial_314 : decode cL_serial 314 = .ok (.iload_n 3, 1) := by decide +kernel
theorem dL_serial_315 : decode cL_serial 315 = .ok (.iconst 2, 1) := by decide +kernel
theorem dL_serial_316 : decode cL_serial 316 = .ok (.idiv, 1) := by decide +kernel
theorem dL_serial_317 : decode cL_serial 317 = .ok (.idiv, 1) := by decide +kernel
theorem dL_serial_318 : decode cL_serial 318 = .ok (.iadd, 1) := by decide +kernel
theorem dL_serial_319 : decode cL_serial 319 = .ok (.iconst 2, 1) := by decide +kernel
theorem dL_serial_320 : decode cL_serial 320 = .ok (.iadd, 1) := by decide +kernel
theorem dL_serial_321 : decode cL_serial 321 = .ok (.invokestatic 208, 3) := by decide +kernel
theorem dL_serial_324 : decode cL_serial 324 = .ok (.iastore, 1) := by decide +kernel
theorem dL_serial_325 : decode cL_serial 325 = .ok (.invokestatic 174, 3) := by decide +kernel
theorem dL_serial_328 : decode cL_serial 328 = .ok (.ifCond .ge 5, 3) := by decide +kernel
theorem dL_serial_331 : decode cL_serial 331 = .ok (.iconst 1, 1) := by decide +kernel
theorem dL_serial_332 : decode cL_serial 332 = .ok (.ireturn, 1) := by decide +kernel
theorem dL_serial_333 : decode cL_serial 333 = .ok (.aload_n 1, 1) := by decide +kernel
theorem dL_serial_334 : decode cL_serial 334 = .ok (.bipush 49, 2) := by decide +kernel
theorem dL_serial_336 : decode cL_serial 336 = .ok (.iconst 4, 1) := by decide +kernel
theorem dL_serial_337 : decode cL_serial 337 = .ok (.newarray .int, 2) := by decide +kernel
theorem dL_serial_339 : decode cL_serial 339 = .ok (.dup, 1) := by decide +kernel
theorem dL_serial_340 : decode cL_serial 340 = .ok (.iconst 0, 1) := by decide +kernel
theorem dL_serial_341 : decode cL_serial 341 = .ok (.iconst 0, 1) := by decide +kernel
theorem dL_serial_342 : decode cL_serial 342 = .ok (.iastore, 1) := by decide +kernel
theorem dL_serial_343 : decode cL_serial 343 = .ok (.dup, 1) := by decide +kernel
theorem dL_serial_344 : decode cL_serial 344 = .ok (.iconst 1, 1) := by decide +kernel
theorem dL_serial_345 : decode cL_serial 345 = .ok (.iload_n 2, 1) := by decide +kernel
theorem dL_serial_346 : decode cL_serial 346 = .ok (.iastore, 1) := by decide +kernel
theorem dL_serial_347 : decode cL_serial 347 = .ok (.dup, 1) := by decide +kernel
theorem dL_serial_348 : decode cL_serial 348 = .ok (.iconst 2, 1) := by decide +kernel
theorem dL_serial_349 : decode cL_serial 349 = .ok (.bipush 20, 2) := by decide +kernel
theorem dL_serial_351 : decode cL_serial 351 = .ok (.iastore, 1) := by decide +kernel
theorem dL_serial_352 : decode cL_serial 352 = .ok (.dup, 1) := by decide +kernel
theorem dL_serial_353 : decode cL_serial 353 = .ok (.iconst 3, 1) := by decide +kernel
theorem dL_serial_354 : decode cL_serial 354 = .ok (.iload 4, 2) := by decide +kernel
theorem dL_serial_356 : decode cL_serial 356 = .ok (.iastore, 1) := by decide +kernel
theorem dL_serial_357 : decode cL_serial 357 = .ok (.invokestatic 174, 3) := by decide +kernel
theorem dL_serial_360 : decode cL_serial 360 = .ok (.iconst 2, 1) := by decide +kernel
theorem dL_serial_361 : decode cL_serial 361 = .ok (.if_icmp .ne 98, 3) := by decide +kernel
theorem dL_serial_364 : decode cL_serial 364 = .ok (.aload_n 1, 1) := by decide +kernel
theorem dL_serial_365 : decode cL_serial 365 = .ok (.bipush 118, 2) := by decide +kernel
theorem dL_serial_367 : decode cL_serial 367 = .ok (.iconst 1, 1) := by decide +kernel
theorem dL_serial_368 : decode cL_serial 368 = .ok (.newarray .int, 2) := by decide +kernel
theorem dL_serial_370 : decode cL_serial 370 = .ok (.dup, 1) := by decide +kernel
theorem dL_serial_371 : decode cL_serial 371 = .ok (.iconst 0, 1) := by decide +kernel
theorem dL_serial_372 : decode cL_serial 372 = .ok (.iconst 0, 1) := by decide +kernel
theorem dL_serial_373 : decode cL_serial 373 = .ok (.iastore, 1) := by decide +kernel
theorem dL_serial_374 : decode cL_serial 374 = .ok (.invokestatic 174, 3) := by decide +kernel
theorem dL_serial_377 : decode cL_serial 377 = .ok (.iload 5, 2) := by decide +kernel
theorem dL_serial_379 : decode cL_serial 379 = .ok (.if_icmp .ne 80, 3) := by decide +kernel
theorem dL_serial_382 : decode cL_serial 382 = .ok (.aload_n 1, 1) := by decide +kernel
theorem dL_serial_383 : decode cL_serial 383 = .ok (.bipush 118, 2) := by decide +kernel
theorem dL_serial_385 : decode cL_serial 385 = .ok (.iconst 1, 1) := by decide +kernel
theorem dL_serial_386 : decode cL_serial 386 = .ok (.newarray .int, 2) := by decide +kernel
theorem dL_serial_388 : decode cL_serial 388 = .ok (.dup, 1) := by decide +kernel
theorem dL_serial_389 : decode cL_serial 389 = .ok (.iconst 0, 1) := by decide +kernel
theorem dL_serial_390 : decode cL_serial 390 = .ok (.iconst 1, 1) := by decide +kernel
theorem dL_serial_391 : decode cL_serial 391 = .ok (.iastore, 1) := by decide +kernel
theorem dL_serial_392 : decode cL_serial 392 = .ok (.invokestatic 174, 3) := by decide +kernel
theorem dL_serial_395 : decode cL_serial 395 = .ok (.iload 6, 2) := by decide +kernel
theorem dL_serial_397 : decode cL_serial 397 = .ok (.if_icmp .ne 62, 3) := by decide +kernel
theorem dL_serial_400 : decode cL_serial 400 = .ok (.aload_n 1, 1) := by decide +kernel
theorem dL_serial_401 : decode cL_serial 401 = .ok (.bipush 120, 2) := by decide +kernel
theorem dL_serial_403 : decode cL_serial 403 = .ok (.iconst 1, 1) := by decide +kernel
theorem dL_serial_404 : decode cL_serial 404 = .ok (.newarray .int, 2) := by decide +kernel
theorem dL_serial_406 : decode cL_serial 406 = .ok (.dup, 1) := by decide +kernel
theorem dL_serial_407 : decode cL_serial 407 = .ok (.iconst 0, 1) := by decide +kernel
theorem dL_serial_408 : decode cL_serial 408 = .ok (.iconst 0, 1) := by decide +kernel
theorem dL_serial_409 : decode cL_serial 409 = .ok (.iastore, 1) := by decide +kernel
theorem dL_serial_410 : decode cL_serial 410 = .ok (.invokestatic 174, 3) := by decide +kernel
theorem dL_serial_413 : decode cL_serial 413 = .ok (.bipush 45, 2) := by decide +kernel
theorem dL_serial_415 : decode cL_serial 415 = .ok (.if_icmp .ne 44, 3) := by decide +kernel
theorem dL_serial_418 : decode cL_serial 418 = .ok (.aload_n 1, 1) := by decide +kernel
theorem dL_serial_419 : decode cL_serial 419 = .ok (.bipush 120, 2) := by decide +kernel
theorem dL_serial_421 : decode cL_serial 421 = .ok (.iconst 1, 1) := by decide +kernel
theorem dL_serial_422 : decode cL_serial 422 = .ok (.newarray .int, 2) := by decide +kernel
theorem dL_serial_424 : decode cL_serial 424 = .ok (.dup, 1) := by decide +kernel
theorem dL_serial_425 : decode cL_serial 425 = .ok (.iconst 0, 1) := by decide +kernel
theorem dL_serial_426 : decode cL_serial 426 = .ok (.iconst 1, 1) := by decide +kernel
theorem dL_serial_427 : decode cL_serial 427 = .ok (.iastore, 1) := by decide +kernel
theorem dL_serial_428 : decode cL_serial 428 = .ok (.invokestatic 174, 3) := by decide +kernel
theorem dL_serial_431 : decode cL_serial 431 = .ok (.bipush 45, 2) := by decide +kernel
theorem dL_serial_433 : decode cL_serial 433 = .ok (.if_icmp .ne 26, 3) := by decide +kernel
theorem dL_serial_436 : decode cL_serial 436 = .ok (.aload_n 1, 1) := by decide +kernel
theorem dL_serial_437 : decode cL_serial 437 = .ok (.bipush 119, 2) := by decide +kernel
theorem dL_serial_439 : decode cL_serial 439 = .ok (.iconst 2, 1) := by decide +kernel
theorem dL_serial_440 : decode cL_serial 440 = .ok (.newarray .int, 2) := by decide +kernel
theorem dL_serial_442 : decode cL_serial 442 = .ok (.dup, 1) := by decide +kernel
theorem dL_serial_443 : decode cL_serial 443 = .ok (.iconst 0, 1) := by decide +kernel
theorem dL_serial_444 : decode cL_serial 444 = .ok (.iload 5, 2) := by decide +kernel
theorem dL_serial_446 : decode cL_serial 446 = .ok (.iastore, 1) := by decide +kernel
theorem dL_serial_447 : decode cL_serial 447 = .ok (.dup, 1) := by decide +kernel
theorem dL_serial_448 : decode cL_serial 448 = .ok (.iconst 1, 1) := by decide +kernel
theorem dL_serial_449 : decode cL_serial 449 = .ok (.iload 6, 2) := by decide +kernel
theorem dL_serial_451 : decode cL_serial 451 = .ok (.iastore, 1) := by decide +kernel
theorem dL_serial_452 : decode cL_serial 452 = .ok (.invokestatic 174, 3) := by decide +kernel
theorem dL_serial_455 : decode cL_serial 455 = .ok (.iconst 1, 1) := by decide +kernel
theorem dL_serial_456 : decode cL_serial 456 = .ok (.if_icmp .eq 5, 3) := by decide +kernel
theorem dL_serial_459 : decode cL_serial 459 = .ok (.iconst 0, 1) := by decide +kernel
theorem dL_serial_460 : decode cL_serial 460 = .ok (.ireturn, 1) := by decide +kernel
theorem dL_serial_461 : decode cL_serial 461 = .ok (.iload 4, 2) := by decide +kernel
theorem dL_serial_463 : decode cL_serial 463 = .ok (.bipush 101, 2) := by decide +kernel
theorem dL_serial_465 : decode cL_serial 465 = .ok (.if_icmp .ne 8, 3) := by decide +kernel
theorem dL_serial_468 : decode cL_serial 468 = .ok (.bipush 111, 2) := by decide +kernel
theorem dL_serial_470 : decode cL_serial 470 = .ok (.goto 5, 3) := by decide +kernel
theorem dL_serial_473 : decode cL_serial 473 = .ok (.bipush 101, 2) := by decide +kernel
theorem dL_serial_475 : decode cL_serial 475 = .ok (.istore 12, 2) := by decide +kernel
theorem dL_serial_477 : decode cL_serial 477 = .ok (.iload 4, 2) := by decide +kernel
theorem dL_serial_479 : decode cL_serial 479 = .ok (.bipush 110, 2) := by decide +kernel
theorem dL_serial_481 : decode cL_serial 481 = .ok (.if_icmp .eq 70, 3) := by decide +kernel
theorem dL_serial_484 : decode cL_serial 484 = .ok (.aload_n 1, 1) := by decide +kernel
theorem dL_serial_485 : decode cL_serial 485 = .ok (.bipush 49, 2) := by decide +kernel
theorem dL_serial_487 : decode cL_serial 487 = .ok (.iconst 4, 1) := by decide +kernel
theorem dL_serial_488 : decode cL_serial 488 = .ok (.newarray .int, 2) := by decide +kernel
theorem dL_serial_490 : decode cL_serial 490 = .ok (.dup, 1) := by decide +kernel
theorem dL_serial_491 : decode cL_serial 491 = .ok (.iconst 0, 1) := by decide +kernel
theorem dL_serial_492 : decode cL_serial 492 = .ok (.iconst 0, 1) := by decide +kernel
theorem dL_serial_493 : decode cL_serial 493 = .ok (.iastore, 1) := by decide +kernel
theorem dL_serial_494 : decode cL_serial 494 = .ok (.dup, 1) := by decide +kernel
theorem dL_serial_495 : decode cL_serial 495 = .ok (.iconst 1, 1) := by decide +kernel
theorem dL_serial_496 : decode cL_serial 496 = .ok (.iload_n 2, 1) := by decide +kernel
theorem dL_serial_497 : decode cL_serial 497 = .ok (.iastore, 1) := by decide +kernel
theorem dL_serial_498 : decode cL_serial 498 = .ok (.dup, 1) := by decide +kernel
theorem dL_serial_499 : decode cL_serial 499 = .ok (.iconst 2, 1) := by decide +kernel
theorem dL_serial_500 : decode cL_serial 500 = .ok (.bipush 20, 2) := by decide +kernel
theorem dL_serial_502 : decode cL_serial 502 = .ok (.iastore, 1) := by decide +kernel
theorem dL_serial_503 : decode cL_serial 503 = .ok (.dup, 1) := by decide +kernel
theorem dL_serial_504 : decode cL_serial 504 = .ok (.iconst 3, 1) := by decide +kernel
theorem dL_serial_505 : decode cL_serial 505 = .ok (.iload 12, 2) := by decide +kernel
theorem dL_serial_507 : decode cL_serial 507 = .ok (.iastore, 1) := by decide +kernel
theorem dL_serial_508 : decode cL_serial 508 = .ok (.invokestatic 174, 3) := by decide +kernel
theorem dL_serial_511 : decode cL_serial 511 = .ok (.iconst 2, 1) := by decide +kernel
theorem dL_serial_512 : decode cL_serial 512 = .ok (.if_icmp .ne 43, 3) := by decide +kernel
theorem dL_serial_515 : decode cL_serial 515 = .ok (.aload_n 1, 1) := by decide +kernel
theorem dL_serial_516 : decode cL_serial 516 = .ok (.bipush 120, 2) := by decide +kernel
theorem dL_serial_518 : decode cL_serial 518 = .ok (.iconst 1, 1) := by decide +kernel
theorem dL_serial_519 : decode cL_serial 519 = .ok (.newarray .int, 2) := by decide +kernel
theorem dL_serial_521 : decode cL_serial 521 = .ok (.dup, 1) := by decide +kernel
theorem dL_serial_522 : decode cL_serial 522 = .ok (.iconst 0, 1) := by decide +kernel
theorem dL_serial_523 : decode cL_serial 523 = .ok (.iconst 0, 1) := by decide +kernel
theorem dL_serial_524 : decode cL_serial 524 = .ok (.iastore, 1) := by decide +kernel
theorem dL_serial_525 : decode cL_serial 525 = .ok (.invokestatic 174, 3) := by decide +kernel
theorem dL_serial_528 : decode cL_serial 528 = .ok (.bipush 112, 2) := by decide +kernel
theorem dL_serial_530 : decode cL_serial 530 = .ok (.if_icmp .ne 25, 3) := by decide +kernel
theorem dL_serial_533 : decode cL_serial 533 = .ok (.aload_n 1, 1) := by decide +kernel
theorem dL_serial_534 : decode cL_serial 534 = .ok (.bipush 120, 2) := by decide +kernel
theorem dL_serial_536 : decode cL_serial 536 = .ok (.iconst 1, 1) := by decide +kernel
theorem dL_serial_537 : decode cL_serial 537 = .ok (.newarray .int, 2) := by decide +kernel
theorem dL_serial_539 : decode cL_serial 539 = .ok (.dup, 1) := by decide +kernel
theorem dL_serial_540 : decode cL_serial 540 = .ok (.iconst 0, 1) := by decide +kernel
theorem dL_serial_541 : decode cL_serial 541 = .ok (.iconst 1, 1) := by decide +kernel
theorem dL_serial_542 : decode cL_serial 542 = .ok (.iastore, 1) := by decide +kernel
theorem dL_serial_543 : decode cL_serial 543 = .ok (.invokestatic 174, 3) := by decide +kernel
theorem dL_serial_546 : decode cL_serial 546 = .ok (.bipush 112, 2) := by decide +kernel
theorem dL_serial_548 : decode cL_serial 548 = .ok (.if_icmp .ne 7, 3) := by decide +kernel
theorem dL_serial_551 : decode cL_serial 551 = .ok (.iconst 1, 1) := by decide +kernel
theorem dL_serial_552 : decode cL_serial 552 = .ok (.goto 4, 3) := by decide +kernel
theorem dL_serial_555 : decode cL_serial 555 = .ok (.iconst 0, 1) := by decide +kernel
theorem dL_serial_556 : decode cL_serial 556 = .ok (.ireturn, 1) := by decide +kernel
theorem dL_two_0 : decode cL_two 0 = .ok (.new 8, 3) := by decide +kernel
theorem dL_two_3 : decode cL_two 3 = .ok (.dup, 1) := by decide +kernel
theorem dL_two_4 : decode cL_two 4 = .ok (.invokespecial 145, 3) := by decide +kernel
theorem dL_two_7 : decode cL_two 7 = .ok (.astore_n 1, 1) := by decide +kernel
theorem dL_two_8 : decode cL_two 8 = .ok (.iconst 1, 1) := by decide +kernel
theorem dL_two_9 : decode cL_two 9 = .ok (.aload_n 0, 1) := by decide +kernel
theorem dL_two_10 : decode cL_two 10 = .ok (.bipush 6, 2) := by decide +kernel
theorem dL_two_12 : decode cL_two 12 = .ok (.invokestatic 189, 3) := by decide +kernel
theorem dL_two_15 : decode cL_two 15 = .ok (.bipush 9, 2) := by decide +kernel
theorem dL_two_17 : decode cL_two 17 = .ok (.invokestatic 193, 3) := by decide +kernel
theorem dL_two_20 : decode cL_two 20 = .ok (.iadd, 1) := by decide +kernel
theorem dL_two_21 : decode cL_two 21 = .ok (.istore_n 2, 1) := by decide +kernel
theorem dL_two_22 : decode cL_two 22 = .ok (.aload_n 0, 1) := by decide +kernel
theorem dL_two_23 : decode cL_two 23 = .ok (.bipush 7, 2) := by decide +kernel
theorem dL_two_25 : decode cL_two 25 = .ok (.invokestatic 189, 3) := by decide +kernel
theorem dL_two_28 : decode cL_two 28 = .ok (.sipush 128, 3) := by decide +kernel
theorem dL_two_31 : decode cL_two 31 = .ok (.invokestatic 193, 3) := by decide +kernel
theorem dL_two_34 : decode cL_two 34 = .ok (.istore_n 3, 1) := by decide +kernel
theorem dL_two_35 : decode cL_two 35 = .ok (.aload_n 0, 1) := by decide +kernel
theorem dL_two_36 : decode cL_two 36 = .ok (.bipush 8, 2) := by decide +kernel
theorem dL_two_38 : decode cL_two 38 = .ok (.invokestatic 189, 3) := by decide +kernel
theorem dL_two_41 : decode cL_two 41 = .ok (.iconst 3, 1) := by decide +kernel
theorem dL_two_42 : decode cL_two 42 = .ok (.invokestatic 193, 3) := by decide +kernel
theorem dL_two_45 : decode cL_two 45 = .ok (.ifCond .ne 7, 3) := by decide +kernel
theorem dL_two_48 : decode cL_two 48 = .ok (.iconst 1, 1) := by decide +kernel
theorem dL_two_49 : decode cL_two 49 = .ok (.goto 4, 3) := by decide +kernel
theorem dL_two_52 : decode cL_two 52 = .ok (.iconst 0, 1) := by decide +kernel
theorem dL_two_53 : decode cL_two 53 = .ok (.istore 4, 2) := by decide +kernel
theorem dL_two_55 : decode cL_two 55 = .ok (.aload_n 0, 1) := by decide +kernel
theorem dL_two_56 : decode cL_two 56 = .ok (.bipush 9, 2) := by decide +kernel
theorem dL_two_58 : decode cL_two 58 = .ok (.invokestatic 189, 3) := by decide +kernel
theorem dL_two_61 : decode cL_two 61 = .ok (.bipush 16, 2) := by decide +kernel
theorem dL_two_63 : decode cL_two 63 = .ok (.invokestatic 193, 3) := by decide +kernel
theorem dL_two_66 : decode cL_two 66 = .ok (.istore 5, 2) := by decide +kernel
theorem dL_two_68 : decode cL_two 68 = .ok (.aload_n 0, 1) := by decide +kernel
theorem dL_two_69 : decode cL_two 69 = .ok (.bipush 10, 2) := by decide +kernel
theorem dL_two_71 : decode cL_two 71 = .ok (.invokestatic 189, 3) := by decide +kernel
theorem dL_two_74 : decode cL_two 74 = .ok (.sipush 256, 3) := by decide +kernel
theorem dL_two_77 : decode cL_two 77 = .ok (.invokestatic 193, 3) := by decide +kernel
theorem dL_two_80 : decode cL_two 80 = .ok (.istore 6, 2) := by decide +kernel
theorem dL_two_82 : decode cL_two 82 = .ok (.aload_n 0, 1) := by decide +kernel
theorem dL_two_83 : decode cL_two 83 = .ok (.bipush 11, 2) := by decide +kernel
theorem dL_two_85 : decode cL_two 85 = .ok (.invokestatic 189, 3) := by decide +kernel
theorem dL_two_88 : decode cL_two 88 = .ok (.iconst 4, 1) := by decide +kernel
theorem dL_two_89 : decode cL_two 89 = .ok (.invokestatic 193, 3) := by decide +kernel
theorem dL_two_92 : decode cL_two 92 = .ok (.ifCond .le 7, 3) := by decide +kernel
theorem dL_two_95 : decode cL_two 95 = .ok (.iconst 1, 1) := by decide +kernel
theorem dL_two_96 : decode cL_two 96 = .ok (.goto 4, 3) := by decide +kernel
theorem dL_two_99 : decode cL_two 99 = .ok (.iconst 0, 1) := by decide +kernel
theorem dL_two_100 : decode cL_two 100 = .ok (.istore 7, 2) := by decide +kernel
theorem dL_two_102 : decode cL_two 102 = .ok (.aload_n 0, 1) := by decide +kernel
theorem dL_two_103 : decode cL_two 103 = .ok (.bipush 12, 2) := by decide +kernel
theorem dL_two_105 : decode cL_two 105 = .ok (.invokestatic 189, 3) := by decide +kernel
theorem dL_two_108 : decode cL_two 108 = .ok (.iconst 4, 1) := by decide +kernel
theorem dL_two_109 : decode cL_two 109 = .ok (.invokestatic 193, 3) := by decide +kernel
theorem dL_two_112 : decode cL_two 112 = .ok (.ifCond .le 7, 3) := by decide +kernel
theorem dL_two_115 : decode cL_two 115 = .ok (.iconst 1, 1) := by decide +kernel
theorem dL_two_116 : decode cL_two 116 = .ok (.goto 4, 3) := by decide +kernel
theorem dL_two_119 : decode cL_two 119 = .ok (.iconst 0, 1) := by decide +kernel
theorem dL_two_120 : decode cL_two 120 = .ok (.istore 8, 2) := by decide +kernel
theorem dL_two_122 : decode cL_two 122 = .ok (.aload_n 0, 1) := by decide +kernel
theorem dL_two_123 : decode cL_two 123 = .ok (.bipush 13, 2) := by decide +kernel
theorem dL_two_125 : decode cL_two 125 = .ok (.invokestatic 189, 3) := by decide +kernel
theorem dL_two_128 : decode cL_two 128 = .ok (.iconst 4, 1) := by decide +kernel
theorem dL_two_129 : decode cL_two 129 = .ok (.invokestatic 193, 3) := by decide +kernel
theorem dL_two_132 : decode cL_two 132 = .ok (.istore 9, 2) := by decide +kernel
theorem dL_two_134 : decode cL_two 134 = .ok (.iload 9, 2) := by decide +kernel
theorem dL_two_136 : decode cL_two 136 = .ok (.iconst 1, 1) := by decide +kernel
theorem dL_two_137 : decode cL_two 137 = .ok (.iadd, 1) := by decide +kernel
theorem dL_two_138 : decode cL_two 138 = .ok (.aload_n 0, 1) := by decide +kernel
theorem dL_two_139 : decode cL_two 139 = .ok (.bipush 14, 2) := by decide +kernel
theorem dL_two_141 : decode cL_two 141 = .ok (.invokestatic 189, 3) := by decide +kernel
theorem dL_two_144 : decode cL_two 144 = .ok (.iconst 3, 1) := by decide +kernel
theorem dL_two_145 : decode cL_two 145 = .ok (.invokestatic 193, 3) := by decide +kernel
theorem dL_two_148 : decode cL_two 148 = .ok (.iadd, 1) := by decide +kernel
theorem dL_two_149 : decode cL_two 149 = .ok (.iconst 4, 1) := by decide +kernel
theorem dL_two_150 : decode cL_two 150 = .ok (.irem, 1) := by decide +kernel
theorem dL_two_151 : decode cL_two 151 = .ok (.istore 10, 2) := by decide +kernel
theorem dL_two_153 : decode cL_two 153 = .ok (.aload_n 1, 1) := by decide +kernel
theorem dL_two_154 : decode cL_two 154 = .ok (.bipush 73, 2) := by decide +kernel
theorem dL_two_156 : decode cL_two 156 = .ok (.iconst 2, 1) := by decide +kernel
theorem dL_two_157 : decode cL_two 157 = .ok (.newarray .int, 2) := by decide +kernel
theorem dL_two_159 : decode cL_two 159 = .ok (.dup, 1) := by decide +kernel
theorem dL_two_160 : decode cL_two 160 = .ok (.iconst 0, 1) := by decide +kernel
theorem dL_two_161 : decode cL_two 161 = .ok (.iload 9, 2) := by decide +kernel
theorem dL_two_163 : decode cL_two 163 = .ok (.iastore, 1) := by decide +kernel
theorem dL_two_164 : decode cL_two 164 = .ok (.dup, 1) := by decide +kernel
theorem dL_two_165 : decode cL_two 165 = .ok (.iconst 1, 1) := by decide +kernel
theorem dL_two_166 : decode cL_two 166 = .ok (.iconst 1, 1) := by decide +kernel
theorem dL_two_167 : decode cL_two 167 = .ok (.iastore, 1) := by decide +kernel
theorem dL_two_168 : decode cL_two 168 = .ok (.invokestatic 174, 3) := by decide +kernel
theorem dL_two_171 : decode cL_two 171 = .ok (.ifCond .ne 128, 3) := by decide +kernel
theorem dL_two_174 : decode cL_two 174 = .ok (.aload_n 1, 1) := by decide +kernel
theorem dL_two_175 : decode cL_two 175 = .ok (.bipush 73, 2) := by decide +kernel
theorem dL_two_177 : decode cL_two 177 = .ok (.iconst 2, 1) := by decide +kernel
theorem dL_two_178 : decode cL_two 178 = .ok (.newarray .int, 2) := by decide +kernel
theorem dL_two_180 : decode cL_two 180 = .ok (.dup, 1) := by decide +kernel
theorem dL_two_181 : decode cL_two 181 = .ok (.iconst 0, 1) := by decide +kernel
theorem dL_two_182 : decode cL_two 182 = .ok (.iload 10, 2) := by decide +kernel
theorem dL_two_184 : decode cL_two 184 = .ok (.iastore, 1) := by decide +kernel
theorem dL_two_185 : decode cL_two 185 = .ok (.dup, 1) := by decide +kernel
theorem dL_two_186 : decode cL_two 186 = .ok (.iconst 1, 1) := by decide +kernel
theorem dL_two_187 : decode cL_two 187 = .ok (.iconst 1, 1) := by decide +kernel
theorem dL_two_188 : decode cL_two 188 = .ok (.iastore, 1) := by decide +kernel
theorem dL_two_189 : decode cL_two 189 = .ok (.invokestatic 174, 3) := by decide +kernel
theorem dL_two_192 : decode cL_two 192 = .ok (.ifCond .ne 107, 3) := by decide +kernel
theorem dL_two_195 : decode cL_two 195 = .ok (.aload_n 1, 1) := by decide +kernel
theorem dL_two_196 : decode cL_two 196 = .ok (.iload 7, 2) := by decide +kernel
theorem dL_two_198 : decode cL_two 198 = .ok (.iload 8, 2) := by decide +kernel
theorem dL_two_200 : decode cL_two 200 = .ok (.invokevirtual 160, 3) := by decide +kernel
theorem dL_two_203 : decode cL_two 203 = .ok (.ifCond .eq 96, 3) := by decide +kernel
theorem dL_two_206 : decode cL_two 206 = .ok (.aload_n 1, 1) := by decide +kernel
theorem dL_two_207 : decode cL_two 207 = .ok (.bipush 116, 2) := by decide +kernel
theorem dL_two_209 : decode cL_two 209 = .ok (.bipush 8, 2) := by decide +kernel
theorem dL_two_211 : decode cL_two 211 = .ok (.newarray .int, 2) := by decide +kernel
theorem dL_two_213 : decode cL_two 213 = .ok (.dup, 1) := by decide +kernel
theorem dL_two_214 : decode cL_two 214 = .ok (.iconst 0, 1) := by decide +kernel
theorem dL_two_215 : decode cL_two 215 = .ok (.iload 9, 2) := by decide +kernel
theorem dL_two_217 : decode cL_two 217 = .ok (.iastore, 1) := by decide +kernel
theorem dL_two_218 : decode cL_two 218 = .ok (.dup, 1) := by decide +kernel
theorem dL_two_219 : decode cL_two 219 = .ok (.iconst 1, 1) := by decide +kernel
theorem dL_two_220 : decode cL_two 220 = .ok (.iload 10, 2) := by decide +kernel
theorem dL_two_222 : decode cL_two 222 = .ok (.iastore, 1) := by decide +kernel
theorem dL_two_223 : decode cL_two 223 = .ok (.dup, 1) := by decide +kernel
theorem dL_two_224 : decode cL_two 224 = .ok (.iconst 2, 1) := by decide +kernel
theorem dL_two_225 : decode cL_two 225 = .ok (.iload_n 3, 1) := by decide +kernel
theorem dL_two_226 : decode cL_two 226 = .ok (.iastore, 1) := by decide +kernel
theorem dL_two_227 : decode cL_two 227 = .ok (.dup, 1) := by decide +kernel
theorem dL_two_228 : decode cL_two 228 = .ok (.iconst 3, 1) := by decide +kernel
theorem dL_two_229 : decode cL_two 229 = .ok (.iload 4, 2) := by decide +kernel
theorem dL_two_231 : decode cL_two 231 = .ok (.ifCond .eq 7, 3) := by decide +kernel
theorem dL_two_234 : decode cL_two 234 = .ok (.iconst 1, 1) := by decide +kernel
theorem dL_two_235 : decode cL_two 235 = .ok (.goto 4, 3) := by decide +kernel
theorem dL_two_238 : decode cL_two 238 = .ok (.iconst 0, 1) := by decide +kernel
theorem dL_two_239 : decode cL_two 239 = .ok (.iastore, 1) := by decide +kernel
theorem dL_two_240 : decode cL_two 240 = .ok (.dup, 1) := by decide +kernel
theorem dL_two_241 : decode cL_two 241 = .ok (.iconst 4, 1) := by decide +kernel
theorem dL_two_242 : decode cL_two 242 = .ok (.iload 5, 2) := by decide +kernel
theorem dL_two_244 : decode cL_two 244 = .ok (.iastore, 1) := by decide +kernel
theorem dL_two_245 : decode cL_two 245 = .ok (.dup, 1) := by decide +kernel
theorem dL_two_246 : decode cL_two 246 = .ok (.iconst 5, 1) := by decide +kernel
theorem dL_two_247 : decode cL_two 247 = .ok (.iload 6, 2) := by decide +kernel
theorem dL_two_249 : decode cL_two 249 = .ok (.iastore, 1) := by decide +kernel
theorem dL_two_250 : decode cL_two 250 = .ok (.dup, 1) := by decide +kernel
theorem dL_two_251 : decode cL_two 251 = .ok (.bipush 6, 2) := by decide +kernel
theorem dL_two_253 : decode cL_two 253 = .ok (.iload_n 2, 1) := by decide +kernel
theorem dL_two_254 : decode cL_two 254 = .ok (.iastore, 1) := by decide +kernel
theorem dL_two_255 : decode cL_two 255 = .ok (.dup, 1) := by decide +kernel
theorem dL_two_256 : decode cL_two 256 = .ok (.bipush 7, 2) := by decide +kernel
theorem dL_two_258 : decode cL_two 258 = .ok (.iload_n 2, 1) := by decide +kernel
theorem dL_two_259 : decode cL_two 259 = .ok (.iastore, 1) := by decide +kernel
theorem dL_two_260 : decode cL_two 260 = .ok (.invokestatic 174, 3) := by decide +kernel
theorem dL_two_263 : decode cL_two 263 = .ok (.bipush 58, 2) := by decide +kernel
theorem dL_two_265 : decode cL_two 265 = .ok (.iload_n 2, 1) := by decide +kernel
theorem dL_two_266 : decode cL_two 266 = .ok (.imul, 1) := by decide +kernel
theorem dL_two_267 : decode cL_two 267 = .ok (.if_icmp .ne 32, 3) := by decide +kernel
theorem dL_two_270 : decode cL_two 270 = .ok (.aload_n 1, 1) := by decide +kernel
theorem dL_two_271 : decode cL_two 271 = .ok (.bipush 67, 2) := by decide +kernel
theorem dL_two_273 : decode cL_two 273 = .ok (.iconst 4, 1) := by decide +kernel
theorem dL_two_274 : decode cL_two 274 = .ok (.newarray .int, 2) := by decide +kernel
theorem dL_two_276 : decode cL_two 276 = .ok (.dup, 1) := by decide +kernel
theorem dL_two_277 : decode cL_two 277 = .ok (.iconst 0, 1) := by decide +kernel
theorem dL_two_278 : decode cL_two 278 = .ok (.iconst 0, 1) := by decide +kernel
theorem dL_two_279 : decode cL_two 279 = .ok (.iastore, 1) := by decide +kernel
theorem dL_two_280 : decode cL_two 280 = .ok (.dup, 1) := by decide +kernel
theorem dL_two_281 : decode cL_two 281 = .ok (.iconst 1, 1) := by decide +kernel
theorem dL_two_282 : decode cL_two 282 = .ok (.iconst 0, 1) := by decide +kernel
theorem dL_two_283 : decode cL_two 283 = .ok (.iastore, 1) := by decide +kernel
theorem dL_two_284 : decode cL_two 284 = .ok (.dup, 1) := by decide +kernel
theorem dL_two_285 : decode cL_two 285 = .ok (.iconst 2, 1) := by decide +kernel
theorem dL_two_286 : decode cL_two 286 = .ok (.iload_n 2, 1) := by decide +kernel
theorem dL_two_287 : decode cL_two 287 = .ok (.iastore, 1) := by decide +kernel
theorem dL_two_288 : decode cL_two 288 = .ok (.dup, 1) := by decide +kernel
theorem dL_two_289 : decode cL_two 289 = .ok (.iconst 3, 1) := by decide +kernel
theorem dL_two_290 : decode cL_two 290 = .ok (.bipush 60, 2) := by decide +kernel
theorem dL_two_292 : decode cL_two 292 = .ok (.iastore, 1) := by decide +kernel
theorem dL_two_293 : decode cL_two 293 = .ok (.invokestatic 174, 3) := by decide +kernel
theorem dL_two_296 : decode cL_two 296 = .ok (.ifCond .ge 5, 3) := by decide +kernel
theorem dL_two_299 : decode cL_two 299 = .ok (.iconst 0, 1) := by decide +kernel
theorem dL_two_300 : decode cL_two 300 = .ok (.ireturn, 1) := by decide +kernel
theorem dL_two_301 : decode cL_two 301 = .ok (.aload_n 1, 1) := by decide +kernel
theorem dL_two_302 : decode cL_two 302 = .ok (.bipush 50, 2) := by decide +kernel
theorem dL_two_304 : decode cL_two 304 = .ok (.iconst 3, 1) := by decide +kernel
theorem dL_two_305 : decode cL_two 305 = .ok (.newarray .int, 2) := by decide +kernel
theorem dL_two_307 : decode cL_two 307 = .ok (.dup, 1) := by decide +kernel
theorem dL_two_308 : decode cL_two 308 = .ok (.iconst 0, 1) := by decide +kernel
theorem dL_two_309 : decode cL_two 309 = .ok (.iconst 0, 1) := by decide +kernel
theorem dL_two_310 : decode cL_two 310 = .ok (.iastore, 1) := by decide +kernel
theorem dL_two_311 : decode cL_two 311 = .ok (.dup, 1) := by decide +kernel
theorem dL_two_312 : decode cL_two 312 = .ok (.iconst 1, 1) := by decide +kernel
theorem dL_two_313 : decode cL_two 313 = .ok (.iload 9, 2) := by decide +kernel
theorem dL_two_315 : decode cL_two 315 = .ok (.iastore, 1) := by decide +kernel
theorem dL_two_316 : decode cL_two 316 = .ok (.dup, 1) := by decide +kernel
theorem dL_two_317 : decode cL_two 317 = .ok (.iconst 2, 1) := by decide +kernel
theorem dL_two_318 : decode cL_two 318 = .ok (.iload 10, 2) := by decide +kernel
theorem dL_two_320 : decode cL_two 320 = .ok (.iastore, 1) := by decide +kernel
theorem dL_two_321 : decode cL_two 321 = .ok (.invokestatic 174, 3) := by decide +kernel
theorem dL_two_324 : decode cL_two 324 = .ok (.iconst 5, 1) := by decide +kernel
theorem dL_two_325 : decode cL_two 325 = .ok (.if_icmp .ne 93, 3) := by decide +kernel
theorem dL_two_328 : decode cL_two 328 = .ok (.aload_n 1, 1) := by decide +kernel
theorem dL_two_329 : decode cL_two 329 = .ok (.bipush 107, 2) := by decide +kernel
theorem dL_two_331 : decode cL_two 331 = .ok (.iconst 1, 1) := by decide +kernel
theorem dL_two_332 : decode cL_two 332 = .ok (.newarray .int, 2) := by decide +kernel
theorem dL_two_334 : decode cL_two 334 = .ok (.dup, 1) := by decide +kernel
theorem dL_two_335 : decode cL_two 335 = .ok (.iconst 0, 1) := by decide +kernel
theorem dL_two_336 : decode cL_two 336 = .ok (.iconst 0, 1) := by decide +kernel
theorem dL_two_337 : decode cL_two 337 = .ok (.iastore, 1) := by decide +kernel
theorem dL_two_338 : decode cL_two 338 = .ok (.invokestatic 174, 3) := by decide +kernel
theorem dL_two_341 : decode cL_two 341 = .ok (.bipush 83, 2) := by decide +kernel
theorem dL_two_343 : decode cL_two 343 = .ok (.if_icmp .ne 75, 3) := by decide +kernel
theorem dL_two_346 : decode cL_two 346 = .ok (.aload_n 1, 1) := by decide +kernel
theorem dL_two_347 : decode cL_two 347 = .ok (.bipush 107, 2) := by decide +kernel
theorem dL_two_349 : decode cL_two 349 = .ok (.iconst 1, 1) := by decide +kernel
theorem dL_two_350 : decode cL_two 350 = .ok (.newarray .int, 2) := by decide +kernel
theorem dL_two_352 : decode cL_two 352 = .ok (.dup, 1) := by decide +kernel
theorem dL_two_353 : decode cL_two 353 = .ok (.iconst 0, 1) := by decide +kernel
theorem dL_two_354 : decode cL_two 354 = .ok (.iconst 1, 1) := by decide +kernel
theorem dL_two_355 : decode cL_two 355 = .ok (.iastore, 1) := by decide +kernel
theorem dL_two_356 : decode cL_two 356 = .ok (.invokestatic 174, 3) := by decide +kernel
theorem dL_two_359 : decode cL_two 359 = .ok (.bipush 65, 2) := by decide +kernel
theorem dL_two_361 : decode cL_two 361 = .ok (.if_icmp .ne 57, 3) := by decide +kernel
theorem dL_two_364 : decode cL_two 364 = .ok (.aload_n 1, 1) := by decide +kernel
theorem dL_two_365 : decode cL_two 365 = .ok (.bipush 107, 2) := by decide +kernel
theorem dL_two_367 : decode cL_two 367 = .ok (.iconst 1, 1) := by decide +kernel
theorem dL_two_368 : decode cL_two 368 = .ok (.newarray .int, 2) := by decide +kernel
theorem dL_two_370 : decode cL_two 370 = .ok (.dup, 1) := by decide +kernel
theorem dL_two_371 : decode cL_two 371 = .ok (.iconst 0, 1) := by decide +kernel
theorem dL_two_372 : decode cL_two 372 = .ok (.iconst 2, 1) := by decide +kernel
theorem dL_two_373 : decode cL_two 373 = .ok (.iastore, 1) := by decide +kernel
theorem dL_two_374 : decode cL_two 374 = .ok (.invokestatic 174, 3) := by decide +kernel
theorem dL_two_377 : decode cL_two 377 = .ok (.bipush 68, 2) := by decide +kernel
theorem dL_two_379 : decode cL_two 379 = .ok (.if_icmp .ne 39, 3) := by decide +kernel
theorem dL_two_382 : decode cL_two 382 = .ok (.aload_n 1, 1) := by decide +kernel
theorem dL_two_383 : decode cL_two 383 = .ok (.bipush 107, 2) := by decide +kernel
theorem dL_two_385 : decode cL_two 385 = .ok (.iconst 1, 1) := by decide +kernel
theorem dL_two_386 : decode cL_two 386 = .ok (.newarray .int, 2) := by decide +kernel
theorem dL_two_388 : decode cL_two 388 = .ok (.dup, 1) := by decide +kernel
theorem dL_two_389 : decode cL_two 389 = .ok (.iconst 0, 1) := by decide +kernel
theorem dL_two_390 : decode cL_two 390 = .ok (.iconst 3, 1) := by decide +kernel
theorem dL_two_391 : decode cL_two 391 = .ok (.iastore, 1) := by decide +kernel
theorem dL_two_392 : decode cL_two 392 = .ok (.invokestatic 174, 3) := by decide +kernel
theorem dL_two_395 : decode cL_two 395 = .ok (.bipush 68, 2) := by decide +kernel
theorem dL_two_397 : decode cL_two 397 = .ok (.if_icmp .ne 21, 3) := by decide +kernel
theorem dL_two_400 : decode cL_two 400 = .ok (.aload_n 1, 1) := by decide +kernel
theorem dL_two_401 : decode cL_two 401 = .ok (.bipush 107, 2) := by decide +kernel
theorem dL_two_403 : decode cL_two 403 = .ok (.iconst 1, 1) := by decide +kernel
theorem dL_two_404 : decode cL_two 404 = .ok (.newarray .int, 2) := by decide +kernel
theorem dL_two_406 : decode cL_two 406 = .ok (.dup, 1) := by decide +kernel
theorem dL_two_407 : decode cL_two 407 = .ok (.iconst 0, 1) := by decide +kernel
theorem dL_two_408 : decode cL_two 408 = .ok (.iconst 4, 1) := by decide +kernel
theorem dL_two_409 : decode cL_two 409 = .ok (.iastore, 1) := by decide +kernel
theorem dL_two_410 : decode cL_two 410 = .ok (.invokestatic 174, 3) := by decide +kernel
theorem dL_two_413 : decode cL_two 413 = .ok (.bipush 69, 2) := by decide +kernel
theorem dL_two_415 : decode cL_two 415 = .ok (.if_icmp .eq 5, 3) := by decide +kernel
theorem dL_two_418 : decode cL_two 418 = .ok (.iconst 0, 1) := by decide +kernel
theorem dL_two_419 : decode cL_two 419 = .ok (.ireturn, 1) := by decide +kernel
theorem dL_two_420 : decode cL_two 420 = .ok (.aload_n 1, 1) := by decide +kernel
theorem dL_two_421 : decode cL_two 421 = .ok (.bipush 118, 2) := by decide +kernel
theorem dL_two_423 : decode cL_two 423 = .ok (.iconst 1, 1) := by decide +kernel
theorem dL_two_424 : decode cL_two 424 = .ok (.newarray .int, 2) := by decide +kernel
theorem dL_two_426 : decode cL_two 426 = .ok (.dup, 1) := by decide +kernel
theorem dL_two_427 : decode cL_two 427 = .ok (.iconst 0, 1) := by decide +kernel
theorem dL_two_428 : decode cL_two 428 = .ok (.iconst 1, 1) := by decide +kernel
theorem dL_two_429 : decode cL_two 429 = .ok (.iastore, 1) := by decide +kernel
theorem dL_two_430 : decode cL_two 430 = .ok (.invokestatic 174, 3) := by decide +kernel
theorem dL_two_433 : decode cL_two 433 = .ok (.iconst 2, 1) := by decide +kernel
theorem dL_two_434 : decode cL_two 434 = .ok (.iload_n 3, 1) := by decide +kernel
theorem dL_two_435 : decode cL_two 435 = .ok (.imul, 1) := by decide +kernel
theorem dL_two_436 : decode cL_two 436 = .ok (.iload 4, 2) := by decide +kernel
theorem dL_two_438 : decode cL_two 438 = .ok (.ifCond .eq 7, 3) := by decide +kernel
theorem dL_two_441 : decode cL_two 441 = .ok (.iconst 1, 1) := by decide +kernel
theorem dL_two_442 : decode cL_two 442 = .ok (.goto 4, 3) := by decide +kernel
theorem dL_two_445 : decode cL_two 445 = .ok (.iconst 0, 1) := by decide +kernel
theorem dL_two_446 : decode cL_two 446 = .ok (.iadd, 1) := by decide +kernel
theorem dL_two_447 : decode cL_two 447 = .ok (.if_icmp .ne 123, 3) := by decide +kernel
theorem dL_two_450 : decode cL_two 450 = .ok (.aload_n 1, 1) := by decide +kernel
theorem dL_two_451 : decode cL_two 451 = .ok (.bipush 118, 2) := by decide +kernel
theorem dL_two_453 : decode cL_two 453 = .ok (.iconst 1, 1) := by decide +kernel
theorem dL_two_454 : decode cL_two 454 = .ok (.newarray .int, 2) := by decide +kernel
theorem dL_two_456 : decode cL_two 456 = .ok (.dup, 1) := by decide +kernel
theorem dL_two_457 : decode cL_two 457 = .ok (.iconst 0, 1) := by decide +kernel
theorem dL_two_458 : decode cL_two 458 = .ok (.iconst 2, 1) := by decide +kernel
theorem dL_two_459 : decode cL_two 459 = .ok (.iastore, 1) := by decide +kernel
theorem dL_two_460 : decode cL_two 460 = .ok (.invokestatic 174, 3) := by decide +kernel
theorem dL_two_463 : decode cL_two 463 = .ok (.iload 5, 2) := by decide +kernel
theorem dL_two_465 : decode cL_two 465 = .ok (.if_icmp .ne 105, 3) := by decide +kernel
theorem dL_two_468 : decode cL_two 468 = .ok (.aload_n 1, 1) := by decide +kernel
theorem dL_two_469 : decode cL_two 469 = .ok (.bipush 118, 2) := by decide +kernel
theorem dL_two_471 : decode cL_two 471 = .ok (.iconst 1, 1) := by decide +kernel
theorem dL_two_472 : decode cL_two 472 = .ok (.newarray .int, 2) := by decide +kernel
theorem dL_two_474 : decode cL_two 474 = .ok (.dup, 1) := by decide +kernel
theorem dL_two_475 : decode cL_two 475 = .ok (.iconst 0, 1) := by decide +kernel
theorem dL_two_476 : decode cL_two 476 = .ok (.iconst 3, 1) := by decide +kernel
theorem dL_two_477 : decode cL_two 477 = .ok (.iastore, 1) := by decide +kernel
theorem dL_two_478 : decode cL_two 478 = .ok (.invokestatic 174, 3) := by decide +kernel
theorem dL_two_481 : decode cL_two 481 = .ok (.iload 6, 2) := by decide +kernel
theorem dL_two_483 : decode cL_two 483 = .ok (.if_icmp .ne 87, 3) := by decide +kernel
theorem dL_two_486 : decode cL_two 486 = .ok (.aload_n 1, 1) := by decide +kernel
theorem dL_two_487 : decode cL_two 487 = .ok (.bipush 120, 2) := by decide +kernel
theorem dL_two_489 : decode cL_two 489 = .ok (.iconst 1, 1) := by decide +kernel
theorem dL_two_490 : decode cL_two 490 = .ok (.newarray .int, 2) := by decide +kernel
theorem dL_two_492 : decode cL_two 492 = .ok (.dup, 1) := by decide +kernel
theorem dL_two_493 : decode cL_two 493 = .ok (.iconst 0, 1) := by decide +kernel
theorem dL_two_494 : decode cL_two 494 = .ok (.iconst 1, 1) := by decide +kernel
theorem dL_two_495 : decode cL_two 495 = .ok (.iastore, 1) := by decide +kernel
theorem dL_two_496 : decode cL_two 496 = .ok (.invokestatic 174, 3) := by decide +kernel
theorem dL_two_499 : decode cL_two 499 = .ok (.iload 7, 2) := by decide +kernel
theorem dL_two_501 : decode cL_two 501 = .ok (.ifCond .eq 8, 3) := by decide +kernel
theorem dL_two_504 : decode cL_two 504 = .ok (.bipush 45, 2) := by decide +kernel
theorem dL_two_506 : decode cL_two 506 = .ok (.goto 5, 3) := by decide +kernel
theorem dL_two_509 : decode cL_two 509 = .ok (.bipush 110, 2) := by decide +kernel
theorem dL_two_511 : decode cL_two 511 = .ok (.if_icmp .ne 59, 3) := by decide +kernel
theorem dL_two_514 : decode cL_two 514 = .ok (.aload_n 1, 1) := by decide +kernel
theorem dL_two_515 : decode cL_two 515 = .ok (.bipush 120, 2) := by decide +kernel
theorem dL_two_517 : decode cL_two 517 = .ok (.iconst 1, 1) := by decide +kernel
theorem dL_two_518 : decode cL_two 518 = .ok (.newarray .int, 2) := by decide +kernel
theorem dL_two_520 : decode cL_two 520 = .ok (.dup, 1) := by decide +kernel
theorem dL_two_521 : decode cL_two 521 = .ok (.iconst 0, 1) := by decide +kernel
theorem dL_two_522 : decode cL_two 522 = .ok (.iconst 2, 1) := by decide +kernel
theorem dL_two_523 : decode cL_two 523 = .ok (.iastore, 1) := by decide +kernel
theorem dL_two_524 : decode cL_two 524 = .ok (.invokestatic 174, 3) := by decide +kernel
theorem dL_two_527 : decode cL_two 527 = .ok (.iload 8, 2) := by decide +kernel
theorem dL_two_529 : decode cL_two 529 = .ok (.ifCond .eq 8, 3) := by decide +kernel
theorem dL_two_532 : decode cL_two 532 = .ok (.bipush 45, 2) := by decide +kernel
theorem dL_two_534 : decode cL_two 534 = .ok (.goto 5, 3) := by decide +kernel
theorem dL_two_537 : decode cL_two 537 = .ok (.bipush 110, 2) := by decide +kernel
theorem dL_two_539 : decode cL_two 539 = .ok (.if_icmp .ne 31, 3) := by decide +kernel
theorem dL_two_542 : decode cL_two 542 = .ok (.aload_n 1, 1) := by decide +kernel
theorem dL_two_543 : decode cL_two 543 = .ok (.bipush 120, 2) := by decide +kernel
theorem dL_two_545 : decode cL_two 545 = .ok (.iconst 1, 1) := by decide +kernel
theorem dL_two_546 : decode cL_two 546 = .ok (.newarray .int, 2) := by decide +kernel
theorem dL_two_548 : decode cL_two 548 = .ok (.dup, 1) := by decide +kernel
theorem dL_two_549 : decode cL_two 549 = .ok (.iconst 0, 1) := by decide +kernel
theorem dL_two_550 : decode cL_two 550 = .ok (.iconst 3, 1) := by decide +kernel
theorem dL_two_551 : decode cL_two 551 = .ok (.iastore, 1) := by decide +kernel
theorem dL_two_552 : decode cL_two 552 = .ok (.invokestatic 174, 3) := by decide +kernel
theorem dL_two_555 : decode cL_two 555 = .ok (.iload 8, 2) := by decide +kernel
theorem dL_two_557 : decode cL_two 557 = .ok (.ifCond .eq 8, 3) := by decide +kernel
theorem dL_two_560 : decode cL_two 560 = .ok (.bipush 45, 2) := by decide +kernel
theorem dL_two_562 : decode cL_two 562 = .ok (.goto 5, 3) := by decide +kernel
theorem dL_two_565 : decode cL_two 565 = .ok (.bipush 110, 2) := by decide +kernel
theorem dL_two_567 : decode cL_two 567 = .ok (.if_icmp .eq 5, 3) := by decide +kernel
theorem dL_two_570 : decode cL_two 570 = .ok (.iconst 0, 1) := by decide +kernel
theorem dL_two_571 : decode cL_two 571 = .ok (.ireturn, 1) := by decide +kernel
theorem dL_two_572 : decode cL_two 572 = .ok (.iload 4, 2) := by decide +kernel
theorem dL_two_574 : decode cL_two 574 = .ok (.ifCond .ne 17, 3) := by decide +kernel
theorem dL_two_577 : decode cL_two 577 = .ok (.iload 7, 2) := by decide +kernel
theorem dL_two_579 : decode cL_two 579 = .ok (.ifCond .eq 12, 3) := by decide +kernel
theorem dL_two_582 : decode cL_two 582 = .ok (.iload 8, 2) := by decide +kernel
theorem dL_two_584 : decode cL_two 584 = .ok (.ifCond .eq 7, 3) := by decide +kernel
theorem dL_two_587 : decode cL_two 587 = .ok (.iconst 1, 1) := by decide +kernel
theorem dL_two_588 : decode cL_two 588 = .ok (.goto 4, 3) := by decide +kernel
theorem dL_two_591 : decode cL_two 591 = .ok (.iconst 0, 1) := by decide +kernel
theorem dL_two_592 : decode cL_two 592 = .ok (.istore 11, 2) := by decide +kernel
theorem dL_two_594 : decode cL_two 594 = .ok (.aload_n 1, 1) := by decide +kernel
theorem dL_two_595 : decode cL_two 595 = .ok (.bipush 122, 2) := by decide +kernel
theorem dL_two_597 : decode cL_two 597 = .ok (.iconst 2, 1) := by decide +kernel
theorem dL_two_598 : decode cL_two 598 = .ok (.newarray .int, 2) := by decide +kernel
theorem dL_two_600 : decode cL_two 600 = .ok (.dup, 1) := by decide +kernel
theorem dL_two_601 : decode cL_two 601 = .ok (.iconst 0, 1) := by decide +kernel
theorem dL_two_602 : decode cL_two 602 = .ok (.iload_n 3, 1) := by decide +kernel
theorem dL_two_603 : decode cL_two 603 = .ok (.iastore, 1) := by decide +kernel
theorem dL_two_604 : decode cL_two 604 = .ok (.dup, 1) := by decide +kernel
theorem dL_two_605 : decode cL_two 605 = .ok (.iconst 1, 1) := by decide +kernel
theorem dL_two_606 : decode cL_two 606 = .ok (.iload 5, 2) := by decide +kernel
theorem dL_two_608 : decode cL_two 608 = .ok (.iastore, 1) := by decide +kernel
theorem dL_two_609 : decode cL_two 609 = .ok (.invokestatic 174, 3) := by decide +kernel
theorem dL_two_612 : decode cL_two 612 = .ok (.iload 11, 2) := by decide +kernel
theorem dL_two_614 : decode cL_two 614 = .ok (.ifCond .eq 8, 3) := by decide +kernel
theorem dL_two_617 : decode cL_two 617 = .ok (.iload 6, 2) := by decide +kernel
theorem dL_two_619 : decode cL_two 619 = .ok (.goto 4, 3) := by decide +kernel
theorem dL_two_622 : decode cL_two 622 = .ok (.iconst 0, 1) := by decide +kernel
theorem dL_two_623 : decode cL_two 623 = .ok (.if_icmp .ne 49, 3) := by decide +kernel
theorem dL_two_626 : decode cL_two 626 = .ok (.aload_n 1, 1) := by decide +kernel
theorem dL_two_627 : decode cL_two 627 = .ok (.bipush 98, 2) := by decide +kernel
theorem dL_two_629 : decode cL_two 629 = .ok (.iconst 1, 1) := by decide +kernel
theorem dL_two_630 : decode cL_two 630 = .ok (.newarray .int, 2) := by decide +kernel
theorem dL_two_632 : decode cL_two 632 = .ok (.dup, 1) := by decide +kernel
theorem dL_two_633 : decode cL_two 633 = .ok (.iconst 0, 1) := by decide +kernel
theorem dL_two_634 : decode cL_two 634 = .ok (.iconst 0, 1) := by decide +kernel
theorem dL_two_635 : decode cL_two 635 = .ok (.iastore, 1) := by decide +kernel
theorem dL_two_636 : decode cL_two 636 = .ok (.invokestatic 174, 3) := by decide +kernel
theorem dL_two_639 : decode cL_two 639 = .ok (.iconst 1, 1) := by decide +kernel
theorem dL_two_640 : decode cL_two 640 = .ok (.if_icmp .ne 32, 3) := by decide +kernel
theorem dL_two_643 : decode cL_two 643 = .ok (.aload_n 1, 1) := by decide +kernel
theorem dL_two_644 : decode cL_two 644 = .ok (.bipush 101, 2) := by decide +kernel
theorem dL_two_646 : decode cL_two 646 = .ok (.iconst 1, 1) := by decide +kernel
theorem dL_two_647 : decode cL_two 647 = .ok (.newarray .int, 2) := by decide +kernel
theorem dL_two_649 : decode cL_two 649 = .ok (.dup, 1) := by decide +kernel
theorem dL_two_650 : decode cL_two 650 = .ok (.iconst 0, 1) := by decide +kernel
theorem dL_two_651 : decode cL_two 651 = .ok (.iconst 4, 1) := by decide +kernel
theorem dL_two_652 : decode cL_two 652 = .ok (.iastore, 1) := by decide +kernel
theorem dL_two_653 : decode cL_two 653 = .ok (.invokestatic 174, 3) := by decide +kernel
theorem dL_two_656 : decode cL_two 656 = .ok (.bipush 58, 2) := by decide +kernel
theorem dL_two_658 : decode cL_two 658 = .ok (.if_icmp .ne 14, 3) := by decide +kernel
theorem dL_two_661 : decode cL_two 661 = .ok (.aload_n 1, 1) := by decide +kernel
theorem dL_two_662 : decode cL_two 662 = .ok (.invokevirtual 170, 3) := by decide +kernel
theorem dL_two_665 : decode cL_two 665 = .ok (.ifCond .eq 7, 3) := by decide +kernel
theorem dL_two_668 : decode cL_two 668 = .ok (.iconst 1, 1) := by decide +kernel
theorem dL_two_669 : decode cL_two 669 = .ok (.goto 4, 3) := by decide +kernel
theorem dL_two_672 : decode cL_two 672 = .ok (.iconst 0, 1) := by decide +kernel
theorem dL_two_673 : decode cL_two 673 = .ok (.ireturn, 1) := by decide +kernel
theorem dL_four_0 : decode cL_four 0 = .ok (.new 8, 3) := by decide +kernel
theorem dL_four_3 : decode cL_four 3 = .ok (.dup, 1) := by decide +kernel
theorem dL_four_4 : decode cL_four 4 = .ok (.invokespecial 145, 3) := by decide +kernel
theorem dL_four_7 : decode cL_four 7 = .ok (.astore_n 1, 1) := by decide +kernel
theorem dL_four_8 : decode cL_four 8 = .ok (.iconst 1, 1) := by decide +kernel
theorem dL_four_9 : decode cL_four 9 = .ok (.aload_n 0, 1) := by decide +kernel
theorem dL_four_10 : decode cL_four 10 = .ok (.bipush 15, 2) := by decide +kernel
theorem dL_four_12 : decode cL_four 12 = .ok (.invokestatic 189, 3) := by decide +kernel
theorem dL_four_15 : decode cL_four 15 = .ok (.bipush 9, 2) := by decide +kernel
theorem dL_four_17 : decode cL_four 17 = .ok (.invokestatic 193, 3) := by decide +kernel
theorem dL_four_20 : decode cL_four 20 = .ok (.iadd, 1) := by decide +kernel
theorem dL_four_21 : decode cL_four 21 = .ok (.istore_n 2, 1) := by decide +kernel
theorem dL_four_22 : decode cL_four 22 = .ok (.aload_n 0, 1) := by decide +kernel
theorem dL_four_23 : decode cL_four 23 = .ok (.bipush 16, 2) := by decide +kernel
theorem dL_four_25 : decode cL_four 25 = .ok (.invokestatic 189, 3) := by decide +kernel
theorem dL_four_28 : decode cL_four 28 = .ok (.iconst 4, 1) := by decide +kernel
theorem dL_four_29 : decode cL_four 29 = .ok (.invokestatic 193, 3) := by decide +kernel
theorem dL_four_32 : decode cL_four 32 = .ok (.istore_n 3, 1) := by decide +kernel
theorem dL_four_33 : decode cL_four 33 = .ok (.aload_n 0, 1) := by decide +kernel
theorem dL_four_34 : decode cL_four 34 = .ok (.bipush 17, 2) := by decide +kernel
theorem dL_four_36 : decode cL_four 36 = .ok (.invokestatic 189, 3) := by decide +kernel
theorem dL_four_39 : decode cL_four 39 = .ok (.sipush 256, 3) := by decide +kernel
theorem dL_four_42 : decode cL_four 42 = .ok (.invokestatic 193, 3) := by decide +kernel
theorem dL_four_45 : decode cL_four 45 = .ok (.istore 4, 2) := by decide +kernel
theorem dL_four_47 : decode cL_four 47 = .ok (.aload_n 0, 1) := by decide +kernel
theorem dL_four_48 : decode cL_four 48 = .ok (.bipush 18, 2) := by decide +kernel
theorem dL_four_50 : decode cL_four 50 = .ok (.invokestatic 189, 3) := by decide +kernel
theorem dL_four_53 : decode cL_four 53 = .ok (.iconst 4, 1) := by decide +kernel
theorem dL_four_54 : decode cL_four 54 = .ok (.invokestatic 193, 3) := by decide +kernel
theorem dL_four_57 : decode cL_four 57 = .ok (.istore 5, 2) := by decide +kernel
theorem dL_four_59 : decode cL_four 59 = .ok (.iload 5, 2) := by decide +kernel
theorem dL_four_61 : decode cL_four 61 = .ok (.iconst 1, 1) := by decide +kernel
theorem dL_four_62 : decode cL_four 62 = .ok (.iadd, 1) := by decide +kernel
theorem dL_four_63 : decode cL_four 63 = .ok (.iconst 4, 1) := by decide +kernel
theorem dL_four_64 : decode cL_four 64 = .ok (.irem, 1) := by decide +kernel
theorem dL_four_65 : decode cL_four 65 = .ok (.istore 6, 2) := by decide +kernel
theorem dL_four_67 : decode cL_four 67 = .ok (.iload 5, 2) := by decide +kernel
theorem dL_four_69 : decode cL_four 69 = .ok (.iconst 2, 1) := by decide +kernel
theorem dL_four_70 : decode cL_four 70 = .ok (.iadd, 1) := by decide +kernel
theorem dL_four_71 : decode cL_four 71 = .ok (.iconst 4, 1) := by decide +kernel
theorem dL_four_72 : decode cL_four 72 = .ok (.irem, 1) := by decide +kernel
theorem dL_four_73 : decode cL_four 73 = .ok (.istore 7, 2) := by decide +kernel
theorem dL_four_75 : decode cL_four 75 = .ok (.aload_n 1, 1) := by decide +kernel
theorem dL_four_76 : decode cL_four 76 = .ok (.bipush 73, 2) := by decide +kernel
theorem dL_four_78 : decode cL_four 78 = .ok (.iconst 2, 1) := by decide +kernel
theorem dL_four_79 : decode cL_four 79 = .ok (.newarray .int, 2) := by decide +kernel
theorem dL_four_81 : decode cL_four 81 = .ok (.dup, 1) := by decide +kernel
theorem dL_four_82 : decode cL_four 82 = .ok (.iconst 0, 1) := by decide +kernel
theorem dL_four_83 : decode cL_four 83 = .ok (.iload 5, 2) := by decide +kernel
theorem dL_four_85 : decode cL_four 85 = .ok (.iastore, 1) := by decide +kernel
theorem dL_four_86 : decode cL_four 86 = .ok (.dup, 1) := by decide +kernel
theorem dL_four_87 : decode cL_four 87 = .ok (.iconst 1, 1) := by decide +kernel
theorem dL_four_88 : decode cL_four 88 = .ok (.iconst 1, 1) := by decide +kernel
theorem dL_four_89 : decode cL_four 89 = .ok (.iastore, 1) := by decide +kernel
theorem dL_four_90 : decode cL_four 90 = .ok (.invokestatic 174, 3) := by decide +kernel
theorem dL_four_93 : decode cL_four 93 = .ok (.ifCond .ne 112, 3) := by decide +kernel
theorem dL_four_96 : decode cL_four 96 = .ok (.aload_n 1, 1) := by decide +kernel
theorem dL_four_97 : decode cL_four 97 = .ok (.bipush 73, 2) := by decide +kernel
theorem dL_four_99 : decode cL_four 99 = .ok (.iconst 2, 1) := by decide +kernel
theorem dL_four_100 : decode cL_four 100 = .ok (.newarray .int, 2) := by decide +kernel
theorem dL_four_102 : decode cL_four 102 = .ok (.dup, 1) := by decide +kernel
theorem dL_four_103 : decode cL_four 103 = .ok (.iconst 0, 1) := by decide +kernel
theorem dL_four_104 : decode cL_four 104 = .ok (.iload 6, 2) := by decide +kernel
theorem dL_four_106 : decode cL_four 106 = .ok (.iastore, 1) := by decide +kernel
theorem dL_four_107 : decode cL_four 107 = .ok (.dup, 1) := by decide +kernel
theorem dL_four_108 : decode cL_four 108 = .ok (.iconst 1, 1) := by decide +kernel
theorem dL_four_109 : decode cL_four 109 = .ok (.iload_n 3, 1) := by decide +kernel
theorem dL_four_110 : decode cL_four 110 = .ok (.iconst 2, 1) := by decide +kernel
theorem dL_four_111 : decode cL_four 111 = .ok (.if_icmp .lt 7, 3) := by decide +kernel
theorem dL_four_114 : decode cL_four 114 = .ok (.iconst 1, 1) := by decide +kernel
theorem dL_four_115 : decode cL_four 115 = .ok (.goto 4, 3) := by decide +kernel
theorem dL_four_118 : decode cL_four 118 = .ok (.iconst 0, 1) := by decide +kernel
theorem dL_four_119 : decode cL_four 119 = .ok (.iastore, 1) := by decide +kernel
theorem dL_four_120 : decode cL_four 120 = .ok (.invokestatic 174, 3) := by decide +kernel
theorem dL_four_123 : decode cL_four 123 = .ok (.ifCond .ne 82, 3) := by decide +kernel
theorem dL_four_126 : decode cL_four 126 = .ok (.aload_n 1, 1) := by decide +kernel
theorem dL_four_127 : decode cL_four 127 = .ok (.bipush 102, 2) := by decide +kernel
theorem dL_four_129 : decode cL_four 129 = .ok (.bipush 7, 2) := by decide +kernel
theorem dL_four_131 : decode cL_four 131 = .ok (.newarray .int, 2) := by decide +kernel
theorem dL_four_133 : decode cL_four 133 = .ok (.dup, 1) := by decide +kernel
theorem dL_four_134 : decode cL_four 134 = .ok (.iconst 0, 1) := by decide +kernel
theorem dL_four_135 : decode cL_four 135 = .ok (.iload 6, 2) := by decide +kernel
theorem dL_four_137 : decode cL_four 137 = .ok (.iastore, 1) := by decide +kernel
theorem dL_four_138 : decode cL_four 138 = .ok (.dup, 1) := by decide +kernel
theorem dL_four_139 : decode cL_four 139 = .ok (.iconst 1, 1) := by decide +kernel
theorem dL_four_140 : decode cL_four 140 = .ok (.iload 7, 2) := by decide +kernel
theorem dL_four_142 : decode cL_four 142 = .ok (.iastore, 1) := by decide +kernel
theorem dL_four_143 : decode cL_four 143 = .ok (.dup, 1) := by decide +kernel
theorem dL_four_144 : decode cL_four 144 = .ok (.iconst 2, 1) := by decide +kernel
theorem dL_four_145 : decode cL_four 145 = .ok (.iload 5, 2) := by decide +kernel
theorem dL_four_147 : decode cL_four 147 = .ok (.iastore, 1) := by decide +kernel
theorem dL_four_148 : decode cL_four 148 = .ok (.dup, 1) := by decide +kernel
theorem dL_four_149 : decode cL_four 149 = .ok (.iconst 3, 1) := by decide +kernel
theorem dL_four_150 : decode cL_four 150 = .ok (.iload 4, 2) := by decide +kernel
theorem dL_four_152 : decode cL_four 152 = .ok (.iastore, 1) := by decide +kernel
theorem dL_four_153 : decode cL_four 153 = .ok (.dup, 1) := by decide +kernel
theorem dL_four_154 : decode cL_four 154 = .ok (.iconst 4, 1) := by decide +kernel
theorem dL_four_155 : decode cL_four 155 = .ok (.iload_n 2, 1) := by decide +kernel
theorem dL_four_156 : decode cL_four 156 = .ok (.iastore, 1) := by decide +kernel
theorem dL_four_157 : decode cL_four 157 = .ok (.dup, 1) := by decide +kernel
theorem dL_four_158 : decode cL_four 158 = .ok (.iconst 5, 1) := by decide +kernel
theorem dL_four_159 : decode cL_four 159 = .ok (.iload_n 2, 1) := by decide +kernel
theorem dL_four_160 : decode cL_four 160 = .ok (.iastore, 1) := by decide +kernel
theorem dL_four_161 : decode cL_four 161 = .ok (.dup, 1) := by decide +kernel
theorem dL_four_162 : decode cL_four 162 = .ok (.bipush 6, 2) := by decide +kernel
theorem dL_four_164 : decode cL_four 164 = .ok (.iload_n 3, 1) := by decide +kernel
theorem dL_four_165 : decode cL_four 165 = .ok (.iastore, 1) := by decide +kernel
theorem dL_four_166 : decode cL_four 166 = .ok (.invokestatic 174, 3) := by decide +kernel
theorem dL_four_169 : decode cL_four 169 = .ok (.bipush 18, 2) := by decide +kernel
theorem dL_four_171 : decode cL_four 171 = .ok (.iload_n 2, 1) := by decide +kernel
theorem dL_four_172 : decode cL_four 172 = .ok (.imul, 1) := by decide +kernel
theorem dL_four_173 : decode cL_four 173 = .ok (.if_icmp .ne 32, 3) := by decide +kernel
theorem dL_four_176 : decode cL_four 176 = .ok (.aload_n 1, 1) := by decide +kernel
theorem dL_four_177 : decode cL_four 177 = .ok (.bipush 67, 2) := by decide +kernel
theorem dL_four_179 : decode cL_four 179 = .ok (.iconst 4, 1) := by decide +kernel
theorem dL_four_180 : decode cL_four 180 = .ok (.newarray .int, 2) := by decide +kernel
theorem dL_four_182 : decode cL_four 182 = .ok (.dup, 1) := by decide +kernel
theorem dL_four_183 : decode cL_four 183 = .ok (.iconst 0, 1) := by decide +kernel
theorem dL_four_184 : decode cL_four 184 = .ok (.iconst 0, 1) := by decide +kernel
theorem dL_four_185 : decode cL_four 185 = .ok (.iastore, 1) := by decide +kernel
theorem dL_four_186 : decode cL_four 186 = .ok (.dup, 1) := by decide +kernel
theorem dL_four_187 : decode cL_four 187 = .ok (.iconst 1, 1) := by decide +kernel
theorem dL_four_188 : decode cL_four 188 = .ok (.iconst 0, 1) := by decide +kernel
theorem dL_four_189 : decode cL_four 189 = .ok (.iastore, 1) := by decide +kernel
theorem dL_four_190 : decode cL_four 190 = .ok (.dup, 1) := by decide +kernel
theorem dL_four_191 : decode cL_four 191 = .ok (.iconst 2, 1) := by decide +kernel
theorem dL_four_192 : decode cL_four 192 = .ok (.iload_n 2, 1) := by decide +kernel
theorem dL_four_193 : decode cL_four 193 = .ok (.iastore, 1) := by decide +kernel
theorem dL_four_194 : decode cL_four 194 = .ok (.dup, 1) := by decide +kernel
theorem dL_four_195 : decode cL_four 195 = .ok (.iconst 3, 1) := by decide +kernel
theorem dL_four_196 : decode cL_four 196 = .ok (.bipush 20, 2) := by decide +kernel
theorem dL_four_198 : decode cL_four 198 = .ok (.iastore, 1) := by decide +kernel
theorem dL_four_199 : decode cL_four 199 = .ok (.invokestatic 174, 3) := by decide +kernel
theorem dL_four_202 : decode cL_four 202 = .ok (.ifCond .ge 5, 3) := by decide +kernel
theorem dL_four_205 : decode cL_four 205 = .ok (.iconst 0, 1) := by decide +kernel
theorem dL_four_206 : decode cL_four 206 = .ok (.ireturn, 1) := by decide +kernel
theorem dL_four_207 : decode cL_four 207 = .ok (.aload_n 1, 1) := by decide +kernel
theorem dL_four_208 : decode cL_four 208 = .ok (.bipush 52, 2) := by decide +kernel
theorem dL_four_210 : decode cL_four 210 = .ok (.iconst 5, 1) := by decide +kernel
theorem dL_four_211 : decode cL_four 211 = .ok (.newarray .int, 2) := by decide +kernel
theorem dL_four_213 : decode cL_four 213 = .ok (.dup, 1) := by decide +kernel
theorem dL_four_214 : decode cL_four 214 = .ok (.iconst 0, 1) := by decide +kernel
theorem dL_four_215 : decode cL_four 215 = .ok (.iconst 0, 1) := by decide +kernel
theorem dL_four_216 : decode cL_four 216 = .ok (.iastore, 1) := by decide +kernel
theorem dL_four_217 : decode cL_four 217 = .ok (.dup, 1) := by decide +kernel
theorem dL_four_218 : decode cL_four 218 = .ok (.iconst 1, 1) := by decide +kernel
theorem dL_four_219 : decode cL_four 219 = .ok (.iload 6, 2) := by decide +kernel
theorem dL_four_221 : decode cL_four 221 = .ok (.iastore, 1) := by decide +kernel
theorem dL_four_222 : decode cL_four 222 = .ok (.dup, 1) := by decide +kernel
theorem dL_four_223 : decode cL_four 223 = .ok (.iconst 2, 1) := by decide +kernel
theorem dL_four_224 : decode cL_four 224 = .ok (.iload 7, 2) := by decide +kernel
theorem dL_four_226 : decode cL_four 226 = .ok (.iastore, 1) := by decide +kernel
theorem dL_four_227 : decode cL_four 227 = .ok (.dup, 1) := by decide +kernel
theorem dL_four_228 : decode cL_four 228 = .ok (.iconst 3, 1) := by decide +kernel
theorem dL_four_229 : decode cL_four 229 = .ok (.iload 5, 2) := by decide +kernel
theorem dL_four_231 : decode cL_four 231 = .ok (.iastore, 1) := by decide +kernel
theorem dL_four_232 : decode cL_four 232 = .ok (.dup, 1) := by decide +kernel
theorem dL_four_233 : decode cL_four 233 = .ok (.iconst 4, 1) := by decide +kernel
theorem dL_four_234 : decode cL_four 234 = .ok (.iload_n 3, 1) := by decide +kernel
theorem dL_four_235 : decode cL_four 235 = .ok (.iastore, 1) := by decide +kernel
theorem dL_four_236 : decode cL_four 236 = .ok (.invokestatic 174, 3) := by decide +kernel
theorem dL_four_239 : decode cL_four 239 = .ok (.iconst 1, 1) := by decide +kernel
theorem dL_four_240 : decode cL_four 240 = .ok (.if_icmp .ne 68, 3) := by decide +kernel
theorem dL_four_243 : decode cL_four 243 = .ok (.aload_n 1, 1) := by decide +kernel
theorem dL_four_244 : decode cL_four 244 = .ok (.bipush 107, 2) := by decide +kernel
theorem dL_four_246 : decode cL_four 246 = .ok (.iconst 1, 1) := by decide +kernel
theorem dL_four_247 : decode cL_four 247 = .ok (.newarray .int, 2) := by decide +kernel
theorem dL_four_249 : decode cL_four 249 = .ok (.dup, 1) := by decide +kernel
theorem dL_four_250 : decode cL_four 250 = .ok (.iconst 0, 1) := by decide +kernel
theorem dL_four_251 : decode cL_four 251 = .ok (.iconst 0, 1) := by decide +kernel
theorem dL_four_252 : decode cL_four 252 = .ok (.iastore, 1) := by decide +kernel
theorem dL_four_253 : decode cL_four 253 = .ok (.invokestatic 174, 3) := by decide +kernel
theorem dL_four_256 : decode cL_four 256 = .ok (.bipush 66, 2) := by decide +kernel
theorem dL_four_258 : decode cL_four 258 = .ok (.if_icmp .ne 50, 3) := by decide +kernel
theorem dL_four_261 : decode cL_four 261 = .ok (.aload_n 1, 1) := by decide +kernel
theorem dL_four_262 : decode cL_four 262 = .ok (.bipush 118, 2) := by decide +kernel
theorem dL_four_264 : decode cL_four 264 = .ok (.iconst 1, 1) := by decide +kernel
theorem dL_four_265 : decode cL_four 265 = .ok (.newarray .int, 2) := by decide +kernel
theorem dL_four_267 : decode cL_four 267 = .ok (.dup, 1) := by decide +kernel
theorem dL_four_268 : decode cL_four 268 = .ok (.iconst 0, 1) := by decide +kernel
theorem dL_four_269 : decode cL_four 269 = .ok (.iconst 0, 1) := by decide +kernel
theorem dL_four_270 : decode cL_four 270 = .ok (.iastore, 1) := by decide +kernel
theorem dL_four_271 : decode cL_four 271 = .ok (.invokestatic 174, 3) := by decide +kernel
theorem dL_four_274 : decode cL_four 274 = .ok (.iload 4, 2) := by decide +kernel
theorem dL_four_276 : decode cL_four 276 = .ok (.if_icmp .ne 32, 3) := by decide +kernel
theorem dL_four_279 : decode cL_four 279 = .ok (.aload_n 1, 1) := by decide +kernel
theorem dL_four_280 : decode cL_four 280 = .ok (.bipush 120, 2) := by decide +kernel
theorem dL_four_282 : decode cL_four 282 = .ok (.iconst 1, 1) := by decide +kernel
theorem dL_four_283 : decode cL_four 283 = .ok (.newarray .int, 2) := by decide +kernel
theorem dL_four_285 : decode cL_four 285 = .ok (.dup, 1) := by decide +kernel
theorem dL_four_286 : decode cL_four 286 = .ok (.iconst 0, 1) := by decide +kernel
theorem dL_four_287 : decode cL_four 287 = .ok (.iconst 0, 1) := by decide +kernel
theorem dL_four_288 : decode cL_four 288 = .ok (.iastore, 1) := by decide +kernel
theorem dL_four_289 : decode cL_four 289 = .ok (.invokestatic 174, 3) := by decide +kernel
theorem dL_four_292 : decode cL_four 292 = .ok (.bipush 45, 2) := by decide +kernel
theorem dL_four_294 : decode cL_four 294 = .ok (.if_icmp .ne 14, 3) := by decide +kernel
theorem dL_four_297 : decode cL_four 297 = .ok (.aload_n 1, 1) := by decide +kernel
theorem dL_four_298 : decode cL_four 298 = .ok (.invokevirtual 170, 3) := by decide +kernel
theorem dL_four_301 : decode cL_four 301 = .ok (.ifCond .eq 7, 3) := by decide +kernel
theorem dL_four_304 : decode cL_four 304 = .ok (.iconst 1, 1) := by decide +kernel
theorem dL_four_305 : decode cL_four 305 = .ok (.goto 4, 3) := by decide +kernel
theorem dL_four_308 : decode cL_four 308 = .ok (.iconst 0, 1) := by decide +kernel
theorem dL_four_309 : decode cL_four 309 = .ok (.ireturn, 1) := by decide +kernel
theorem dL_full_0 : decode cL_full 0 = .ok (.new 8, 3) := by decide +kernel
theorem dL_full_3 : decode cL_full 3 = .ok (.dup, 1) := by decide +kernel
theorem dL_full_4 : decode cL_full 4 = .ok (.invokespecial 145, 3) := by decide +kernel
theorem dL_full_7 : decode cL_full 7 = .ok (.astore_n 0, 1) := by decide +kernel
theorem dL_full_8 : decode cL_full 8 = .ok (.iconst 0, 1) := by decide +kernel
theorem dL_full_9 : decode cL_full 9 = .ok (.istore_n 1, 1) := by decide +kernel
theorem dL_full_10 : decode cL_full 10 = .ok (.iload_n 1, 1) := by decide +kernel
theorem dL_full_11 : decode cL_full 11 = .ok (.sipush 150, 3) := by decide +kernel
theorem dL_full_14 : decode cL_full 14 = .ok (.if_icmp .ge 42, 3) := by decide +kernel
theorem dL_full_17 : decode cL_full 17 = .ok (.aload_n 0, 1) := by decide +kernel
theorem dL_full_18 : decode cL_full 18 = .ok (.bipush 103, 2) := by decide +kernel
theorem dL_full_20 : decode cL_full 20 = .ok (.iconst 3, 1) := by decide +kernel
theorem dL_full_21 : decode cL_full 21 = .ok (.newarray .int, 2) := by decide +kernel
theorem dL_full_23 : decode cL_full 23 = .ok (.dup, 1) := by decide +kernel
theorem dL_full_24 : decode cL_full 24 = .ok (.iconst 0, 1) := by decide +kernel
theorem dL_full_25 : decode cL_full 25 = .ok (.iconst 2, 1) := by decide +kernel
theorem dL_full_26 : decode cL_full 26 = .ok (.iastore, 1) := by decide +kernel
theorem dL_full_27 : decode cL_full 27 = .ok (.dup, 1) := by decide +kernel
theorem dL_full_28 : decode cL_full 28 = .ok (.iconst 1, 1) := by decide +kernel
theorem dL_full_29 : decode cL_full 29 = .ok (.iconst 4, 1) := by decide +kernel
theorem dL_full_30 : decode cL_full 30 = .ok (.iload_n 1, 1) := by decide +kernel
theorem dL_full_31 : decode cL_full 31 = .ok (.imul, 1) := by decide +kernel
theorem dL_full_32 : decode cL_full 32 = .ok (.iastore, 1) := by decide +kernel
theorem dL_full_33 : decode cL_full 33 = .ok (.dup, 1) := by decide +kernel
theorem dL_full_34 : decode cL_full 34 = .ok (.iconst 2, 1) := by decide +kernel
theorem dL_full_35 : decode cL_full 35 = .ok (.iconst 2, 1) := by decide +kernel
theorem dL_full_36 : decode cL_full 36 = .ok (.iastore, 1) := by decide +kernel
theorem dL_full_37 : decode cL_full 37 = .ok (.invokestatic 174, 3) := by decide +kernel
theorem dL_full_40 : decode cL_full 40 = .ok (.iconst 2, 1) := by decide +kernel
theorem dL_full_41 : decode cL_full 41 = .ok (.iload_n 1, 1) := by decide +kernel
theorem dL_full_42 : decode cL_full 42 = .ok (.imul, 1) := by decide +kernel
theorem dL_full_43 : decode cL_full 43 = .ok (.iconst 2, 1) := by decide +kernel
theorem dL_full_44 : decode cL_full 44 = .ok (.iadd, 1) := by decide +kernel
theorem dL_full_45 : decode cL_full 45 = .ok (.if_icmp .eq 5, 3) := by decide +kernel
theorem dL_full_48 : decode cL_full 48 = .ok (.iconst 0, 1) := by decide +kernel
theorem dL_full_49 : decode cL_full 49 = .ok (.ireturn, 1) := by decide +kernel
theorem dL_full_50 : decode cL_full 50 = .ok (.iinc 1 1, 3) := by decide +kernel
theorem dL_full_53 : decode cL_full 53 = .ok (.goto (-43), 3) := by decide +kernel
theorem dL_full_56 : decode cL_full 56 = .ok (.iconst 0, 1) := by decide +kernel
theorem dL_full_57 : decode cL_full 57 = .ok (.istore_n 1, 1) := by decide +kernel
theorem dL_full_58 : decode cL_full 58 = .ok (.iload_n 1, 1) := by decide +kernel
theorem dL_full_59 : decode cL_full 59 = .ok (.bipush 6, 2) := by decide +kernel
theorem dL_full_61 : decode cL_full 61 = .ok (.if_icmp .ge 42, 3) := by decide +kernel
theorem dL_full_64 : decode cL_full 64 = .ok (.aload_n 0, 1) := by decide +kernel
theorem dL_full_65 : decode cL_full 65 = .ok (.bipush 112, 2) := by decide +kernel
theorem dL_full_67 : decode cL_full 67 = .ok (.iconst 3, 1) := by decide +kernel
theorem dL_full_68 : decode cL_full 68 = .ok (.newarray .int, 2) := by decide +kernel
theorem dL_full_70 : decode cL_full 70 = .ok (.dup, 1) := by decide +kernel
theorem dL_full_71 : decode cL_full 71 = .ok (.iconst 0, 1) := by decide +kernel
theorem dL_full_72 : decode cL_full 72 = .ok (.bipush 116, 2) := by decide +kernel
theorem dL_full_74 : decode cL_full 74 = .ok (.iastore, 1) := by decide +kernel
theorem dL_full_75 : decode cL_full 75 = .ok (.dup, 1) := by decide +kernel
theorem dL_full_76 : decode cL_full 76 = .ok (.iconst 1, 1) := by decide +kernel
theorem dL_full_77 : decode cL_full 77 = .ok (.bipush 9, 2) := by decide +kernel
theorem dL_full_79 : decode cL_full 79 = .ok (.iastore, 1) := by decide +kernel
theorem dL_full_80 : decode cL_full 80 = .ok (.dup, 1) := by decide +kernel
theorem dL_full_81 : decode cL_full 81 = .ok (.iconst 2, 1) := by decide +kernel
theorem dL_full_82 : decode cL_full 82 = .ok (.sipush 400, 3) := by decide +kernel
theorem dL_full_85 : decode cL_full 85 = .ok (.iastore, 1) := by decide +kernel
theorem dL_full_86 : decode cL_full 86 = .ok (.invokestatic 174, 3) := by decide +kernel
theorem dL_full_89 : decode cL_full 89 = .ok (.iload_n 1, 1) := by decide +kernel
theorem dL_full_90 : decode cL_full 90 = .ok (.iconst 1, 1) := by decide +kernel
theorem dL_full_91 : decode cL_full 91 = .ok (.iadd, 1) := by decide +kernel
theorem dL_full_92 : decode cL_full 92 = .ok (.if_icmp .eq 5, 3) := by decide +kernel
theorem dL_full_95 : decode cL_full 95 = .ok (.iconst 0, 1) := by decide +kernel
theorem dL_full_96 : decode cL_full 96 = .ok (.ireturn, 1) := by decide +kernel
theorem dL_full_97 : decode cL_full 97 = .ok (.iinc 1 1, 3) := by decide +kernel
theorem dL_full_100 : decode cL_full 100 = .ok (.goto (-42), 3) := by decide +kernel
theorem dL_full_103 : decode cL_full 103 = .ok (.aload_n 0, 1) := by decide +kernel
theorem dL_full_104 : decode cL_full 104 = .ok (.bipush 70, 2) := by decide +kernel
theorem dL_full_106 : decode cL_full 106 = .ok (.iconst 2, 1) := by decide +kernel
theorem dL_full_107 : decode cL_full 107 = .ok (.newarray .int, 2) := by decide +kernel
theorem dL_full_109 : decode cL_full 109 = .ok (.dup, 1) := by decide +kernel
theorem dL_full_110 : decode cL_full 110 = .ok (.iconst 0, 1) := by decide +kernel
theorem dL_full_111 : decode cL_full 111 = .ok (.iconst 2, 1) := by decide +kernel
theorem dL_full_112 : decode cL_full 112 = .ok (.iastore, 1) := by decide +kernel
theorem dL_full_113 : decode cL_full 113 = .ok (.dup, 1) := by decide +kernel
theorem dL_full_114 : decode cL_full 114 = .ok (.iconst 1, 1) := by decide +kernel
theorem dL_full_115 : decode cL_full 115 = .ok (.iconst 1, 1) := by decide +kernel
theorem dL_full_116 : decode cL_full 116 = .ok (.iastore, 1) := by decide +kernel
theorem dL_full_117 : decode cL_full 117 = .ok (.invokestatic 174, 3) := by decide +kernel
theorem dL_full_120 : decode cL_full 120 = .ok (.ldc 74, 2) := by decide +kernel
theorem dL_full_122 : decode cL_full 122 = .ok (.if_icmp .ne 256, 3) := by decide +kernel
theorem dL_full_125 : decode cL_full 125 = .ok (.aload_n 0, 1) := by decide +kernel
theorem dL_full_126 : decode cL_full 126 = .ok (.bipush 70, 2) := by decide +kernel
theorem dL_full_128 : decode cL_full 128 = .ok (.iconst 2, 1) := by decide +kernel
theorem dL_full_129 : decode cL_full 129 = .ok (.newarray .int, 2) := by decide +kernel
theorem dL_full_131 : decode cL_full 131 = .ok (.dup, 1) := by decide +kernel
theorem dL_full_132 : decode cL_full 132 = .ok (.iconst 0, 1) := by decide +kernel
theorem dL_full_133 : decode cL_full 133 = .ok (.iconst 2, 1) := by decide +kernel
theorem dL_full_134 : decode cL_full 134 = .ok (.iastore, 1) := by decide +kernel
theorem dL_full_135 : decode cL_full 135 = .ok (.dup, 1) := by decide +kernel
theorem dL_full_136 : decode cL_full 136 = .ok (.iconst 1, 1) := by decide +kernel
theorem dL_full_137 : decode cL_full 137 = .ok (.iconst 0, 1) := by decide +kernel
theorem dL_full_138 : decode cL_full 138 = .ok (.iastore, 1) := by decide +kernel
theorem dL_full_139 : decode cL_full 139 = .ok (.invokestatic 174, 3) := by decide +kernel
theorem dL_full_142 : decode cL_full 142 = .ok (.sipush 299, 3) := by decide +kernel
theorem dL_full_145 : decode cL_full 145 = .ok (.if_icmp .ne 233, 3) := by decide +kernel
theorem dL_full_148 : decode cL_full 148 = .ok (.aload_n 0, 1) := by decide +kernel
theorem dL_full_149 : decode cL_full 149 = .ok (.bipush 70, 2) := by decide +kernel
theorem dL_full_151 : decode cL_full 151 = .ok (.iconst 2, 1) := by decide +kernel
theorem dL_full_152 : decode cL_full 152 = .ok (.newarray .int, 2) := by decide +kernel
theorem dL_full_154 : decode cL_full 154 = .ok (.dup, 1) := by decide +kernel
theorem dL_full_155 : decode cL_full 155 = .ok (.iconst 0, 1) := by decide +kernel
theorem dL_full_156 : decode cL_full 156 = .ok (.iconst 2, 1) := by decide +kernel
theorem dL_full_157 : decode cL_full 157 = .ok (.iastore, 1) := by decide +kernel
theorem dL_full_158 : decode cL_full 158 = .ok (.dup, 1) := by decide +kernel
theorem dL_full_159 : decode cL_full 159 = .ok (.iconst 1, 1) := by decide +kernel
theorem dL_full_160 : decode cL_full 160 = .ok (.iconst 1, 1) := by decide +kernel
theorem dL_full_161 : decode cL_full 161 = .ok (.iastore, 1) := by decide +kernel
theorem dL_full_162 : decode cL_full 162 = .ok (.invokestatic 174, 3) := by decide +kernel
theorem dL_full_165 : decode cL_full 165 = .ok (.sipush 300, 3) := by decide +kernel
theorem dL_full_168 : decode cL_full 168 = .ok (.if_icmp .ne 210, 3) := by decide +kernel
theorem dL_full_171 : decode cL_full 171 = .ok (.aload_n 0, 1) := by decide +kernel
theorem dL_full_172 : decode cL_full 172 = .ok (.bipush 103, 2) := by decide +kernel
theorem dL_full_174 : decode cL_full 174 = .ok (.iconst 3, 1) := by decide +kernel
theorem dL_full_175 : decode cL_full 175 = .ok (.newarray .int, 2) := by decide +kernel
theorem dL_full_177 : decode cL_full 177 = .ok (.dup, 1) := by decide +kernel
theorem dL_full_178 : decode cL_full 178 = .ok (.iconst 0, 1) := by decide +kernel
theorem dL_full_179 : decode cL_full 179 = .ok (.iconst 2, 1) := by decide +kernel
theorem dL_full_180 : decode cL_full 180 = .ok (.iastore, 1) := by decide +kernel
theorem dL_full_181 : decode cL_full 181 = .ok (.dup, 1) := by decide +kernel
theorem dL_full_182 : decode cL_full 182 = .ok (.iconst 1, 1) := by decide +kernel
theorem dL_full_183 : decode cL_full 183 = .ok (.sipush 601, 3) := by decide +kernel
theorem dL_full_186 : decode cL_full 186 = .ok (.iastore, 1) := by decide +kernel
theorem dL_full_187 : decode cL_full 187 = .ok (.dup, 1) := by decide +kernel
theorem dL_full_188 : decode cL_full 188 = .ok (.iconst 2, 1) := by decide +kernel
theorem dL_full_189 : decode cL_full 189 = .ok (.iconst 1, 1) := by decide +kernel
theorem dL_full_190 : decode cL_full 190 = .ok (.iastore, 1) := by decide +kernel
theorem dL_full_191 : decode cL_full 191 = .ok (.invokestatic 174, 3) := by decide +kernel
theorem dL_full_194 : decode cL_full 194 = .ok (.ldc 74, 2) := by decide +kernel
theorem dL_full_196 : decode cL_full 196 = .ok (.if_icmp .ne 182, 3) := by decide +kernel
theorem dL_full_199 : decode cL_full 199 = .ok (.aload_n 0, 1) := by decide +kernel
theorem dL_full_200 : decode cL_full 200 = .ok (.bipush 103, 2) := by decide +kernel
theorem dL_full_202 : decode cL_full 202 = .ok (.iconst 3, 1) := by decide +kernel
theorem dL_full_203 : decode cL_full 203 = .ok (.newarray .int, 2) := by decide +kernel
theorem dL_full_205 : decode cL_full 205 = .ok (.dup, 1) := by decide +kernel
theorem dL_full_206 : decode cL_full 206 = .ok (.iconst 0, 1) := by decide +kernel
theorem dL_full_207 : decode cL_full 207 = .ok (.iconst 2, 1) := by decide +kernel
theorem dL_full_208 : decode cL_full 208 = .ok (.iastore, 1) := by decide +kernel
theorem dL_full_209 : decode cL_full 209 = .ok (.dup, 1) := by decide +kernel
theorem dL_full_210 : decode cL_full 210 = .ok (.iconst 1, 1) := by decide +kernel
theorem dL_full_211 : decode cL_full 211 = .ok (.iconst 1, 1) := by decide +kernel
theorem dL_full_212 : decode cL_full 212 = .ok (.iastore, 1) := by decide +kernel
theorem dL_full_213 : decode cL_full 213 = .ok (.dup, 1) := by decide +kernel
theorem dL_full_214 : decode cL_full 214 = .ok (.iconst 2, 1) := by decide +kernel
theorem dL_full_215 : decode cL_full 215 = .ok (.iconst 1, 1) := by decide +kernel
theorem dL_full_216 : decode cL_full 216 = .ok (.iastore, 1) := by decide +kernel
theorem dL_full_217 : decode cL_full 217 = .ok (.invokestatic 174, 3) := by decide +kernel
theorem dL_full_220 : decode cL_full 220 = .ok (.sipush 298, 3) := by decide +kernel
theorem dL_full_223 : decode cL_full 223 = .ok (.if_icmp .ne 155, 3) := by decide +kernel
theorem dL_full_226 : decode cL_full 226 = .ok (.aload_n 0, 1) := by decide +kernel
theorem dL_full_227 : decode cL_full 227 = .ok (.bipush 112, 2) := by decide +kernel
theorem dL_full_229 : decode cL_full 229 = .ok (.iconst 3, 1) := by decide +kernel
theorem dL_full_230 : decode cL_full 230 = .ok (.newarray .int, 2) := by decide +kernel
theorem dL_full_232 : decode cL_full 232 = .ok (.dup, 1) := by decide +kernel
theorem dL_full_233 : decode cL_full 233 = .ok (.iconst 0, 1) := by decide +kernel
theorem dL_full_234 : decode cL_full 234 = .ok (.bipush 116, 2) := by decide +kernel
theorem dL_full_236 : decode cL_full 236 = .ok (.iastore, 1) := by decide +kernel
theorem dL_full_237 : decode cL_full 237 = .ok (.dup, 1) := by decide +kernel
theorem dL_full_238 : decode cL_full 238 = .ok (.iconst 1, 1) := by decide +kernel
theorem dL_full_239 : decode cL_full 239 = .ok (.iconst 0, 1) := by decide +kernel
theorem dL_full_240 : decode cL_full 240 = .ok (.iastore, 1) := by decide +kernel
theorem dL_full_241 : decode cL_full 241 = .ok (.dup, 1) := by decide +kernel
theorem dL_full_242 : decode cL_full 242 = .ok (.iconst 2, 1) := by decide +kernel
theorem dL_full_243 : decode cL_full 243 = .ok (.iconst 1, 1) := by decide +kernel
theorem dL_full_244 : decode cL_full 244 = .ok (.iastore, 1) := by decide +kernel
theorem dL_full_245 : decode cL_full 245 = .ok (.invokestatic 174, 3) := by decide +kernel
theorem dL_full_248 : decode cL_full 248 = .ok (.ldc 74, 2) := by decide +kernel
theorem dL_full_250 : decode cL_full 250 = .ok (.if_icmp .ne 128, 3) := by decide +kernel
theorem dL_full_253 : decode cL_full 253 = .ok (.aload_n 0, 1) := by decide +kernel
theorem dL_full_254 : decode cL_full 254 = .ok (.bipush 67, 2) := by decide +kernel
theorem dL_full_256 : decode cL_full 256 = .ok (.iconst 4, 1) := by decide +kernel
theorem dL_full_257 : decode cL_full 257 = .ok (.newarray .int, 2) := by decide +kernel
theorem dL_full_259 : decode cL_full 259 = .ok (.dup, 1) := by decide +kernel
theorem dL_full_260 : decode cL_full 260 = .ok (.iconst 0, 1) := by decide +kernel
theorem dL_full_261 : decode cL_full 261 = .ok (.iconst 0, 1) := by decide +kernel
theorem dL_full_262 : decode cL_full 262 = .ok (.iastore, 1) := by decide +kernel
theorem dL_full_263 : decode cL_full 263 = .ok (.dup, 1) := by decide +kernel
theorem dL_full_264 : decode cL_full 264 = .ok (.iconst 1, 1) := by decide +kernel
theorem dL_full_265 : decode cL_full 265 = .ok (.iconst 0, 1) := by decide +kernel
theorem dL_full_266 : decode cL_full 266 = .ok (.iastore, 1) := by decide +kernel
theorem dL_full_267 : decode cL_full 267 = .ok (.dup, 1) := by decide +kernel
theorem dL_full_268 : decode cL_full 268 = .ok (.iconst 2, 1) := by decide +kernel
theorem dL_full_269 : decode cL_full 269 = .ok (.iconst 1, 1) := by decide +kernel
theorem dL_full_270 : decode cL_full 270 = .ok (.iastore, 1) := by decide +kernel
theorem dL_full_271 : decode cL_full 271 = .ok (.dup, 1) := by decide +kernel
theorem dL_full_272 : decode cL_full 272 = .ok (.iconst 3, 1) := by decide +kernel
theorem dL_full_273 : decode cL_full 273 = .ok (.sipush 400, 3) := by decide +kernel
theorem dL_full_276 : decode cL_full 276 = .ok (.iastore, 1) := by decide +kernel
theorem dL_full_277 : decode cL_full 277 = .ok (.invokestatic 174, 3) := by decide +kernel
theorem dL_full_280 : decode cL_full 280 = .ok (.ifCond .le 98, 3) := by decide +kernel
theorem dL_full_283 : decode cL_full 283 = .ok (.aload_n 0, 1) := by decide +kernel
theorem dL_full_284 : decode cL_full 284 = .ok (.bipush 84, 2) := by decide +kernel
theorem dL_full_286 : decode cL_full 286 = .ok (.iconst 1, 1) := by decide +kernel
theorem dL_full_287 : decode cL_full 287 = .ok (.newarray .int, 2) := by decide +kernel
theorem dL_full_289 : decode cL_full 289 = .ok (.dup, 1) := by decide +kernel
theorem dL_full_290 : decode cL_full 290 = .ok (.iconst 0, 1) := by decide +kernel
theorem dL_full_291 : decode cL_full 291 = .ok (.iconst 0, 1) := by decide +kernel
theorem dL_full_292 : decode cL_full 292 = .ok (.iastore, 1) := by decide +kernel
theorem dL_full_293 : decode cL_full 293 = .ok (.invokestatic 174, 3) := by decide +kernel
theorem dL_full_296 : decode cL_full 296 = .ok (.ldc 80, 2) := by decide +kernel
theorem dL_full_298 : decode cL_full 298 = .ok (.if_icmp .ne 80, 3) := by decide +kernel
theorem dL_full_301 : decode cL_full 301 = .ok (.aload_n 0, 1) := by decide +kernel
theorem dL_full_302 : decode cL_full 302 = .ok (.invokevirtual 157, 3) := by decide +kernel
theorem dL_full_305 : decode cL_full 305 = .ok (.bipush 6, 2) := by decide +kernel
theorem dL_full_307 : decode cL_full 307 = .ok (.if_icmp .ne 71, 3) := by decide +kernel
theorem dL_full_310 : decode cL_full 310 = .ok (.aload_n 0, 1) := by decide +kernel
theorem dL_full_311 : decode cL_full 311 = .ok (.bipush 112, 2) := by decide +kernel
theorem dL_full_313 : decode cL_full 313 = .ok (.iconst 3, 1) := by decide +kernel
theorem dL_full_314 : decode cL_full 314 = .ok (.newarray .int, 2) := by decide +kernel
theorem dL_full_316 : decode cL_full 316 = .ok (.dup, 1) := by decide +kernel
theorem dL_full_317 : decode cL_full 317 = .ok (.iconst 0, 1) := by decide +kernel
theorem dL_full_318 : decode cL_full 318 = .ok (.bipush 116, 2) := by decide +kernel
theorem dL_full_320 : decode cL_full 320 = .ok (.iastore, 1) := by decide +kernel
theorem dL_full_321 : decode cL_full 321 = .ok (.dup, 1) := by decide +kernel
theorem dL_full_322 : decode cL_full 322 = .ok (.iconst 1, 1) := by decide +kernel
theorem dL_full_323 : decode cL_full 323 = .ok (.iconst 0, 1) := by decide +kernel
theorem dL_full_324 : decode cL_full 324 = .ok (.iastore, 1) := by decide +kernel
theorem dL_full_325 : decode cL_full 325 = .ok (.dup, 1) := by decide +kernel
theorem dL_full_326 : decode cL_full 326 = .ok (.iconst 2, 1) := by decide +kernel
theorem dL_full_327 : decode cL_full 327 = .ok (.sipush 400, 3) := by decide +kernel
theorem dL_full_330 : decode cL_full 330 = .ok (.iastore, 1) := by decide +kernel
theorem dL_full_331 : decode cL_full 331 = .ok (.invokestatic 174, 3) := by decide +kernel
theorem dL_full_334 : decode cL_full 334 = .ok (.iconst 1, 1) := by decide +kernel
theorem dL_full_335 : decode cL_full 335 = .ok (.if_icmp .ne 43, 3) := by decide +kernel
theorem dL_full_338 : decode cL_full 338 = .ok (.aload_n 0, 1) := by decide +kernel
theorem dL_full_339 : decode cL_full 339 = .ok (.bipush 84, 2) := by decide +kernel
theorem dL_full_341 : decode cL_full 341 = .ok (.iconst 1, 1) := by decide +kernel
theorem dL_full_342 : decode cL_full 342 = .ok (.newarray .int, 2) := by decide +kernel
theorem dL_full_344 : decode cL_full 344 = .ok (.dup, 1) := by decide +kernel
theorem dL_full_345 : decode cL_full 345 = .ok (.iconst 0, 1) := by decide +kernel
theorem dL_full_346 : decode cL_full 346 = .ok (.iconst 0, 1) := by decide +kernel
theorem dL_full_347 : decode cL_full 347 = .ok (.iastore, 1) := by decide +kernel
theorem dL_full_348 : decode cL_full 348 = .ok (.invokestatic 174, 3) := by decide +kernel
theorem dL_full_351 : decode cL_full 351 = .ok (.sipush 399, 3) := by decide +kernel
theorem dL_full_354 : decode cL_full 354 = .ok (.if_icmp .ne 24, 3) := by decide +kernel
theorem dL_full_357 : decode cL_full 357 = .ok (.aload_n 0, 1) := by decide +kernel
theorem dL_full_358 : decode cL_full 358 = .ok (.invokevirtual 150, 3) := by decide +kernel
theorem dL_full_361 : decode cL_full 361 = .ok (.sipush 298, 3) := by decide +kernel
theorem dL_full_364 : decode cL_full 364 = .ok (.if_icmp .ne 14, 3) := by decide +kernel
theorem dL_full_367 : decode cL_full 367 = .ok (.aload_n 0, 1) := by decide +kernel
theorem dL_full_368 : decode cL_full 368 = .ok (.invokevirtual 170, 3) := by decide +kernel
theorem dL_full_371 : decode cL_full 371 = .ok (.ifCond .eq 7, 3) := by decide +kernel
theorem dL_full_374 : decode cL_full 374 = .ok (.iconst 1, 1) := by decide +kernel
theorem dL_full_375 : decode cL_full 375 = .ok (.goto 4, 3) := by decide +kernel
theorem dL_full_378 : decode cL_full 378 = .ok (.iconst 0, 1) := by decide +kernel
theorem dL_full_379 : decode cL_full 379 = .ok (.ireturn, 1) := by decide +kernel
