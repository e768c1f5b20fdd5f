theorem dX7_digest_0 : decode cX7_digest 0 = .ok (.aload_n 0, 1) := by decide +kernel
theorem dX7_digest_1 : decode cX7_digest 1 = .ok (.iconst 0, 1) := by decide +kernel
theorem dX7_digest_2 : decode cX7_digest 2 = .ok (.putfield 52, 3) := by decide +kernel
theorem dX7_digest_5 : decode cX7_digest 5 = .ok (.aload_n 0, 1) := by decide +kernel
theorem dX7_digest_6 : decode cX7_digest 6 = .ok (.ldc2_w 239, 3) := by decide +kernel
theorem dX7_digest_9 : decode cX7_digest 9 = .ok (.putfield 229, 3) := by decide +kernel
theorem dX7_digest_12 : decode cX7_digest 12 = .ok (.aload_n 0, 1) := by decide +kernel
theorem dX7_digest_13 : decode cX7_digest 13 = .ok (.aload_n 0, 1) := by decide +kernel
theorem dX7_digest_14 : decode cX7_digest 14 = .ok (.getfield 56, 3) := by decide +kernel
theorem dX7_digest_17 : decode cX7_digest 17 = .ok (.invokevirtual 235, 3) := by decide +kernel
theorem dX7_digest_20 : decode cX7_digest 20 = .ok (.iconst 0, 1) := by decide +kernel
theorem dX7_digest_21 : decode cX7_digest 21 = .ok (.istore_n 1, 1) := by decide +kernel
theorem dX7_digest_22 : decode cX7_digest 22 = .ok (.iload_n 1, 1) := by decide +kernel
theorem dX7_digest_23 : decode cX7_digest 23 = .ok (.aload_n 0, 1) := by decide +kernel
theorem dX7_digest_24 : decode cX7_digest 24 = .ok (.getfield 56, 3) := by decide +kernel
theorem dX7_digest_27 : decode cX7_digest 27 = .ok (.if_icmp .ge 77, 3) := by decide +kernel
theorem dX7_digest_30 : decode cX7_digest 30 = .ok (.aload_n 0, 1) := by decide +kernel
theorem dX7_digest_31 : decode cX7_digest 31 = .ok (.aload_n 0, 1) := by decide +kernel
theorem dX7_digest_32 : decode cX7_digest 32 = .ok (.getfield 13, 3) := by decide +kernel
theorem dX7_digest_35 : decode cX7_digest 35 = .ok (.iload_n 1, 1) := by decide +kernel
theorem dX7_digest_36 : decode cX7_digest 36 = .ok (.iaload, 1) := by decide +kernel
theorem dX7_digest_37 : decode cX7_digest 37 = .ok (.invokevirtual 235, 3) := by decide +kernel
theorem dX7_digest_40 : decode cX7_digest 40 = .ok (.iconst 0, 1) := by decide +kernel
theorem dX7_digest_41 : decode cX7_digest 41 = .ok (.istore_n 2, 1) := by decide +kernel
theorem dX7_digest_42 : decode cX7_digest 42 = .ok (.iload_n 2, 1) := by decide +kernel
theorem dX7_digest_43 : decode cX7_digest 43 = .ok (.aload_n 0, 1) := by decide +kernel
theorem dX7_digest_44 : decode cX7_digest 44 = .ok (.getfield 13, 3) := by decide +kernel
theorem dX7_digest_47 : decode cX7_digest 47 = .ok (.iload_n 1, 1) := by decide +kernel
theorem dX7_digest_48 : decode cX7_digest 48 = .ok (.iaload, 1) := by decide +kernel
theorem dX7_digest_49 : decode cX7_digest 49 = .ok (.if_icmp .ge 29, 3) := by decide +kernel
theorem dX7_digest_52 : decode cX7_digest 52 = .ok (.aload_n 0, 1) := by decide +kernel
theorem dX7_digest_53 : decode cX7_digest 53 = .ok (.aload_n 0, 1) := by decide +kernel
theorem dX7_digest_54 : decode cX7_digest 54 = .ok (.iload_n 1, 1) := by decide +kernel
theorem dX7_digest_55 : decode cX7_digest 55 = .ok (.iload_n 2, 1) := by decide +kernel
theorem dX7_digest_56 : decode cX7_digest 56 = .ok (.invokevirtual 106, 3) := by decide +kernel
theorem dX7_digest_59 : decode cX7_digest 59 = .ok (.invokevirtual 235, 3) := by decide +kernel
theorem dX7_digest_62 : decode cX7_digest 62 = .ok (.aload_n 0, 1) := by decide +kernel
theorem dX7_digest_63 : decode cX7_digest 63 = .ok (.aload_n 0, 1) := by decide +kernel
theorem dX7_digest_64 : decode cX7_digest 64 = .ok (.iload_n 1, 1) := by decide +kernel
theorem dX7_digest_65 : decode cX7_digest 65 = .ok (.iload_n 2, 1) := by decide +kernel
theorem dX7_digest_66 : decode cX7_digest 66 = .ok (.invokevirtual 67, 3) := by decide +kernel
theorem dX7_digest_69 : decode cX7_digest 69 = .ok (.invokevirtual 235, 3) := by decide +kernel
theorem dX7_digest_72 : decode cX7_digest 72 = .ok (.iinc 2 1, 3) := by decide +kernel
theorem dX7_digest_75 : decode cX7_digest 75 = .ok (.goto (-33), 3) := by decide +kernel
theorem dX7_digest_78 : decode cX7_digest 78 = .ok (.aload_n 0, 1) := by decide +kernel
theorem dX7_digest_79 : decode cX7_digest 79 = .ok (.aload_n 0, 1) := by decide +kernel
theorem dX7_digest_80 : decode cX7_digest 80 = .ok (.getfield 26, 3) := by decide +kernel
theorem dX7_digest_83 : decode cX7_digest 83 = .ok (.iload_n 1, 1) := by decide +kernel
theorem dX7_digest_84 : decode cX7_digest 84 = .ok (.iaload, 1) := by decide +kernel
theorem dX7_digest_85 : decode cX7_digest 85 = .ok (.invokevirtual 235, 3) := by decide +kernel
theorem dX7_digest_88 : decode cX7_digest 88 = .ok (.aload_n 0, 1) := by decide +kernel
theorem dX7_digest_89 : decode cX7_digest 89 = .ok (.aload_n 0, 1) := by decide +kernel
theorem dX7_digest_90 : decode cX7_digest 90 = .ok (.getfield 29, 3) := by decide +kernel
theorem dX7_digest_93 : decode cX7_digest 93 = .ok (.iload_n 1, 1) := by decide +kernel
theorem dX7_digest_94 : decode cX7_digest 94 = .ok (.iaload, 1) := by decide +kernel
theorem dX7_digest_95 : decode cX7_digest 95 = .ok (.invokevirtual 235, 3) := by decide +kernel
theorem dX7_digest_98 : decode cX7_digest 98 = .ok (.iinc 1 1, 3) := by decide +kernel
theorem dX7_digest_101 : decode cX7_digest 101 = .ok (.goto (-79), 3) := by decide +kernel
theorem dX7_digest_104 : decode cX7_digest 104 = .ok (.iconst 5, 1) := by decide +kernel
theorem dX7_digest_105 : decode cX7_digest 105 = .ok (.newarray .int, 2) := by decide +kernel
theorem dX7_digest_107 : decode cX7_digest 107 = .ok (.dup, 1) := by decide +kernel
theorem dX7_digest_108 : decode cX7_digest 108 = .ok (.iconst 0, 1) := by decide +kernel
theorem dX7_digest_109 : decode cX7_digest 109 = .ok (.aload_n 0, 1) := by decide +kernel
theorem dX7_digest_110 : decode cX7_digest 110 = .ok (.getfield 89, 3) := by decide +kernel
theorem dX7_digest_113 : decode cX7_digest 113 = .ok (.iastore, 1) := by decide +kernel
theorem dX7_digest_114 : decode cX7_digest 114 = .ok (.dup, 1) := by decide +kernel
theorem dX7_digest_115 : decode cX7_digest 115 = .ok (.iconst 1, 1) := by decide +kernel
theorem dX7_digest_116 : decode cX7_digest 116 = .ok (.aload_n 0, 1) := by decide +kernel
theorem dX7_digest_117 : decode cX7_digest 117 = .ok (.invokevirtual 129, 3) := by decide +kernel
theorem dX7_digest_120 : decode cX7_digest 120 = .ok (.iastore, 1) := by decide +kernel
theorem dX7_digest_121 : decode cX7_digest 121 = .ok (.dup, 1) := by decide +kernel
theorem dX7_digest_122 : decode cX7_digest 122 = .ok (.iconst 2, 1) := by decide +kernel
theorem dX7_digest_123 : decode cX7_digest 123 = .ok (.aload_n 0, 1) := by decide +kernel
theorem dX7_digest_124 : decode cX7_digest 124 = .ok (.invokevirtual 133, 3) := by decide +kernel
theorem dX7_digest_127 : decode cX7_digest 127 = .ok (.iastore, 1) := by decide +kernel
theorem dX7_digest_128 : decode cX7_digest 128 = .ok (.dup, 1) := by decide +kernel
theorem dX7_digest_129 : decode cX7_digest 129 = .ok (.iconst 3, 1) := by decide +kernel
theorem dX7_digest_130 : decode cX7_digest 130 = .ok (.aload_n 0, 1) := by decide +kernel
theorem dX7_digest_131 : decode cX7_digest 131 = .ok (.iconst 1, 1) := by decide +kernel
theorem dX7_digest_132 : decode cX7_digest 132 = .ok (.invokevirtual 136, 3) := by decide +kernel
theorem dX7_digest_135 : decode cX7_digest 135 = .ok (.iastore, 1) := by decide +kernel
theorem dX7_digest_136 : decode cX7_digest 136 = .ok (.dup, 1) := by decide +kernel
theorem dX7_digest_137 : decode cX7_digest 137 = .ok (.iconst 4, 1) := by decide +kernel
theorem dX7_digest_138 : decode cX7_digest 138 = .ok (.aload_n 0, 1) := by decide +kernel
theorem dX7_digest_139 : decode cX7_digest 139 = .ok (.iconst (-1), 1) := by decide +kernel
theorem dX7_digest_140 : decode cX7_digest 140 = .ok (.invokevirtual 136, 3) := by decide +kernel
theorem dX7_digest_143 : decode cX7_digest 143 = .ok (.iastore, 1) := by decide +kernel
theorem dX7_digest_144 : decode cX7_digest 144 = .ok (.astore_n 1, 1) := by decide +kernel
theorem dX7_digest_145 : decode cX7_digest 145 = .ok (.aload_n 1, 1) := by decide +kernel
theorem dX7_digest_146 : decode cX7_digest 146 = .ok (.astore_n 2, 1) := by decide +kernel
theorem dX7_digest_147 : decode cX7_digest 147 = .ok (.aload_n 2, 1) := by decide +kernel
theorem dX7_digest_148 : decode cX7_digest 148 = .ok (.arraylength, 1) := by decide +kernel
theorem dX7_digest_149 : decode cX7_digest 149 = .ok (.istore_n 3, 1) := by decide +kernel
theorem dX7_digest_150 : decode cX7_digest 150 = .ok (.iconst 0, 1) := by decide +kernel
theorem dX7_digest_151 : decode cX7_digest 151 = .ok (.istore 4, 2) := by decide +kernel
theorem dX7_digest_153 : decode cX7_digest 153 = .ok (.iload 4, 2) := by decide +kernel
theorem dX7_digest_155 : decode cX7_digest 155 = .ok (.iload_n 3, 1) := by decide +kernel
theorem dX7_digest_156 : decode cX7_digest 156 = .ok (.if_icmp .ge 21, 3) := by decide +kernel
theorem dX7_digest_159 : decode cX7_digest 159 = .ok (.aload_n 2, 1) := by decide +kernel
theorem dX7_digest_160 : decode cX7_digest 160 = .ok (.iload 4, 2) := by decide +kernel
theorem dX7_digest_162 : decode cX7_digest 162 = .ok (.iaload, 1) := by decide +kernel
theorem dX7_digest_163 : decode cX7_digest 163 = .ok (.istore 5, 2) := by decide +kernel
theorem dX7_digest_165 : decode cX7_digest 165 = .ok (.aload_n 0, 1) := by decide +kernel
theorem dX7_digest_166 : decode cX7_digest 166 = .ok (.iload 5, 2) := by decide +kernel
theorem dX7_digest_168 : decode cX7_digest 168 = .ok (.invokevirtual 235, 3) := by decide +kernel
theorem dX7_digest_171 : decode cX7_digest 171 = .ok (.iinc 4 1, 3) := by decide +kernel
theorem dX7_digest_174 : decode cX7_digest 174 = .ok (.goto (-21), 3) := by decide +kernel
theorem dX7_digest_177 : decode cX7_digest 177 = .ok (.iconst 0, 1) := by decide +kernel
theorem dX7_digest_178 : decode cX7_digest 178 = .ok (.istore_n 2, 1) := by decide +kernel
theorem dX7_digest_179 : decode cX7_digest 179 = .ok (.iload_n 2, 1) := by decide +kernel
theorem dX7_digest_180 : decode cX7_digest 180 = .ok (.aload_n 0, 1) := by decide +kernel
theorem dX7_digest_181 : decode cX7_digest 181 = .ok (.getfield 56, 3) := by decide +kernel
theorem dX7_digest_184 : decode cX7_digest 184 = .ok (.if_icmp .ge 47, 3) := by decide +kernel
theorem dX7_digest_187 : decode cX7_digest 187 = .ok (.aload_n 0, 1) := by decide +kernel
theorem dX7_digest_188 : decode cX7_digest 188 = .ok (.iload_n 2, 1) := by decide +kernel
theorem dX7_digest_189 : decode cX7_digest 189 = .ok (.invokevirtual 153, 3) := by decide +kernel
theorem dX7_digest_192 : decode cX7_digest 192 = .ok (.astore_n 3, 1) := by decide +kernel
theorem dX7_digest_193 : decode cX7_digest 193 = .ok (.aload_n 0, 1) := by decide +kernel
theorem dX7_digest_194 : decode cX7_digest 194 = .ok (.aload_n 3, 1) := by decide +kernel
theorem dX7_digest_195 : decode cX7_digest 195 = .ok (.arraylength, 1) := by decide +kernel
theorem dX7_digest_196 : decode cX7_digest 196 = .ok (.invokevirtual 235, 3) := by decide +kernel
theorem dX7_digest_199 : decode cX7_digest 199 = .ok (.iconst 0, 1) := by decide +kernel
theorem dX7_digest_200 : decode cX7_digest 200 = .ok (.istore 4, 2) := by decide +kernel
theorem dX7_digest_202 : decode cX7_digest 202 = .ok (.iload 4, 2) := by decide +kernel
theorem dX7_digest_204 : decode cX7_digest 204 = .ok (.aload_n 3, 1) := by decide +kernel
theorem dX7_digest_205 : decode cX7_digest 205 = .ok (.arraylength, 1) := by decide +kernel
theorem dX7_digest_206 : decode cX7_digest 206 = .ok (.if_icmp .ge 19, 3) := by decide +kernel
theorem dX7_digest_209 : decode cX7_digest 209 = .ok (.aload_n 0, 1) := by decide +kernel
theorem dX7_digest_210 : decode cX7_digest 210 = .ok (.aload_n 3, 1) := by decide +kernel
theorem dX7_digest_211 : decode cX7_digest 211 = .ok (.iload 4, 2) := by decide +kernel
theorem dX7_digest_213 : decode cX7_digest 213 = .ok (.invokestatic 156, 3) := by decide +kernel
theorem dX7_digest_216 : decode cX7_digest 216 = .ok (.invokevirtual 235, 3) := by decide +kernel
theorem dX7_digest_219 : decode cX7_digest 219 = .ok (.iinc 4 1, 3) := by decide +kernel
theorem dX7_digest_222 : decode cX7_digest 222 = .ok (.goto (-20), 3) := by decide +kernel
theorem dX7_digest_225 : decode cX7_digest 225 = .ok (.iinc 2 1, 3) := by decide +kernel
theorem dX7_digest_228 : decode cX7_digest 228 = .ok (.goto (-49), 3) := by decide +kernel
theorem dX7_digest_231 : decode cX7_digest 231 = .ok (.aload_n 0, 1) := by decide +kernel
theorem dX7_digest_232 : decode cX7_digest 232 = .ok (.getfield 95, 3) := by decide +kernel
theorem dX7_digest_235 : decode cX7_digest 235 = .ok (.ifCond .eq 7, 3) := by decide +kernel
theorem dX7_digest_238 : decode cX7_digest 238 = .ok (.aload_n 0, 1) := by decide +kernel
theorem dX7_digest_239 : decode cX7_digest 239 = .ok (.invokevirtual 241, 3) := by decide +kernel
theorem dX7_digest_242 : decode cX7_digest 242 = .ok (.aload_n 0, 1) := by decide +kernel
theorem dX7_digest_243 : decode cX7_digest 243 = .ok (.aload_n 0, 1) := by decide +kernel
theorem dX7_digest_244 : decode cX7_digest 244 = .ok (.getfield 92, 3) := by decide +kernel
theorem dX7_digest_247 : decode cX7_digest 247 = .ok (.invokevirtual 235, 3) := by decide +kernel
theorem dX7_digest_250 : decode cX7_digest 250 = .ok (.iconst 0, 1) := by decide +kernel
theorem dX7_digest_251 : decode cX7_digest 251 = .ok (.istore_n 2, 1) := by decide +kernel
theorem dX7_digest_252 : decode cX7_digest 252 = .ok (.iload_n 2, 1) := by decide +kernel
theorem dX7_digest_253 : decode cX7_digest 253 = .ok (.aload_n 0, 1) := by decide +kernel
theorem dX7_digest_254 : decode cX7_digest 254 = .ok (.getfield 92, 3) := by decide +kernel
theorem dX7_digest_257 : decode cX7_digest 257 = .ok (.if_icmp .ge 37, 3) := by decide +kernel
theorem dX7_digest_260 : decode cX7_digest 260 = .ok (.aload_n 0, 1) := by decide +kernel
theorem dX7_digest_261 : decode cX7_digest 261 = .ok (.aload_n 0, 1) := by decide +kernel
theorem dX7_digest_262 : decode cX7_digest 262 = .ok (.getfield 45, 3) := by decide +kernel
theorem dX7_digest_265 : decode cX7_digest 265 = .ok (.iload_n 2, 1) := by decide +kernel
theorem dX7_digest_266 : decode cX7_digest 266 = .ok (.iaload, 1) := by decide +kernel
theorem dX7_digest_267 : decode cX7_digest 267 = .ok (.invokevirtual 235, 3) := by decide +kernel
theorem dX7_digest_270 : decode cX7_digest 270 = .ok (.aload_n 0, 1) := by decide +kernel
theorem dX7_digest_271 : decode cX7_digest 271 = .ok (.aload_n 0, 1) := by decide +kernel
theorem dX7_digest_272 : decode cX7_digest 272 = .ok (.getfield 48, 3) := by decide +kernel
theorem dX7_digest_275 : decode cX7_digest 275 = .ok (.iload_n 2, 1) := by decide +kernel
theorem dX7_digest_276 : decode cX7_digest 276 = .ok (.baload, 1) := by decide +kernel
theorem dX7_digest_277 : decode cX7_digest 277 = .ok (.ifCond .eq 7, 3) := by decide +kernel
theorem dX7_digest_280 : decode cX7_digest 280 = .ok (.iconst 1, 1) := by decide +kernel
theorem dX7_digest_281 : decode cX7_digest 281 = .ok (.goto 4, 3) := by decide +kernel
theorem dX7_digest_284 : decode cX7_digest 284 = .ok (.iconst 0, 1) := by decide +kernel
theorem dX7_digest_285 : decode cX7_digest 285 = .ok (.invokevirtual 235, 3) := by decide +kernel
theorem dX7_digest_288 : decode cX7_digest 288 = .ok (.iinc 2 1, 3) := by decide +kernel
theorem dX7_digest_291 : decode cX7_digest 291 = .ok (.goto (-39), 3) := by decide +kernel
theorem dX7_digest_294 : decode cX7_digest 294 = .ok (.iconst 4, 1) := by decide +kernel
theorem dX7_digest_295 : decode cX7_digest 295 = .ok (.newarray .int, 2) := by decide +kernel
theorem dX7_digest_297 : decode cX7_digest 297 = .ok (.dup, 1) := by decide +kernel
theorem dX7_digest_298 : decode cX7_digest 298 = .ok (.iconst 0, 1) := by decide +kernel
theorem dX7_digest_299 : decode cX7_digest 299 = .ok (.aload_n 0, 1) := by decide +kernel
theorem dX7_digest_300 : decode cX7_digest 300 = .ok (.aload_n 0, 1) := by decide +kernel
theorem dX7_digest_301 : decode cX7_digest 301 = .ok (.invokevirtual 220, 3) := by decide +kernel
theorem dX7_digest_304 : decode cX7_digest 304 = .ok (.invokevirtual 206, 3) := by decide +kernel
theorem dX7_digest_307 : decode cX7_digest 307 = .ok (.iastore, 1) := by decide +kernel
theorem dX7_digest_308 : decode cX7_digest 308 = .ok (.dup, 1) := by decide +kernel
theorem dX7_digest_309 : decode cX7_digest 309 = .ok (.iconst 1, 1) := by decide +kernel
theorem dX7_digest_310 : decode cX7_digest 310 = .ok (.aload_n 0, 1) := by decide +kernel
theorem dX7_digest_311 : decode cX7_digest 311 = .ok (.aload_n 0, 1) := by decide +kernel
theorem dX7_digest_312 : decode cX7_digest 312 = .ok (.invokevirtual 220, 3) := by decide +kernel
theorem dX7_digest_315 : decode cX7_digest 315 = .ok (.invokevirtual 212, 3) := by decide +kernel
theorem dX7_digest_318 : decode cX7_digest 318 = .ok (.iastore, 1) := by decide +kernel
theorem dX7_digest_319 : decode cX7_digest 319 = .ok (.dup, 1) := by decide +kernel
theorem dX7_digest_320 : decode cX7_digest 320 = .ok (.iconst 2, 1) := by decide +kernel
theorem dX7_digest_321 : decode cX7_digest 321 = .ok (.aload_n 0, 1) := by decide +kernel
theorem dX7_digest_322 : decode cX7_digest 322 = .ok (.aload_n 0, 1) := by decide +kernel
theorem dX7_digest_323 : decode cX7_digest 323 = .ok (.invokevirtual 220, 3) := by decide +kernel
theorem dX7_digest_326 : decode cX7_digest 326 = .ok (.invokevirtual 203, 3) := by decide +kernel
theorem dX7_digest_329 : decode cX7_digest 329 = .ok (.iastore, 1) := by decide +kernel
theorem dX7_digest_330 : decode cX7_digest 330 = .ok (.dup, 1) := by decide +kernel
theorem dX7_digest_331 : decode cX7_digest 331 = .ok (.iconst 3, 1) := by decide +kernel
theorem dX7_digest_332 : decode cX7_digest 332 = .ok (.aload_n 0, 1) := by decide +kernel
theorem dX7_digest_333 : decode cX7_digest 333 = .ok (.aload_n 0, 1) := by decide +kernel
theorem dX7_digest_334 : decode cX7_digest 334 = .ok (.invokevirtual 220, 3) := by decide +kernel
theorem dX7_digest_337 : decode cX7_digest 337 = .ok (.invokevirtual 226, 3) := by decide +kernel
theorem dX7_digest_340 : decode cX7_digest 340 = .ok (.iastore, 1) := by decide +kernel
theorem dX7_digest_341 : decode cX7_digest 341 = .ok (.astore_n 2, 1) := by decide +kernel
theorem dX7_digest_342 : decode cX7_digest 342 = .ok (.aload_n 2, 1) := by decide +kernel
theorem dX7_digest_343 : decode cX7_digest 343 = .ok (.astore_n 3, 1) := by decide +kernel
theorem dX7_digest_344 : decode cX7_digest 344 = .ok (.aload_n 3, 1) := by decide +kernel
theorem dX7_digest_345 : decode cX7_digest 345 = .ok (.arraylength, 1) := by decide +kernel
theorem dX7_digest_346 : decode cX7_digest 346 = .ok (.istore 4, 2) := by decide +kernel
theorem dX7_digest_348 : decode cX7_digest 348 = .ok (.iconst 0, 1) := by decide +kernel
theorem dX7_digest_349 : decode cX7_digest 349 = .ok (.istore 5, 2) := by decide +kernel
theorem dX7_digest_351 : decode cX7_digest 351 = .ok (.iload 5, 2) := by decide +kernel
theorem dX7_digest_353 : decode cX7_digest 353 = .ok (.iload 4, 2) := by decide +kernel
theorem dX7_digest_355 : decode cX7_digest 355 = .ok (.if_icmp .ge 21, 3) := by decide +kernel
theorem dX7_digest_358 : decode cX7_digest 358 = .ok (.aload_n 3, 1) := by decide +kernel
theorem dX7_digest_359 : decode cX7_digest 359 = .ok (.iload 5, 2) := by decide +kernel
theorem dX7_digest_361 : decode cX7_digest 361 = .ok (.iaload, 1) := by decide +kernel
theorem dX7_digest_362 : decode cX7_digest 362 = .ok (.istore 6, 2) := by decide +kernel
theorem dX7_digest_364 : decode cX7_digest 364 = .ok (.aload_n 0, 1) := by decide +kernel
theorem dX7_digest_365 : decode cX7_digest 365 = .ok (.iload 6, 2) := by decide +kernel
theorem dX7_digest_367 : decode cX7_digest 367 = .ok (.invokevirtual 235, 3) := by decide +kernel
theorem dX7_digest_370 : decode cX7_digest 370 = .ok (.iinc 5 1, 3) := by decide +kernel
theorem dX7_digest_373 : decode cX7_digest 373 = .ok (.goto (-22), 3) := by decide +kernel
theorem dX7_digest_376 : decode cX7_digest 376 = .ok (.aload_n 0, 1) := by decide +kernel
theorem dX7_digest_377 : decode cX7_digest 377 = .ok (.getfield 229, 3) := by decide +kernel
theorem dX7_digest_380 : decode cX7_digest 380 = .ok (.lreturn, 1) := by decide +kernel
/-! by program: wip/whole/gen.py out of wip/whole/src/48.digest.eb -/
/-! EbbTableModel: digest -/
set_option maxRecDepth 100000 in
set_option maxHeartbeats 8000000 in
theorem c_X7_digest {l : Launch} {D : va_G} {cys : Nat → ClassId} {ad : Nat → Int → Nat} {L : List Nat} {g : Nat → va_E} {X : Int64} {Z : ZT} (hi : injA ad) {S : ZT} (hS : RMZ S Z) (hRL : RML cys ad S L g) (hW : WF S) : CM l D cys ad yX7_digest cX7_digest 7 (some .long) 10 262 116 2745 [.ref (ad 24 0)] L g X Z (PGJ L g X Z (fun r L9 g9 X9 Z9 => r = DIG S ∧ EXT L g L9 g9 ∧ Z9 = zS Z 24 0 0 0)) := by
  refine cm_start hi (by decide +kernel) (Nat.le_of_ble_eq_true rfl) ?_
  intro p_ e_ s_ m_ args_ below_ meth_ c_ A_ Q_ hQ G hr hin
  have hn := hW.n
  have hf := hW.f
  have hv := hW.v
  have hlv := hW.lv
  have hax := hW.ax
  have hS1 := hS.th 0
  have mem1 : ∀ (L1 : List Nat) (a : Nat), a ∈ L1 ++ [a] := fun L1 a => List.mem_append_right _ (List.mem_singleton.mpr rfl)
  obtain ⟨Y, hY⟩ : ∃ Y, Y = zS Z 24 0 0 0 := ⟨_, rfl⟩
  rw [← hY] at hS1
  have e1 := hS1.a.1
  have e8 := hS1.a.2.1
  have e11 := hS1.a.2.2.1
  have e14 := hS1.a.2.2.2.2
  obtain ⟨b, hb⟩ : ∃ b, b = mI (mI (mI (mI (mI (ddF (DT S) (mI 2539 (S 0 0 5)) (S 0 0 5).toNat) (S 6 0 3)) (CNT S)) (SUM S)) (LEAST S)) (GREAT S) := ⟨_, rfl⟩
  have hDIG : DIG S = mI (mI (mI (mI (DV S (if S 0 0 7 = 1 then DTB S (ddF (DL S) b (S 0 0 5).toNat) else ddF (DL S) b (S 0 0 5).toNat)) (CELLS S (S 0 0 6))) (COST S (S 0 0 6))) (VFOR S (S 0 0 6))) (GAIN S (S 0 0 6)) := by rw [hb]; rfl
  have c294 : ∀ (Xv : Int64) (L1 : List Nat) (g1 : Nat → va_E), RML cys ad S L1 g1 → EXT L g L1 g1 → mI (mI (mI (mI Xv (CELLS S (S 0 0 6))) (COST S (S 0 0 6))) (VFOR S (S 0 0 6))) (GAIN S (S 0 0 6)) = DIG S → JJ p_ l e_ { frames := 10, cells := 116, slots := 2745, locals := 262 } s_ m_ args_ below_ meth_ c_ D cys ad A_ Q_ 7 115 2741 L1 g1 Xv Y 294 [(0, .ref (ad 24 0))] [] := by
    intro Xv L1 g1 hRL1 hE hX
    have loop5 : ∀ (b : Nat) (L2 : List Nat) (g2 : Nat → va_E) (V : List Int), AR cys ad L2 g2 b V → V.length = 4 → EXT L g L2 g2 → ltF V Xv 4 = DIG S → ∀ (n : Nat) (k : Int), 0 ≤ k → k ≤ 4 → (4 - k).toNat = n → JJ p_ l e_ { frames := 10, cells := 116, slots := 2745, locals := 262 } s_ m_ args_ below_ meth_ c_ D cys ad A_ Q_ 7 116 2745 L2 g2 (ltF V Xv k.toNat) Y 351 [(0, .ref (ad 24 0)), (3, .ref b), (4, .int (iI 4)), (5, .int (iI k))] [] := by
      intro b L2 g2 V hA hV hE2 hX2 n
      induction n with
      | zero =>
        intro k h0 h1 h2
        have ek : k = 4 := by omega
        subst ek
        refine j_iload G dX7_digest_351 rfl ?_
        refine j_iload G dX7_digest_353 rfl ?_
        refine j_icmp_ge G 376 dX7_digest_355 (by decide) (by omega) (by omega) (fun c355 => ?_) (fun c355 => ?_)
        · refine j_aload_n G dX7_digest_376 rfl ?_
          refine gf_24_18 G dX7_digest_377 lf7_229 (by first | assumption | decide) ?_
          refine jr_GJ G hQ hr dX7_digest_380 (by first | decide | omega) (by first | decide | omega) ?_
          exact ⟨hX2, hE2, hY⟩
        · exfalso; omega
      | succ n ih =>
        intro k h0 h1 h2
        have hs := nat_s (ltF V Xv) h0
        refine j_iload G dX7_digest_351 rfl ?_
        refine j_iload G dX7_digest_353 rfl ?_
        refine j_icmp_ge G 376 dX7_digest_355 (by decide) (by omega) (by omega) (fun c355 => ?_) (fun c355 => ?_)
        · exfalso; omega
        · refine j_aload_n G dX7_digest_358 rfl ?_
          refine j_iload G dX7_digest_359 rfl ?_
          refine j_dlA G dX7_digest_361 (by assumption) (by first | omega | decide) (by omega) (by omega) ?_
          refine j_istore G dX7_digest_362 (by decide) rfl ?_
          refine j_aload_n G dX7_digest_364 rfl ?_
          refine j_iload G dX7_digest_365 rfl ?_
          refine j_cVGV G cvX7_put ml7_235 (c_X7_put hi ) dX7_digest_367 ⟨by decide, by decide⟩ (by first | exact ⟨by decide, by decide⟩ | (constructor <;> dsimp only <;> omega)) rfl rfl (Nat.le_of_ble_eq_true rfl) (by first | assumption | decide) rfl rfl rfl (fun L367 g367 X367 Z367 h367 => ?_)
          obtain ⟨f1, f2, f3, f4⟩ := h367
          subst L367 g367 X367 Z367
          refine j_iinc G dX7_digest_370 rfl (by decide) rfl ?_
          refine j_goto G 351 dX7_digest_373 (by decide) ?_
          refine j_keep [0, 3, 4, 5] ?_
          have hI := ih (k + 1) (by omega) (by omega) (by omega)
          rw [hs] at hI
          exact hI
    refine j_iconst G dX7_digest_294 ?_
    refine j_newI G dX7_digest_295 (TW_of 124 (by decide +kernel) (by decide +kernel)) (by omega) (by omega) (by first | exact ⟨by decide, by decide⟩ | (constructor <;> dsimp only <;> omega)) (fun a295 na295 ns295 => ?_)
    refine j_dup G dX7_digest_297 rfl ?_
    refine j_iconst G dX7_digest_298 ?_
    refine j_aload_n G dX7_digest_299 rfl ?_
    refine j_aload_n G dX7_digest_300 rfl ?_
    refine j_cVI G cvX7_levelsNow ml7_220 (c_X7_levelsNow hi hS1 hW) dX7_digest_301 ⟨by decide, by decide⟩ (by first | exact ⟨by decide, by decide⟩ | (constructor <;> dsimp only <;> omega)) rfl rfl (Nat.le_of_ble_eq_true rfl) (by first | assumption | decide) rfl rfl rfl (fun r301 h301 => ?_)
    refine j_cVI G cvX7_cells ml7_206 (c_X7_cells hi hS1 (hRL1.ext ((EXT.rf L1 g1).push na295 _)) hW h301.2) dX7_digest_304 ⟨by decide, by decide⟩ (by first | exact ⟨by decide, by decide⟩ | (constructor <;> dsimp only <;> omega)) rfl rfl (Nat.le_of_ble_eq_true rfl) (by first | assumption | decide) rfl rfl rfl (fun r304 h304 => ?_)
    have e304 : r304 = CELLS S (S 0 0 6) := by rw [h304, h301.1]
    refine j_dst G dX7_digest_307 ⟨mem1 _ _, ns295, va_up_self _ _ _⟩ (by first | omega | decide | (simp only [List.length_set, List.length_replicate]; decide)) (by omega) (by first | omega | (simp only [List.length_set, List.length_replicate]; decide)) ?_
    refine j_dup G dX7_digest_308 rfl ?_
    refine j_iconst G dX7_digest_309 ?_
    refine j_aload_n G dX7_digest_310 rfl ?_
    refine j_aload_n G dX7_digest_311 rfl ?_
    refine j_cVI G cvX7_levelsNow ml7_220 (c_X7_levelsNow hi hS1 hW) dX7_digest_312 ⟨by decide, by decide⟩ (by first | exact ⟨by decide, by decide⟩ | (constructor <;> dsimp only <;> omega)) rfl rfl (Nat.le_of_ble_eq_true rfl) (by first | assumption | decide) rfl rfl rfl (fun r312 h312 => ?_)
    refine j_cVI G cvX7_costOf ml7_212 (c_X7_costOf hi hS1 hW h312.2) dX7_digest_315 ⟨by decide, by decide⟩ (by first | exact ⟨by decide, by decide⟩ | (constructor <;> dsimp only <;> omega)) rfl rfl (Nat.le_of_ble_eq_true rfl) (by first | assumption | decide) rfl rfl rfl (fun r315 h315 => ?_)
    have e315 : r315 = COST S (S 0 0 6) := by rw [h315, h312.1]
    refine j_dst G dX7_digest_318 ⟨mem1 _ _, ns295, va_up_self _ _ _⟩ (by first | omega | decide | (simp only [List.length_set, List.length_replicate]; decide)) (by omega) (by first | omega | (simp only [List.length_set, List.length_replicate]; decide)) ?_
    refine j_dup G dX7_digest_319 rfl ?_
    refine j_iconst G dX7_digest_320 ?_
    refine j_aload_n G dX7_digest_321 rfl ?_
    refine j_aload_n G dX7_digest_322 rfl ?_
    refine j_cVI G cvX7_levelsNow ml7_220 (c_X7_levelsNow hi hS1 hW) dX7_digest_323 ⟨by decide, by decide⟩ (by first | exact ⟨by decide, by decide⟩ | (constructor <;> dsimp only <;> omega)) rfl rfl (Nat.le_of_ble_eq_true rfl) (by first | assumption | decide) rfl rfl rfl (fun r323 h323 => ?_)
    refine j_cVI G cvX7_answering ml7_203 (c_X7_answering hi hS1 hW h323.2) dX7_digest_326 ⟨by decide, by decide⟩ (by first | exact ⟨by decide, by decide⟩ | (constructor <;> dsimp only <;> omega)) rfl rfl (Nat.le_of_ble_eq_true rfl) (by first | assumption | decide) rfl rfl rfl (fun r326 h326 => ?_)
    have e326 : r326 = VFOR S (S 0 0 6) := by rw [h326, h323.1]
    refine j_dst G dX7_digest_329 ⟨mem1 _ _, ns295, va_up_self _ _ _⟩ (by first | omega | decide | (simp only [List.length_set, List.length_replicate]; decide)) (by omega) (by first | omega | (simp only [List.length_set, List.length_replicate]; decide)) ?_
    refine j_dup G dX7_digest_330 rfl ?_
    refine j_iconst G dX7_digest_331 ?_
    refine j_aload_n G dX7_digest_332 rfl ?_
    refine j_aload_n G dX7_digest_333 rfl ?_
    refine j_cVI G cvX7_levelsNow ml7_220 (c_X7_levelsNow hi hS1 hW) dX7_digest_334 ⟨by decide, by decide⟩ (by first | exact ⟨by decide, by decide⟩ | (constructor <;> dsimp only <;> omega)) rfl rfl (Nat.le_of_ble_eq_true rfl) (by first | assumption | decide) rfl rfl rfl (fun r334 h334 => ?_)
    refine j_cVI G cvX7_gainOf ml7_226 (c_X7_gainOf hi hS1 (hRL1.ext (((((EXT.rf L1 g1).push na295 _).up na295 _).up na295 _).up na295 _)) hW h334.2) dX7_digest_337 ⟨by decide, by decide⟩ (by first | exact ⟨by decide, by decide⟩ | (constructor <;> dsimp only <;> omega)) rfl rfl (Nat.le_of_ble_eq_true rfl) (by first | assumption | decide) rfl rfl rfl (fun r337 h337 => ?_)
    have hlk : LOK S (LV (S 0 0 5) r334) := by rw [h334.1]; exact hlv
    have e337 : r337 = GAIN S (S 0 0 6) := by rw [h337, GM_GAIN hW h334.2.1 hlk, h334.1]
    refine j_dst G dX7_digest_340 ⟨mem1 _ _, ns295, va_up_self _ _ _⟩ (by first | omega | decide | (simp only [List.length_set, List.length_replicate]; decide)) (by omega) (by first | omega | (simp only [List.length_set, List.length_replicate]; decide)) ?_
    refine j_astore_n G dX7_digest_341 (by decide) rfl ?_
    refine j_aload_n G dX7_digest_342 rfl ?_
    refine j_astore_n G dX7_digest_343 (by decide) rfl ?_
    refine j_aload_n G dX7_digest_344 rfl ?_
    refine j_dnA G dX7_digest_345 (W := [r304, r315, r326, r337]) ⟨mem1 _ _, ns295, va_up_self _ _ _⟩ ?_
    refine j_istore G dX7_digest_346 (by decide) rfl ?_
    refine j_iconst G dX7_digest_348 ?_
    refine j_istore G dX7_digest_349 (by decide) rfl ?_
    refine j_keep [0, 3, 4, 5] ?_
    exact loop5 a295 _ _ [r304, r315, r326, r337] ⟨mem1 _ _, ns295, va_up_self _ _ _⟩ rfl (hE.tr (((((((EXT.rf L1 g1).push na295 _).up na295 _).up na295 _).up na295 _).up na295 _))) (by rw [← hX, ← e304, ← e315, ← e326, ← e337]; rfl) _ 0 (by omega) (by omega) rfl
  have c242 : ∀ (Xv : Int64) (L1 : List Nat) (g1 : Nat → va_E), RML cys ad S L1 g1 → EXT L g L1 g1 → mI (mI (mI (mI (DV S Xv) (CELLS S (S 0 0 6))) (COST S (S 0 0 6))) (VFOR S (S 0 0 6))) (GAIN S (S 0 0 6)) = DIG S → JJ p_ l e_ { frames := 10, cells := 116, slots := 2745, locals := 262 } s_ m_ args_ below_ meth_ c_ D cys ad A_ Q_ 7 115 2741 L1 g1 Xv Y 242 [(0, .ref (ad 24 0))] [] := by
    intro Xv L1 g1 hRL1 hE hX
    have loop4 : ∀ (n : Nat) (k : Int), 0 ≤ k → k ≤ S 11 0 3 → (S 11 0 3 - k).toNat = n → JJ p_ l e_ { frames := 10, cells := 116, slots := 2745, locals := 262 } s_ m_ args_ below_ meth_ c_ D cys ad A_ Q_ 7 115 2741 L1 g1 (dvF S (mI Xv (S 11 0 3)) k.toNat) Y 252 [(0, .ref (ad 24 0)), (2, .int (iI k))] [] := by
      intro n
      induction n with
      | zero =>
        intro k h0 h1 h2
        have ek : k = S 11 0 3 := by omega
        subst ek
        refine j_iload_n G dX7_digest_252 rfl ?_
        refine j_aload_n G dX7_digest_253 rfl ?_
        refine gf_24_14 G dX7_digest_254 lf7_92 (by first | assumption | decide) ?_
        refine j_icmp_ge G 294 dX7_digest_257 (by decide) (by omega) (by omega) (fun c257 => ?_) (fun c257 => ?_)
        · refine j_keep [0] ?_
          exact c294 _ L1 g1 hRL1 hE hX
        · exfalso; omega
      | succ n ih =>
        intro k h0 h1 h2
        have hs := dvF_s S (mI Xv (S 11 0 3)) h0
        have hw := hS1.w h0 (by omega : k < S 11 0 3)
        have hst := hW.st h0 (by omega : k < 6)
        refine j_iload_n G dX7_digest_252 rfl ?_
        refine j_aload_n G dX7_digest_253 rfl ?_
        refine gf_24_14 G dX7_digest_254 lf7_92 (by first | assumption | decide) ?_
        refine j_icmp_ge G 294 dX7_digest_257 (by decide) (by omega) (by omega) (fun c257 => ?_) (fun c257 => ?_)
        · exfalso; omega
        · refine j_aload_n G dX7_digest_260 rfl ?_
          refine j_aload_n G dX7_digest_261 rfl ?_
          refine gf_24_16 G dX7_digest_262 lf7_45 (by first | assumption | decide) ?_
          refine j_iload_n G dX7_digest_265 rfl ?_
          refine al_37 G dX7_digest_266 (by first | assumption | decide) (by omega) (by omega) ?_
          refine j_cVGV G cvX7_put ml7_235 (c_X7_put hi ) dX7_digest_267 ⟨by decide, by decide⟩ (by first | exact ⟨by decide, by decide⟩ | (constructor <;> dsimp only <;> omega)) rfl rfl (Nat.le_of_ble_eq_true rfl) (by first | assumption | decide) rfl rfl rfl (fun L267 g267 X267 Z267 h267 => ?_)
          obtain ⟨f1, f2, f3, f4⟩ := h267
          subst L267 g267 X267 Z267
          refine j_aload_n G dX7_digest_270 rfl ?_
          refine j_aload_n G dX7_digest_271 rfl ?_
          refine gf_24_17 G dX7_digest_272 lf7_48 (by first | assumption | decide) ?_
          refine j_iload_n G dX7_digest_275 rfl ?_
          refine al_38 G dX7_digest_276 (by first | assumption | decide) (by omega) (by omega) ?_
          refine j_if_eq G 284 dX7_digest_277 (by decide) (by omega) (fun c277 => ?_) (fun c277 => ?_)
          · refine j_iconst G dX7_digest_284 ?_
            refine j_cVGV G cvX7_put ml7_235 (c_X7_put hi ) dX7_digest_285 ⟨by decide, by decide⟩ (by first | exact ⟨by decide, by decide⟩ | (constructor <;> dsimp only <;> omega)) rfl rfl (Nat.le_of_ble_eq_true rfl) (by first | assumption | decide) rfl rfl rfl (fun L285 g285 X285 Z285 h285 => ?_)
            obtain ⟨f1, f2, f3, f4⟩ := h285
            subst L285 g285 X285 Z285
            refine j_iinc G dX7_digest_288 rfl (by decide) rfl ?_
            refine j_goto G 252 dX7_digest_291 (by decide) ?_
            refine j_keep [0, 2] ?_
            have hI := ih (k + 1) (by omega) (by omega) (by omega)
            rw [hs, ← hw.2.1] at hI
            have e14k : S 14 0 k = 0 ∨ S 14 0 k = 1 := hst
            first
            | (have ez : S 14 0 k = 0 := by omega
               rw [ez] at hI
               exact hI)
            | (have ez : S 14 0 k = 1 := by omega
               rw [ez] at hI
               exact hI)
          · refine j_iconst G dX7_digest_280 ?_
            refine j_goto G 285 dX7_digest_281 (by decide) ?_
            refine j_cVGV G cvX7_put ml7_235 (c_X7_put hi ) dX7_digest_285 ⟨by decide, by decide⟩ (by first | exact ⟨by decide, by decide⟩ | (constructor <;> dsimp only <;> omega)) rfl rfl (Nat.le_of_ble_eq_true rfl) (by first | assumption | decide) rfl rfl rfl (fun L285 g285 X285 Z285 h285 => ?_)
            obtain ⟨f1, f2, f3, f4⟩ := h285
            subst L285 g285 X285 Z285
            refine j_iinc G dX7_digest_288 rfl (by decide) rfl ?_
            refine j_goto G 252 dX7_digest_291 (by decide) ?_
            refine j_keep [0, 2] ?_
            have hI := ih (k + 1) (by omega) (by omega) (by omega)
            rw [hs, ← hw.2.1] at hI
            have e14k : S 14 0 k = 0 ∨ S 14 0 k = 1 := hst
            first
            | (have ez : S 14 0 k = 0 := by omega
               rw [ez] at hI
               exact hI)
            | (have ez : S 14 0 k = 1 := by omega
               rw [ez] at hI
               exact hI)
    refine j_aload_n G dX7_digest_242 rfl ?_
    refine j_aload_n G dX7_digest_243 rfl ?_
    refine gf_24_14 G dX7_digest_244 lf7_92 (by first | assumption | decide) ?_
    rw [e14]
    refine j_cVGV G cvX7_put ml7_235 (c_X7_put hi ) dX7_digest_247 ⟨by decide, by decide⟩ (by first | exact ⟨by decide, by decide⟩ | (constructor <;> dsimp only <;> omega)) rfl rfl (Nat.le_of_ble_eq_true rfl) (by first | assumption | decide) rfl rfl rfl (fun L247 g247 X247 Z247 h247 => ?_)
    obtain ⟨f1, f2, f3, f4⟩ := h247
    subst L247 g247 X247 Z247
    refine j_iconst G dX7_digest_250 ?_
    refine j_istore_n G dX7_digest_251 (by decide) rfl ?_
    refine j_keep [0, 2] ?_
    exact loop4 _ 0 (by omega) hv.1 rfl
  have c231 : ∀ (L1 : List Nat) (g1 : Nat → va_E), RML cys ad S L1 g1 → EXT L g L1 g1 → JJ p_ l e_ { frames := 10, cells := 116, slots := 2745, locals := 262 } s_ m_ args_ below_ meth_ c_ D cys ad A_ Q_ 7 13 293 L1 g1 (ddF (DL S) b (S 0 0 5).toNat) Y 231 [(0, .ref (ad 24 0))] [] := by
    intro L1 g1 hRL1 hE
    refine j_aload_n G dX7_digest_231 rfl ?_
    refine gf_24_11 G dX7_digest_232 lf7_95 (by first | assumption | decide) ?_
    refine j_if_eq G 242 dX7_digest_235 (by decide) (by omega) (fun c235 => ?_) (fun c235 => ?_)
    · first
      | (have e7 : S 0 0 7 = 1 := by have := hW.ax; omega
         obtain ⟨eX, q3, eZ⟩ := h239
         subst X239 Z239
         refine j_keep [0] ?_
         refine c242 _ _ _ (hRL1.ext q3) (hE.tr q3) ?_
         rw [hDIG, if_pos e7])
      | (have e7 : ¬ S 0 0 7 = 1 := by omega
         refine j_wid (cells' := 115) (slots' := 2741) (by decide) (by decide) ?_
         refine j_keep [0] ?_
         refine c242 _ _ _ hRL1 hE ?_
         rw [hDIG, if_neg e7])
    · refine j_aload_n G dX7_digest_238 rfl ?_
      refine j_cVGV G cvX7_putTable ml7_241 (c_X7_putTable hi hS1 hRL1 hW (by omega)) dX7_digest_239 ⟨by decide, by decide⟩ (by first | exact ⟨by decide, by decide⟩ | (constructor <;> dsimp only <;> omega)) rfl rfl (Nat.le_of_ble_eq_true rfl) (by first | assumption | decide) rfl rfl rfl (fun L239 g239 X239 Z239 h239 => ?_)
      first
      | (have e7 : S 0 0 7 = 1 := by have := hW.ax; omega
         obtain ⟨eX, q3, eZ⟩ := h239
         subst X239 Z239
         refine j_keep [0] ?_
         refine c242 _ _ _ (hRL1.ext q3) (hE.tr q3) ?_
         rw [hDIG, if_pos e7])
      | (have e7 : ¬ S 0 0 7 = 1 := by omega
         refine j_wid (cells' := 115) (slots' := 2741) (by decide) (by decide) ?_
         refine j_keep [0] ?_
         refine c242 _ _ _ hRL1 hE ?_
         rw [hDIG, if_neg e7])
  have loop3 : ∀ (n : Nat) (a : Int) (L1 : List Nat) (g1 : Nat → va_E), 0 ≤ a → a ≤ S 0 0 5 → (S 0 0 5 - a).toNat = n → RML cys ad S L1 g1 → EXT L g L1 g1 → JJ p_ l e_ { frames := 10, cells := 116, slots := 2745, locals := 262 } s_ m_ args_ below_ meth_ c_ D cys ad A_ Q_ 7 (1 + 3 * a.toNat) (5 + 72 * a.toNat) L1 g1 (ddF (DL S) b a.toNat) Y 179 [(0, .ref (ad 24 0)), (2, .int (iI a))] [] := by
    intro n
    induction n with
    | zero =>
      intro a L1 g1 h0 h1 h2 hRL1 hE
      have ea : a = S 0 0 5 := by omega
      subst ea
      refine j_iload_n G dX7_digest_179 rfl ?_
      refine j_aload_n G dX7_digest_180 rfl ?_
      refine gf_24_1 G dX7_digest_181 lf7_56 (by first | assumption | decide) ?_
      refine j_icmp_ge G 231 dX7_digest_184 (by decide) (by omega) (by omega) (fun c184 => ?_) (fun c184 => ?_)
      · refine j_wid (cells' := 13) (slots' := 293) (by omega) (by omega) ?_
        refine j_keep [0] ?_
        exact c231 _ _ hRL1 hE
      · exfalso; omega
    | succ n ih =>
      intro a L1 g1 h0 h1 h2 hRL1 hE
      have hda : 0 ≤ a ∧ a < S 0 0 5 := by omega
      have hss := ddF_s (DL S) b h0
      have hsl := SUML_len S a
      have hk := (kids_ok hW hda.1 hda.2).1
      have hsl24 : (SUML S a).length ≤ 24 := by omega
      have hrg := SUML_rg hW a
      have inner : ∀ (L2 : List Nat) (g2 : Nat → va_E) (r : Nat), AR cys ad L2 g2 r (SUML S a) → RML cys ad S L2 g2 → EXT L g L2 g2 → ∀ (m : Nat) (k : Int), 0 ≤ k → k ≤ (SUML S a).length → ((SUML S a).length - k).toNat = m → JJ p_ l e_ { frames := 10, cells := 116, slots := 2745, locals := 262 } s_ m_ args_ below_ meth_ c_ D cys ad A_ Q_ 7 (1 + 3 * a.toNat + 3) (5 + 72 * a.toNat + 72) L2 g2 (dlF S a (mI (ddF (DL S) b a.toNat) (SUML S a).length) k.toNat) Y 202 [(0, .ref (ad 24 0)), (2, .int (iI a)), (3, .ref r), (4, .int (iI k))] [] := by
        intro L2 g2 r hA hRL2 hE2 m
        induction m with
        | zero =>
          intro k k0 k1 k2
          have ek : k = (SUML S a).length := by omega
          subst ek
          refine j_iload G dX7_digest_202 rfl ?_
          refine j_aload_n G dX7_digest_204 rfl ?_
          refine j_dnA G dX7_digest_205 (by assumption) ?_
          refine j_icmp_ge G 225 dX7_digest_206 (by decide) (by omega) (by omega) (fun c206 => ?_) (fun c206 => ?_)
          · refine j_iinc G dX7_digest_225 rfl (by decide) rfl ?_
            refine j_goto G 179 dX7_digest_228 (by decide) ?_
            refine j_wid (cells' := 1 + 3 * (a + 1).toNat) (slots' := 5 + 72 * (a + 1).toNat) (by omega) (by omega) ?_
            refine j_keep [0, 2] ?_
            have hI := ih (a + 1) L2 g2 (by omega) (by omega) (by omega) hRL2 hE2
            rw [hss] at hI
            have eDL : DL S a (ddF (DL S) b a.toNat) = dlF S a (mI (ddF (DL S) b a.toNat) (SUML S a).length) ((SUML S a).length : Int).toNat := by
              rw [Int.toNat_natCast, hsl]; rfl
            rw [eDL] at hI
            exact hI
          · exfalso; omega
        | succ m ihm =>
          intro k k0 k1 k2
          have hq1 : 0 ≤ k ∧ k < (SUML S a).length := by omega
          have hss2 := dlF_s S a (mI (ddF (DL S) b a.toNat) (SUML S a).length) k0
          have hcr := CR_rk (S := S) (d := a) k0 (by omega)
          refine j_iload G dX7_digest_202 rfl ?_
          refine j_aload_n G dX7_digest_204 rfl ?_
          refine j_dnA G dX7_digest_205 (by assumption) ?_
          refine j_icmp_ge G 225 dX7_digest_206 (by decide) (by omega) (by omega) (fun c206 => ?_) (fun c206 => ?_)
          · exfalso; omega
          · refine j_aload_n G dX7_digest_209 rfl ?_
            refine j_aload_n G dX7_digest_210 rfl ?_
            refine j_iload G dX7_digest_211 rfl ?_
            refine j_cSI G csX7_ofRank ml7_156 rfl (c_X7_ofRank hi hA hsl24 hrg hq1) dX7_digest_213 ⟨by decide, by decide⟩ (by first | exact ⟨by decide, by decide⟩ | (constructor <;> dsimp only <;> omega)) rfl rfl (Nat.le_of_ble_eq_true rfl) (fun r213 h213 => ?_)
            have e213 := (h213.trans (rk_SUML S a k)).trans hcr
            refine j_cVGV G cvX7_put ml7_235 (c_X7_put hi ) dX7_digest_216 ⟨by decide, by decide⟩ (by first | exact ⟨by decide, by decide⟩ | (constructor <;> dsimp only <;> omega)) rfl rfl (Nat.le_of_ble_eq_true rfl) (by first | assumption | decide) rfl rfl rfl (fun L216 g216 X216 Z216 h216 => ?_)
            obtain ⟨f1, f2, f3, f4⟩ := h216
            subst L216 g216 X216 Z216
            refine j_iinc G dX7_digest_219 rfl (by decide) rfl ?_
            refine j_goto G 202 dX7_digest_222 (by decide) ?_
            refine j_keep [0, 2, 3, 4] ?_
            have hI := ihm (k + 1) (by omega) (by omega) (by omega)
            rw [hss2, ← e213] at hI
            exact hI
      refine j_iload_n G dX7_digest_179 rfl ?_
      refine j_aload_n G dX7_digest_180 rfl ?_
      refine gf_24_1 G dX7_digest_181 lf7_56 (by first | assumption | decide) ?_
      refine j_icmp_ge G 231 dX7_digest_184 (by decide) (by omega) (by omega) (fun c184 => ?_) (fun c184 => ?_)
      · exfalso; omega
      · refine j_aload_n G dX7_digest_187 rfl ?_
        refine j_iload_n G dX7_digest_188 rfl ?_
        refine j_cVGA G cvX7_sums ml7_153 (c_X7_sums hi hS1 hRL1 hW hda) dX7_digest_189 ⟨by decide, by decide⟩ (by first | exact ⟨by decide, by decide⟩ | (constructor <;> dsimp only <;> omega)) rfl rfl (Nat.le_of_ble_eq_true rfl) (by first | assumption | decide) rfl rfl rfl (fun r189 L189 g189 X189 Z189 h189 => ?_)
        obtain ⟨s1, s2, s3, eX, eZ⟩ := h189
        subst X189 Z189
        refine j_astore_n G dX7_digest_192 (by decide) rfl ?_
        refine j_aload_n G dX7_digest_193 rfl ?_
        refine j_aload_n G dX7_digest_194 rfl ?_
        refine j_dnA G dX7_digest_195 s2 ?_
        refine j_cVGV G cvX7_put ml7_235 (c_X7_put hi ) dX7_digest_196 ⟨by decide, by decide⟩ (by first | exact ⟨by decide, by decide⟩ | (constructor <;> dsimp only <;> omega)) rfl rfl (Nat.le_of_ble_eq_true rfl) (by first | assumption | decide) rfl rfl rfl (fun L196 g196 X196 Z196 h196 => ?_)
        obtain ⟨f1, f2, f3, f4⟩ := h196
        subst L196 g196 X196 Z196
        refine j_iconst G dX7_digest_199 ?_
        refine j_istore G dX7_digest_200 (by decide) rfl ?_
        refine j_keep [0, 2, 3, 4] ?_
        exact inner _ _ _ s2 (hRL1.ext s3) (hE.tr s3) _ 0 (by omega) (by omega) rfl
  have c104 : JJ p_ l e_ { frames := 10, cells := 116, slots := 2745, locals := 262 } s_ m_ args_ below_ meth_ c_ D cys ad A_ Q_ 7 0 0 L g (ddF (DT S) (mI 2539 (S 0 0 5)) (S 0 0 5).toNat) Y 104 [(0, .ref (ad 24 0))] [] := by
    obtain ⟨Xv, hXv⟩ : ∃ Xv, Xv = ddF (DT S) (mI 2539 (S 0 0 5)) (S 0 0 5).toNat := ⟨_, rfl⟩
    rw [← hXv]
    have loop2 : ∀ (b2 : Nat) (L2 : List Nat) (g2 : Nat → va_E) (V : List Int), AR cys ad L2 g2 b2 V → V.length = 5 → RML cys ad S L2 g2 → EXT L g L2 g2 → ltF V Xv 5 = b → ∀ (n : Nat) (k : Int), 0 ≤ k → k ≤ 5 → (5 - k).toNat = n → JJ p_ l e_ { frames := 10, cells := 116, slots := 2745, locals := 262 } s_ m_ args_ below_ meth_ c_ D cys ad A_ Q_ 7 1 5 L2 g2 (ltF V Xv k.toNat) Y 153 [(0, .ref (ad 24 0)), (2, .ref b2), (3, .int (iI 5)), (4, .int (iI k))] [] := by
      intro b2 L2 g2 V hA hV hRL2 hE2 hX2 n
      induction n with
      | zero =>
        intro k h0 h1 h2
        have ek : k = 5 := by omega
        subst ek
        refine j_iload G dX7_digest_153 rfl ?_
        refine j_iload_n G dX7_digest_155 rfl ?_
        refine j_icmp_ge G 177 dX7_digest_156 (by decide) (by omega) (by omega) (fun c156 => ?_) (fun c156 => ?_)
        · refine j_iconst G dX7_digest_177 ?_
          refine j_istore_n G dX7_digest_178 (by decide) rfl ?_
          refine j_keep [0, 2] ?_
          have hI := loop3 _ 0 L2 g2 (by omega) hn.1 rfl hRL2 hE2
          have hX3 : ltF V Xv (5 : Int).toNat = b := hX2
          rw [hX3]
          exact hI
        · exfalso; omega
      | succ n ih =>
        intro k h0 h1 h2
        have hs := nat_s (ltF V Xv) h0
        refine j_iload G dX7_digest_153 rfl ?_
        refine j_iload_n G dX7_digest_155 rfl ?_
        refine j_icmp_ge G 177 dX7_digest_156 (by decide) (by omega) (by omega) (fun c156 => ?_) (fun c156 => ?_)
        · exfalso; omega
        · refine j_aload_n G dX7_digest_159 rfl ?_
          refine j_iload G dX7_digest_160 rfl ?_
          refine j_dlA G dX7_digest_162 (by assumption) (by first | omega | decide) (by omega) (by omega) ?_
          refine j_istore G dX7_digest_163 (by decide) rfl ?_
          refine j_aload_n G dX7_digest_165 rfl ?_
          refine j_iload G dX7_digest_166 rfl ?_
          refine j_cVGV G cvX7_put ml7_235 (c_X7_put hi ) dX7_digest_168 ⟨by decide, by decide⟩ (by first | exact ⟨by decide, by decide⟩ | (constructor <;> dsimp only <;> omega)) rfl rfl (Nat.le_of_ble_eq_true rfl) (by first | assumption | decide) rfl rfl rfl (fun L168 g168 X168 Z168 h168 => ?_)
          obtain ⟨f1, f2, f3, f4⟩ := h168
          subst L168 g168 X168 Z168
          refine j_iinc G dX7_digest_171 rfl (by decide) rfl ?_
          refine j_goto G 153 dX7_digest_174 (by decide) ?_
          refine j_keep [0, 2, 3, 4] ?_
          have hI := ih (k + 1) (by omega) (by omega) (by omega)
          rw [hs] at hI
          exact hI
    refine j_iconst G dX7_digest_104 ?_
    refine j_newI G dX7_digest_105 (TW_of 124 (by decide +kernel) (by decide +kernel)) (by omega) (by omega) (by first | exact ⟨by decide, by decide⟩ | (constructor <;> dsimp only <;> omega)) (fun a105 na105 ns105 => ?_)
    refine j_dup G dX7_digest_107 rfl ?_
    refine j_iconst G dX7_digest_108 ?_
    refine j_aload_n G dX7_digest_109 rfl ?_
    refine gf_24_8 G dX7_digest_110 lf7_89 (by first | assumption | decide) ?_
    refine j_dst G dX7_digest_113 ⟨mem1 _ _, ns105, va_up_self _ _ _⟩ (by first | omega | decide | (simp only [List.length_set, List.length_replicate]; decide)) (by omega) (by first | omega | (simp only [List.length_set, List.length_replicate]; decide)) ?_
    refine j_dup G dX7_digest_114 rfl ?_
    refine j_iconst G dX7_digest_115 ?_
    refine j_aload_n G dX7_digest_116 rfl ?_
    refine j_cVI G cvX7_countNow ml7_129 (c_X7_countNow hi hS1 (hRL.ext (((EXT.rf L g).push na105 _).up na105 _)) hW) dX7_digest_117 ⟨by decide, by decide⟩ (by first | exact ⟨by decide, by decide⟩ | (constructor <;> dsimp only <;> omega)) rfl rfl (Nat.le_of_ble_eq_true rfl) (by first | assumption | decide) rfl rfl rfl (fun r117 h117 => ?_)
    refine j_dst G dX7_digest_120 ⟨mem1 _ _, ns105, va_up_self _ _ _⟩ (by first | omega | decide | (simp only [List.length_set, List.length_replicate]; decide)) (by omega) (by first | omega | (simp only [List.length_set, List.length_replicate]; decide)) ?_
    refine j_dup G dX7_digest_121 rfl ?_
    refine j_iconst G dX7_digest_122 ?_
    refine j_aload_n G dX7_digest_123 rfl ?_
    refine j_cVI G cvX7_sumNow ml7_133 (c_X7_sumNow hi hS1 (hRL.ext ((((EXT.rf L g).push na105 _).up na105 _).up na105 _)) hW) dX7_digest_124 ⟨by decide, by decide⟩ (by first | exact ⟨by decide, by decide⟩ | (constructor <;> dsimp only <;> omega)) rfl rfl (Nat.le_of_ble_eq_true rfl) (by first | assumption | decide) rfl rfl rfl (fun r124 h124 => ?_)
    refine j_dst G dX7_digest_127 ⟨mem1 _ _, ns105, va_up_self _ _ _⟩ (by first | omega | decide | (simp only [List.length_set, List.length_replicate]; decide)) (by omega) (by first | omega | (simp only [List.length_set, List.length_replicate]; decide)) ?_
    refine j_dup G dX7_digest_128 rfl ?_
    refine j_iconst G dX7_digest_129 ?_
    refine j_aload_n G dX7_digest_130 rfl ?_
    refine j_iconst G dX7_digest_131 ?_
    refine j_cVI G cvX7_end ml7_136 (c_X7_end hi hS1 (hRL.ext (((((EXT.rf L g).push na105 _).up na105 _).up na105 _).up na105 _)) hW (Or.inl rfl)) dX7_digest_132 ⟨by decide, by decide⟩ (by first | exact ⟨by decide, by decide⟩ | (constructor <;> dsimp only <;> omega)) rfl rfl (Nat.le_of_ble_eq_true rfl) (by first | assumption | decide) rfl rfl rfl (fun r132 h132 => ?_)
    refine j_dst G dX7_digest_135 ⟨mem1 _ _, ns105, va_up_self _ _ _⟩ (by first | omega | decide | (simp only [List.length_set, List.length_replicate]; decide)) (by omega) (by first | omega | (simp only [List.length_set, List.length_replicate]; decide)) ?_
    refine j_dup G dX7_digest_136 rfl ?_
    refine j_iconst G dX7_digest_137 ?_
    refine j_aload_n G dX7_digest_138 rfl ?_
    refine j_iconst G dX7_digest_139 ?_
    refine j_cVI G cvX7_end ml7_136 (c_X7_end hi hS1 (hRL.ext ((((((EXT.rf L g).push na105 _).up na105 _).up na105 _).up na105 _).up na105 _)) hW (Or.inr rfl)) dX7_digest_140 ⟨by decide, by decide⟩ (by first | exact ⟨by decide, by decide⟩ | (constructor <;> dsimp only <;> omega)) rfl rfl (Nat.le_of_ble_eq_true rfl) (by first | assumption | decide) rfl rfl rfl (fun r140 h140 => ?_)
    rw [if_pos rfl] at h132
    rw [if_neg (by decide)] at h140
    refine j_dst G dX7_digest_143 ⟨mem1 _ _, ns105, va_up_self _ _ _⟩ (by first | omega | decide | (simp only [List.length_set, List.length_replicate]; decide)) (by omega) (by first | omega | (simp only [List.length_set, List.length_replicate]; decide)) ?_
    refine j_astore_n G dX7_digest_144 (by decide) rfl ?_
    refine j_aload_n G dX7_digest_145 rfl ?_
    refine j_astore_n G dX7_digest_146 (by decide) rfl ?_
    refine j_aload_n G dX7_digest_147 rfl ?_
    refine j_dnA G dX7_digest_148 (W := [Y 24 0 8, r117, r124, r132, r140]) ⟨mem1 _ _, ns105, va_up_self _ _ _⟩ ?_
    refine j_istore_n G dX7_digest_149 (by decide) rfl ?_
    refine j_iconst G dX7_digest_150 ?_
    refine j_istore G dX7_digest_151 (by decide) rfl ?_
    refine j_keep [0, 2, 3, 4] ?_
    exact loop2 a105 _ _ [Y 24 0 8, r117, r124, r132, r140] ⟨mem1 _ _, ns105, va_up_self _ _ _⟩ rfl (hRL.ext ((((((((EXT.rf L g).push na105 _).up na105 _).up na105 _).up na105 _).up na105 _).up na105 _))) ((((((((EXT.rf L g).push na105 _).up na105 _).up na105 _).up na105 _).up na105 _).up na105 _)) (by rw [hb, ← hXv, ← e8, ← h117, ← h124, ← h132, ← h140]; rfl) _ 0 (by omega) (by omega) rfl
  have loop1 : ∀ (n : Nat) (a : Int), 0 ≤ a → a ≤ S 0 0 5 → (S 0 0 5 - a).toNat = n → JJ p_ l e_ { frames := 10, cells := 116, slots := 2745, locals := 262 } s_ m_ args_ below_ meth_ c_ D cys ad A_ Q_ 7 0 0 L g (ddF (DT S) (mI 2539 (S 0 0 5)) a.toNat) Y 22 [(0, .ref (ad 24 0)), (1, .int (iI a))] [] := by
    intro n
    induction n with
    | zero =>
      intro a h0 h1 h2
      have ea : a = S 0 0 5 := by omega
      subst ea
      refine j_iload_n G dX7_digest_22 rfl ?_
      refine j_aload_n G dX7_digest_23 rfl ?_
      refine gf_24_1 G dX7_digest_24 lf7_56 (by first | assumption | decide) ?_
      refine j_icmp_ge G 104 dX7_digest_27 (by decide) (by omega) (by omega) (fun c27 => ?_) (fun c27 => ?_)
      · refine j_keep [0] ?_
        exact c104
      · exfalso; omega
    | succ n ih =>
      intro a h0 h1 h2
      have hda : 0 ≤ a ∧ a < S 0 0 5 := by omega
      have hss := ddF_s (DT S) (mI 2539 (S 0 0 5)) h0
      have ht := hW.t hda.1 hda.2
      have ht1 := ht.1
      have hd4 := hS1.d h0 (by omega)
      have inner : ∀ (m : Nat) (k : Int), 0 ≤ k → k ≤ S 2 a 4 → (S 2 a 4 - k).toNat = m → JJ p_ l e_ { frames := 10, cells := 116, slots := 2745, locals := 262 } s_ m_ args_ below_ meth_ c_ D cys ad A_ Q_ 7 0 0 L g (mtF S a (mI (ddF (DT S) (mI 2539 (S 0 0 5)) a.toNat) (S 2 a 4)) k.toNat) Y 42 [(0, .ref (ad 24 0)), (1, .int (iI a)), (2, .int (iI k))] [] := by
        intro m
        induction m with
        | zero =>
          intro k k0 k1 k2
          have ek : k = S 2 a 4 := by omega
          subst ek
          have e26 := hd4.2.1
          refine j_iload_n G dX7_digest_42 rfl ?_
          refine j_aload_n G dX7_digest_43 rfl ?_
          refine gf_24_3 G dX7_digest_44 lf7_13 (by first | assumption | decide) ?_
          refine j_iload_n G dX7_digest_47 rfl ?_
          refine al_26 G dX7_digest_48 (by first | assumption | decide) (by omega) (by omega) ?_
          refine j_icmp_ge G 78 dX7_digest_49 (by decide) (by omega) (by omega) (fun c49 => ?_) (fun c49 => ?_)
          · refine j_aload_n G dX7_digest_78 rfl ?_
            refine j_aload_n G dX7_digest_79 rfl ?_
            refine gf_24_6 G dX7_digest_80 lf7_26 (by first | assumption | decide) ?_
            refine j_iload_n G dX7_digest_83 rfl ?_
            refine al_31 G dX7_digest_84 (by first | assumption | decide) (by omega) (by omega) ?_
            rw [hd4.2.2.1]
            refine j_cVGV G cvX7_put ml7_235 (c_X7_put hi ) dX7_digest_85 ⟨by decide, by decide⟩ (by first | exact ⟨by decide, by decide⟩ | (constructor <;> dsimp only <;> omega)) rfl rfl (Nat.le_of_ble_eq_true rfl) (by first | assumption | decide) rfl rfl rfl (fun L85 g85 X85 Z85 h85 => ?_)
            obtain ⟨f1, f2, f3, f4⟩ := h85
            subst L85 g85 X85 Z85
            refine j_aload_n G dX7_digest_88 rfl ?_
            refine j_aload_n G dX7_digest_89 rfl ?_
            refine gf_24_7 G dX7_digest_90 lf7_29 (by first | assumption | decide) ?_
            refine j_iload_n G dX7_digest_93 rfl ?_
            refine al_32 G dX7_digest_94 (by first | assumption | decide) (by omega) (by omega) ?_
            rw [hd4.2.2.2]
            refine j_cVGV G cvX7_put ml7_235 (c_X7_put hi ) dX7_digest_95 ⟨by decide, by decide⟩ (by first | exact ⟨by decide, by decide⟩ | (constructor <;> dsimp only <;> omega)) rfl rfl (Nat.le_of_ble_eq_true rfl) (by first | assumption | decide) rfl rfl rfl (fun L95 g95 X95 Z95 h95 => ?_)
            obtain ⟨f1, f2, f3, f4⟩ := h95
            subst L95 g95 X95 Z95
            refine j_iinc G dX7_digest_98 rfl (by decide) rfl ?_
            refine j_goto G 22 dX7_digest_101 (by decide) ?_
            refine j_keep [0, 1] ?_
            have hI := ih (a + 1) (by omega) (by omega) (by omega)
            rw [hss] at hI
            exact hI
          · exfalso; omega
        | succ m ihm =>
          intro k k0 k1 k2
          have e26 := hd4.2.1
          have hkm : 0 ≤ k ∧ k < S 2 a 4 := by omega
          have hss2 := mtF_s S a (mI (ddF (DT S) (mI 2539 (S 0 0 5)) a.toNat) (S 2 a 4)) k0
          refine j_iload_n G dX7_digest_42 rfl ?_
          refine j_aload_n G dX7_digest_43 rfl ?_
          refine gf_24_3 G dX7_digest_44 lf7_13 (by first | assumption | decide) ?_
          refine j_iload_n G dX7_digest_47 rfl ?_
          refine al_26 G dX7_digest_48 (by first | assumption | decide) (by omega) (by omega) ?_
          refine j_icmp_ge G 78 dX7_digest_49 (by decide) (by omega) (by omega) (fun c49 => ?_) (fun c49 => ?_)
          · exfalso; omega
          · refine j_aload_n G dX7_digest_52 rfl ?_
            refine j_aload_n G dX7_digest_53 rfl ?_
            refine j_iload_n G dX7_digest_54 rfl ?_
            refine j_iload_n G dX7_digest_55 rfl ?_
            refine j_cVI G cvX7_parentNow ml7_106 (c_X7_parentNow hi hS1 hW hda hkm) dX7_digest_56 ⟨by decide, by decide⟩ (by first | exact ⟨by decide, by decide⟩ | (constructor <;> dsimp only <;> omega)) rfl rfl (Nat.le_of_ble_eq_true rfl) (by first | assumption | decide) rfl rfl rfl (fun r56 h56 => ?_)
            subst h56
            refine j_cVGV G cvX7_put ml7_235 (c_X7_put hi ) dX7_digest_59 ⟨by decide, by decide⟩ (by first | exact ⟨by decide, by decide⟩ | (constructor <;> dsimp only <;> omega)) rfl rfl (Nat.le_of_ble_eq_true rfl) (by first | assumption | decide) rfl rfl rfl (fun L59 g59 X59 Z59 h59 => ?_)
            obtain ⟨f1, f2, f3, f4⟩ := h59
            subst L59 g59 X59 Z59
            refine j_aload_n G dX7_digest_62 rfl ?_
            refine j_aload_n G dX7_digest_63 rfl ?_
            refine j_iload_n G dX7_digest_64 rfl ?_
            refine j_iload_n G dX7_digest_65 rfl ?_
            refine j_cVI G cvX7_depth ml7_67 (c_X7_depth hi hS1 hW hda hkm) dX7_digest_66 ⟨by decide, by decide⟩ (by first | exact ⟨by decide, by decide⟩ | (constructor <;> dsimp only <;> omega)) rfl rfl (Nat.le_of_ble_eq_true rfl) (by first | assumption | decide) rfl rfl rfl (fun r66 h66 => ?_)
            subst h66
            refine j_cVGV G cvX7_put ml7_235 (c_X7_put hi ) dX7_digest_69 ⟨by decide, by decide⟩ (by first | exact ⟨by decide, by decide⟩ | (constructor <;> dsimp only <;> omega)) rfl rfl (Nat.le_of_ble_eq_true rfl) (by first | assumption | decide) rfl rfl rfl (fun L69 g69 X69 Z69 h69 => ?_)
            obtain ⟨f1, f2, f3, f4⟩ := h69
            subst L69 g69 X69 Z69
            refine j_iinc G dX7_digest_72 rfl (by decide) rfl ?_
            refine j_goto G 42 dX7_digest_75 (by decide) ?_
            refine j_keep [0, 1, 2] ?_
            have hI := ihm (k + 1) (by omega) (by omega) (by omega)
            rw [hss2] at hI
            exact hI
      refine j_iload_n G dX7_digest_22 rfl ?_
      refine j_aload_n G dX7_digest_23 rfl ?_
      refine gf_24_1 G dX7_digest_24 lf7_56 (by first | assumption | decide) ?_
      refine j_icmp_ge G 104 dX7_digest_27 (by decide) (by omega) (by omega) (fun c27 => ?_) (fun c27 => ?_)
      · exfalso; omega
      · refine j_aload_n G dX7_digest_30 rfl ?_
        refine j_aload_n G dX7_digest_31 rfl ?_
        refine gf_24_3 G dX7_digest_32 lf7_13 (by first | assumption | decide) ?_
        refine j_iload_n G dX7_digest_35 rfl ?_
        refine al_26 G dX7_digest_36 (by first | assumption | decide) (by omega) (by omega) ?_
        rw [hd4.2.1]
        refine j_cVGV G cvX7_put ml7_235 (c_X7_put hi ) dX7_digest_37 ⟨by decide, by decide⟩ (by first | exact ⟨by decide, by decide⟩ | (constructor <;> dsimp only <;> omega)) rfl rfl (Nat.le_of_ble_eq_true rfl) (by first | assumption | decide) rfl rfl rfl (fun L37 g37 X37 Z37 h37 => ?_)
        obtain ⟨f1, f2, f3, f4⟩ := h37
        subst L37 g37 X37 Z37
        refine j_iconst G dX7_digest_40 ?_
        refine j_istore_n G dX7_digest_41 (by decide) rfl ?_
        refine j_keep [0, 1, 2] ?_
        exact inner _ 0 (by omega) (by omega) rfl
  refine j_aload_n G dX7_digest_0 rfl ?_
  refine j_iconst G dX7_digest_1 ?_
  refine pf_24_0 G dX7_digest_2 lf7_52 (by first | assumption | decide) ?_
  refine j_aload_n G dX7_digest_5 rfl ?_
  refine j_ldc2 G dX7_digest_6 (v := (2539 : Int64)) (TW_of 1399 (by decide +kernel) (by decide +kernel)) ?_
  refine j_putX G dX7_digest_9 lf7_229 ?_
  rw [← hY]
  refine j_aload_n G dX7_digest_12 rfl ?_
  refine j_aload_n G dX7_digest_13 rfl ?_
  refine gf_24_1 G dX7_digest_14 lf7_56 (by first | assumption | decide) ?_
  try simp (config := { decide := true }) only [zS_k, zS_s, zS_j, ne_eq]
  rw [e1]
  refine j_cVGV G cvX7_put ml7_235 (c_X7_put hi ) dX7_digest_17 ⟨by decide, by decide⟩ (by first | exact ⟨by decide, by decide⟩ | (constructor <;> dsimp only <;> omega)) rfl rfl (Nat.le_of_ble_eq_true rfl) (by first | assumption | decide) rfl rfl rfl (fun L17 g17 X17 Z17 h17 => ?_)
  obtain ⟨f1, f2, f3, f4⟩ := h17
  subst L17 g17 X17 Z17
  refine j_iconst G dX7_digest_20 ?_
  refine j_istore_n G dX7_digest_21 (by decide) rfl ?_
  refine j_keep [0, 1] ?_
  exact loop1 _ 0 (by omega) hn.1 rfl

