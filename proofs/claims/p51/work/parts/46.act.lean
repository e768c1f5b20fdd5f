theorem dL_act_0 : decode cL_act 0 = .ok (.iload_n 2, 1) := by decide +kernel
theorem dL_act_1 : decode cL_act 1 = .ok (.iconst 3, 1) := by decide +kernel
theorem dL_act_2 : decode cL_act 2 = .ok (.ishr, 1) := by decide +kernel
theorem dL_act_3 : decode cL_act 3 = .ok (.aload_n 1, 1) := by decide +kernel
theorem dL_act_4 : decode cL_act 4 = .ok (.getfield 62, 3) := by decide +kernel
theorem dL_act_7 : decode cL_act 7 = .ok (.invokestatic 20, 3) := by decide +kernel
theorem dL_act_10 : decode cL_act 10 = .ok (.istore_n 3, 1) := by decide +kernel
theorem dL_act_11 : decode cL_act 11 = .ok (.iload_n 2, 1) := by decide +kernel
theorem dL_act_12 : decode cL_act 12 = .ok (.iconst 5, 1) := by decide +kernel
theorem dL_act_13 : decode cL_act 13 = .ok (.ishr, 1) := by decide +kernel
theorem dL_act_14 : decode cL_act 14 = .ok (.aload_n 0, 1) := by decide +kernel
theorem dL_act_15 : decode cL_act 15 = .ok (.iload_n 3, 1) := by decide +kernel
theorem dL_act_16 : decode cL_act 16 = .ok (.invokevirtual 76, 3) := by decide +kernel
theorem dL_act_19 : decode cL_act 19 = .ok (.invokestatic 20, 3) := by decide +kernel
theorem dL_act_22 : decode cL_act 22 = .ok (.istore 4, 2) := by decide +kernel
theorem dL_act_24 : decode cL_act 24 = .ok (.iload_n 2, 1) := by decide +kernel
theorem dL_act_25 : decode cL_act 25 = .ok (.bipush 13, 2) := by decide +kernel
theorem dL_act_27 : decode cL_act 27 = .ok (.invokestatic 20, 3) := by decide +kernel
theorem dL_act_30 : decode cL_act 30 = .ok (.tableswitch 354 0 11 #[62, 73, 96, 123, 134, 143, 152, 222, 244, 277, 301, 318], 62) := by decide +kernel
theorem dL_act_92 : decode cL_act 92 = .ok (.aload_n 0, 1) := by decide +kernel
theorem dL_act_93 : decode cL_act 93 = .ok (.iload_n 3, 1) := by decide +kernel
theorem dL_act_94 : decode cL_act 94 = .ok (.iload 4, 2) := by decide +kernel
theorem dL_act_96 : decode cL_act 96 = .ok (.invokevirtual 80, 3) := by decide +kernel
theorem dL_act_99 : decode cL_act 99 = .ok (.pop, 1) := by decide +kernel
theorem dL_act_100 : decode cL_act 100 = .ok (.goto 317, 3) := by decide +kernel
theorem dL_act_103 : decode cL_act 103 = .ok (.aload_n 0, 1) := by decide +kernel
theorem dL_act_104 : decode cL_act 104 = .ok (.iload_n 3, 1) := by decide +kernel
theorem dL_act_105 : decode cL_act 105 = .ok (.iload 4, 2) := by decide +kernel
theorem dL_act_107 : decode cL_act 107 = .ok (.iload_n 2, 1) := by decide +kernel
theorem dL_act_108 : decode cL_act 108 = .ok (.bipush 9, 2) := by decide +kernel
theorem dL_act_110 : decode cL_act 110 = .ok (.ishr, 1) := by decide +kernel
theorem dL_act_111 : decode cL_act 111 = .ok (.aload_n 0, 1) := by decide +kernel
theorem dL_act_112 : decode cL_act 112 = .ok (.iload_n 3, 1) := by decide +kernel
theorem dL_act_113 : decode cL_act 113 = .ok (.invokevirtual 76, 3) := by decide +kernel
theorem dL_act_116 : decode cL_act 116 = .ok (.invokestatic 20, 3) := by decide +kernel
theorem dL_act_119 : decode cL_act 119 = .ok (.invokevirtual 83, 3) := by decide +kernel
theorem dL_act_122 : decode cL_act 122 = .ok (.pop, 1) := by decide +kernel
theorem dL_act_123 : decode cL_act 123 = .ok (.goto 294, 3) := by decide +kernel
theorem dL_act_126 : decode cL_act 126 = .ok (.aload_n 0, 1) := by decide +kernel
theorem dL_act_127 : decode cL_act 127 = .ok (.iload_n 3, 1) := by decide +kernel
theorem dL_act_128 : decode cL_act 128 = .ok (.iload 4, 2) := by decide +kernel
theorem dL_act_130 : decode cL_act 130 = .ok (.iload_n 2, 1) := by decide +kernel
theorem dL_act_131 : decode cL_act 131 = .ok (.bipush 8, 2) := by decide +kernel
theorem dL_act_133 : decode cL_act 133 = .ok (.ishr, 1) := by decide +kernel
theorem dL_act_134 : decode cL_act 134 = .ok (.iconst 3, 1) := by decide +kernel
theorem dL_act_135 : decode cL_act 135 = .ok (.invokestatic 20, 3) := by decide +kernel
theorem dL_act_138 : decode cL_act 138 = .ok (.ifCond .le 7, 3) := by decide +kernel
theorem dL_act_141 : decode cL_act 141 = .ok (.iconst 1, 1) := by decide +kernel
theorem dL_act_142 : decode cL_act 142 = .ok (.goto 4, 3) := by decide +kernel
theorem dL_act_145 : decode cL_act 145 = .ok (.iconst 0, 1) := by decide +kernel
theorem dL_act_146 : decode cL_act 146 = .ok (.invokevirtual 87, 3) := by decide +kernel
theorem dL_act_149 : decode cL_act 149 = .ok (.pop, 1) := by decide +kernel
theorem dL_act_150 : decode cL_act 150 = .ok (.goto 267, 3) := by decide +kernel
theorem dL_act_153 : decode cL_act 153 = .ok (.aload_n 0, 1) := by decide +kernel
theorem dL_act_154 : decode cL_act 154 = .ok (.iload_n 3, 1) := by decide +kernel
theorem dL_act_155 : decode cL_act 155 = .ok (.iload 4, 2) := by decide +kernel
theorem dL_act_157 : decode cL_act 157 = .ok (.invokevirtual 91, 3) := by decide +kernel
theorem dL_act_160 : decode cL_act 160 = .ok (.pop, 1) := by decide +kernel
theorem dL_act_161 : decode cL_act 161 = .ok (.goto 256, 3) := by decide +kernel
theorem dL_act_164 : decode cL_act 164 = .ok (.aload_n 0, 1) := by decide +kernel
theorem dL_act_165 : decode cL_act 165 = .ok (.iload_n 3, 1) := by decide +kernel
theorem dL_act_166 : decode cL_act 166 = .ok (.invokevirtual 94, 3) := by decide +kernel
theorem dL_act_169 : decode cL_act 169 = .ok (.pop, 1) := by decide +kernel
theorem dL_act_170 : decode cL_act 170 = .ok (.goto 247, 3) := by decide +kernel
theorem dL_act_173 : decode cL_act 173 = .ok (.aload_n 0, 1) := by decide +kernel
theorem dL_act_174 : decode cL_act 174 = .ok (.iload_n 3, 1) := by decide +kernel
theorem dL_act_175 : decode cL_act 175 = .ok (.invokevirtual 97, 3) := by decide +kernel
theorem dL_act_178 : decode cL_act 178 = .ok (.pop, 1) := by decide +kernel
theorem dL_act_179 : decode cL_act 179 = .ok (.goto 238, 3) := by decide +kernel
theorem dL_act_182 : decode cL_act 182 = .ok (.iconst 0, 1) := by decide +kernel
theorem dL_act_183 : decode cL_act 183 = .ok (.istore 5, 2) := by decide +kernel
theorem dL_act_185 : decode cL_act 185 = .ok (.iload 5, 2) := by decide +kernel
theorem dL_act_187 : decode cL_act 187 = .ok (.aload_n 1, 1) := by decide +kernel
theorem dL_act_188 : decode cL_act 188 = .ok (.getfield 62, 3) := by decide +kernel
theorem dL_act_191 : decode cL_act 191 = .ok (.if_icmp .ge 16, 3) := by decide +kernel
theorem dL_act_194 : decode cL_act 194 = .ok (.aload_n 0, 1) := by decide +kernel
theorem dL_act_195 : decode cL_act 195 = .ok (.iload 5, 2) := by decide +kernel
theorem dL_act_197 : decode cL_act 197 = .ok (.invokevirtual 97, 3) := by decide +kernel
theorem dL_act_200 : decode cL_act 200 = .ok (.pop, 1) := by decide +kernel
theorem dL_act_201 : decode cL_act 201 = .ok (.iinc 5 1, 3) := by decide +kernel
theorem dL_act_204 : decode cL_act 204 = .ok (.goto (-19), 3) := by decide +kernel
theorem dL_act_207 : decode cL_act 207 = .ok (.aload_n 0, 1) := by decide +kernel
theorem dL_act_208 : decode cL_act 208 = .ok (.iload_n 2, 1) := by decide +kernel
theorem dL_act_209 : decode cL_act 209 = .ok (.iconst 4, 1) := by decide +kernel
theorem dL_act_210 : decode cL_act 210 = .ok (.ishr, 1) := by decide +kernel
theorem dL_act_211 : decode cL_act 211 = .ok (.bipush 99, 2) := by decide +kernel
theorem dL_act_213 : decode cL_act 213 = .ok (.invokestatic 20, 3) := by decide +kernel
theorem dL_act_216 : decode cL_act 216 = .ok (.bipush 30, 2) := by decide +kernel
theorem dL_act_218 : decode cL_act 218 = .ok (.isub, 1) := by decide +kernel
theorem dL_act_219 : decode cL_act 219 = .ok (.invokevirtual 100, 3) := by decide +kernel
theorem dL_act_222 : decode cL_act 222 = .ok (.pop, 1) := by decide +kernel
theorem dL_act_223 : decode cL_act 223 = .ok (.iconst 0, 1) := by decide +kernel
theorem dL_act_224 : decode cL_act 224 = .ok (.istore 5, 2) := by decide +kernel
theorem dL_act_226 : decode cL_act 226 = .ok (.iload 5, 2) := by decide +kernel
theorem dL_act_228 : decode cL_act 228 = .ok (.aload_n 1, 1) := by decide +kernel
theorem dL_act_229 : decode cL_act 229 = .ok (.getfield 62, 3) := by decide +kernel
theorem dL_act_232 : decode cL_act 232 = .ok (.if_icmp .ge 17, 3) := by decide +kernel
theorem dL_act_235 : decode cL_act 235 = .ok (.aload_n 0, 1) := by decide +kernel
theorem dL_act_236 : decode cL_act 236 = .ok (.iload 5, 2) := by decide +kernel
theorem dL_act_238 : decode cL_act 238 = .ok (.iconst 0, 1) := by decide +kernel
theorem dL_act_239 : decode cL_act 239 = .ok (.invokevirtual 91, 3) := by decide +kernel
theorem dL_act_242 : decode cL_act 242 = .ok (.pop, 1) := by decide +kernel
theorem dL_act_243 : decode cL_act 243 = .ok (.iinc 5 1, 3) := by decide +kernel
theorem dL_act_246 : decode cL_act 246 = .ok (.goto (-20), 3) := by decide +kernel
theorem dL_act_249 : decode cL_act 249 = .ok (.goto 168, 3) := by decide +kernel
theorem dL_act_252 : decode cL_act 252 = .ok (.aload_n 0, 1) := by decide +kernel
theorem dL_act_253 : decode cL_act 253 = .ok (.iload_n 2, 1) := by decide +kernel
theorem dL_act_254 : decode cL_act 254 = .ok (.iconst 5, 1) := by decide +kernel
theorem dL_act_255 : decode cL_act 255 = .ok (.ishr, 1) := by decide +kernel
theorem dL_act_256 : decode cL_act 256 = .ok (.iconst 1, 1) := by decide +kernel
theorem dL_act_257 : decode cL_act 257 = .ok (.aload_n 0, 1) := by decide +kernel
theorem dL_act_258 : decode cL_act 258 = .ok (.invokevirtual 59, 3) := by decide +kernel
theorem dL_act_261 : decode cL_act 261 = .ok (.invokestatic 103, 3) := by decide +kernel
theorem dL_act_264 : decode cL_act 264 = .ok (.invokestatic 20, 3) := by decide +kernel
theorem dL_act_267 : decode cL_act 267 = .ok (.invokevirtual 108, 3) := by decide +kernel
theorem dL_act_270 : decode cL_act 270 = .ok (.pop, 1) := by decide +kernel
theorem dL_act_271 : decode cL_act 271 = .ok (.goto 146, 3) := by decide +kernel
theorem dL_act_274 : decode cL_act 274 = .ok (.aload_n 0, 1) := by decide +kernel
theorem dL_act_275 : decode cL_act 275 = .ok (.iload_n 3, 1) := by decide +kernel
theorem dL_act_276 : decode cL_act 276 = .ok (.iload_n 2, 1) := by decide +kernel
theorem dL_act_277 : decode cL_act 277 = .ok (.bipush 6, 2) := by decide +kernel
theorem dL_act_279 : decode cL_act 279 = .ok (.ishr, 1) := by decide +kernel
theorem dL_act_280 : decode cL_act 280 = .ok (.iconst 3, 1) := by decide +kernel
theorem dL_act_281 : decode cL_act 281 = .ok (.invokestatic 20, 3) := by decide +kernel
theorem dL_act_284 : decode cL_act 284 = .ok (.iload_n 3, 1) := by decide +kernel
theorem dL_act_285 : decode cL_act 285 = .ok (.iconst 1, 1) := by decide +kernel
theorem dL_act_286 : decode cL_act 286 = .ok (.iadd, 1) := by decide +kernel
theorem dL_act_287 : decode cL_act 287 = .ok (.aload_n 1, 1) := by decide +kernel
theorem dL_act_288 : decode cL_act 288 = .ok (.getfield 62, 3) := by decide +kernel
theorem dL_act_291 : decode cL_act 291 = .ok (.irem, 1) := by decide +kernel
theorem dL_act_292 : decode cL_act 292 = .ok (.iload_n 2, 1) := by decide +kernel
theorem dL_act_293 : decode cL_act 293 = .ok (.bipush 8, 2) := by decide +kernel
theorem dL_act_295 : decode cL_act 295 = .ok (.ishr, 1) := by decide +kernel
theorem dL_act_296 : decode cL_act 296 = .ok (.iconst 3, 1) := by decide +kernel
theorem dL_act_297 : decode cL_act 297 = .ok (.invokestatic 20, 3) := by decide +kernel
theorem dL_act_300 : decode cL_act 300 = .ok (.invokevirtual 111, 3) := by decide +kernel
theorem dL_act_303 : decode cL_act 303 = .ok (.pop, 1) := by decide +kernel
theorem dL_act_304 : decode cL_act 304 = .ok (.goto 113, 3) := by decide +kernel
theorem dL_act_307 : decode cL_act 307 = .ok (.aload_n 0, 1) := by decide +kernel
theorem dL_act_308 : decode cL_act 308 = .ok (.iload_n 2, 1) := by decide +kernel
theorem dL_act_309 : decode cL_act 309 = .ok (.bipush 6, 2) := by decide +kernel
theorem dL_act_311 : decode cL_act 311 = .ok (.ishr, 1) := by decide +kernel
theorem dL_act_312 : decode cL_act 312 = .ok (.iconst 2, 1) := by decide +kernel
theorem dL_act_313 : decode cL_act 313 = .ok (.invokestatic 20, 3) := by decide +kernel
theorem dL_act_316 : decode cL_act 316 = .ok (.ifCond .ne 7, 3) := by decide +kernel
theorem dL_act_319 : decode cL_act 319 = .ok (.iconst 1, 1) := by decide +kernel
theorem dL_act_320 : decode cL_act 320 = .ok (.goto 4, 3) := by decide +kernel
theorem dL_act_323 : decode cL_act 323 = .ok (.iconst 0, 1) := by decide +kernel
theorem dL_act_324 : decode cL_act 324 = .ok (.invokevirtual 115, 3) := by decide +kernel
theorem dL_act_327 : decode cL_act 327 = .ok (.pop, 1) := by decide +kernel
theorem dL_act_328 : decode cL_act 328 = .ok (.goto 89, 3) := by decide +kernel
theorem dL_act_331 : decode cL_act 331 = .ok (.aload_n 0, 1) := by decide +kernel
theorem dL_act_332 : decode cL_act 332 = .ok (.iload_n 3, 1) := by decide +kernel
theorem dL_act_333 : decode cL_act 333 = .ok (.iload_n 2, 1) := by decide +kernel
theorem dL_act_334 : decode cL_act 334 = .ok (.bipush 6, 2) := by decide +kernel
theorem dL_act_336 : decode cL_act 336 = .ok (.ishr, 1) := by decide +kernel
theorem dL_act_337 : decode cL_act 337 = .ok (.iconst 3, 1) := by decide +kernel
theorem dL_act_338 : decode cL_act 338 = .ok (.invokestatic 20, 3) := by decide +kernel
theorem dL_act_341 : decode cL_act 341 = .ok (.invokevirtual 70, 3) := by decide +kernel
theorem dL_act_344 : decode cL_act 344 = .ok (.pop, 1) := by decide +kernel
theorem dL_act_345 : decode cL_act 345 = .ok (.goto 72, 3) := by decide +kernel
theorem dL_act_348 : decode cL_act 348 = .ok (.iload_n 2, 1) := by decide +kernel
theorem dL_act_349 : decode cL_act 349 = .ok (.bipush 6, 2) := by decide +kernel
theorem dL_act_351 : decode cL_act 351 = .ok (.ishr, 1) := by decide +kernel
theorem dL_act_352 : decode cL_act 352 = .ok (.iconst 3, 1) := by decide +kernel
theorem dL_act_353 : decode cL_act 353 = .ok (.invokestatic 20, 3) := by decide +kernel
theorem dL_act_356 : decode cL_act 356 = .ok (.ifCond .le 11, 3) := by decide +kernel
theorem dL_act_359 : decode cL_act 359 = .ok (.aload_n 0, 1) := by decide +kernel
theorem dL_act_360 : decode cL_act 360 = .ok (.invokevirtual 119, 3) := by decide +kernel
theorem dL_act_363 : decode cL_act 363 = .ok (.pop, 1) := by decide +kernel
theorem dL_act_364 : decode cL_act 364 = .ok (.goto 53, 3) := by decide +kernel
theorem dL_act_367 : decode cL_act 367 = .ok (.aload_n 0, 1) := by decide +kernel
theorem dL_act_368 : decode cL_act 368 = .ok (.iload_n 2, 1) := by decide +kernel
theorem dL_act_369 : decode cL_act 369 = .ok (.bipush 8, 2) := by decide +kernel
theorem dL_act_371 : decode cL_act 371 = .ok (.ishr, 1) := by decide +kernel
theorem dL_act_372 : decode cL_act 372 = .ok (.bipush 6, 2) := by decide +kernel
theorem dL_act_374 : decode cL_act 374 = .ok (.invokestatic 20, 3) := by decide +kernel
theorem dL_act_377 : decode cL_act 377 = .ok (.invokevirtual 122, 3) := by decide +kernel
theorem dL_act_380 : decode cL_act 380 = .ok (.pop, 1) := by decide +kernel
theorem dL_act_381 : decode cL_act 381 = .ok (.goto 36, 3) := by decide +kernel
theorem dL_act_384 : decode cL_act 384 = .ok (.iload_n 2, 1) := by decide +kernel
theorem dL_act_385 : decode cL_act 385 = .ok (.bipush 6, 2) := by decide +kernel
theorem dL_act_387 : decode cL_act 387 = .ok (.ishr, 1) := by decide +kernel
theorem dL_act_388 : decode cL_act 388 = .ok (.iconst 3, 1) := by decide +kernel
theorem dL_act_389 : decode cL_act 389 = .ok (.invokestatic 20, 3) := by decide +kernel
theorem dL_act_392 : decode cL_act 392 = .ok (.ifCond .ne 20, 3) := by decide +kernel
theorem dL_act_395 : decode cL_act 395 = .ok (.aload_n 0, 1) := by decide +kernel
theorem dL_act_396 : decode cL_act 396 = .ok (.iload_n 2, 1) := by decide +kernel
theorem dL_act_397 : decode cL_act 397 = .ok (.bipush 8, 2) := by decide +kernel
theorem dL_act_399 : decode cL_act 399 = .ok (.ishr, 1) := by decide +kernel
theorem dL_act_400 : decode cL_act 400 = .ok (.bipush 6, 2) := by decide +kernel
theorem dL_act_402 : decode cL_act 402 = .ok (.invokestatic 20, 3) := by decide +kernel
theorem dL_act_405 : decode cL_act 405 = .ok (.invokevirtual 125, 3) := by decide +kernel
theorem dL_act_408 : decode cL_act 408 = .ok (.pop, 1) := by decide +kernel
theorem dL_act_409 : decode cL_act 409 = .ok (.goto 8, 3) := by decide +kernel
theorem dL_act_412 : decode cL_act 412 = .ok (.aload_n 0, 1) := by decide +kernel
theorem dL_act_413 : decode cL_act 413 = .ok (.invokevirtual 52, 3) := by decide +kernel
theorem dL_act_416 : decode cL_act 416 = .ok (.pop, 1) := by decide +kernel
theorem dL_act_417 : decode cL_act 417 = .ok (.goto 12, 3) := by decide +kernel
theorem dL_act_420 : decode cL_act 420 = .ok (.astore 5, 2) := by decide +kernel
theorem dL_act_422 : decode cL_act 422 = .ok (.return_, 1) := by decide +kernel
theorem dL_act_423 : decode cL_act 423 = .ok (.astore 5, 2) := by decide +kernel
theorem dL_act_425 : decode cL_act 425 = .ok (.return_, 1) := by decide +kernel
theorem dL_act_426 : decode cL_act 426 = .ok (.astore 5, 2) := by decide +kernel
theorem dL_act_428 : decode cL_act 428 = .ok (.return_, 1) := by decide +kernel
theorem dL_act_429 : decode cL_act 429 = .ok (.return_, 1) := by decide +kernel
/-! by program: wip/whole/gen.py out of wip/whole/src/46.act.eb -/
/-! the law's act -/
set_option maxRecDepth 100000 in
set_option maxHeartbeats 8000000 in
theorem c_L_act {l : Launch} {D : va_G} {cys : Nat → ClassId} {ad : Nat → Int → Nat} {L : List Nat} {g : Nat → va_E} {X : Int64} {Z : ZT} (hi : injA ad) {aw : Nat} {n v : Int} {Wd : List Int} (hst : l.stackTraces = false) (hV : IV n Wd Z) (hw : WRX cys ad L g aw n Wd) : CW l D cys ad yL_act cL_act 6 none [(24, 417, 420, 128), (24, 417, 423, 130), (24, 417, 426, 132)] 10 180 30 200 [.ref (ad 0 0), .ref aw, .int (iI v)] L g X Z (PVZ L g X Z (fun Z' => IV n Wd Z')) := by
  refine cw_start hi (by decide +kernel) (Nat.le_of_ble_eq_true rfl) ?_
  intro p_ e_ s_ m_ args_ below_ meth_ c_ A_ Q_ hQ G hr hT
  have hW := hV.1.1
  have hS := SP.rf Z
  have hn := hV.2.2.1
  have hn5 := hV.2.1
  obtain ⟨dp, v2, v3, v4, v5, v6, v7, v8, hO, hA, hl⟩ := hw
  have KX : ∀ (vs : List (Nat × Value)) (cells slots : Nat) (Z1 : ZT) (q h : Nat), no2 vs 5 = true → (h = 420 ∨ h = 423 ∨ h = 426) → cells ≤ 30 → slots ≤ 200 → IV n Wd Z1 → JJ p_ l e_ { frames := 10, cells := 30, slots := 200, locals := 180 } s_ m_ args_ below_ meth_ c_ D cys ad A_ Q_ 6 cells slots L g X Z1 h vs [.ref q] := by
    intro vs cells slots Z1 q h hno hh hc hs h1
    rcases hh with rfl | rfl | rfl
    · refine j_astore G dL_act_420 (by decide) hno ?_
      exact jr_VZ G hQ hr dL_act_422 hc hs h1
    · refine j_astore G dL_act_423 (by decide) hno ?_
      exact jr_VZ G hQ hr dL_act_425 hc hs h1
    · refine j_astore G dL_act_426 (by decide) hno ?_
      exact jr_VZ G hQ hr dL_act_428 hc hs h1
  have K417 : ∀ (vs : List (Nat × Value)) (cells slots : Nat) (Z1 : ZT), cells ≤ 30 → slots ≤ 200 → IV n Wd Z1 → JJ p_ l e_ { frames := 10, cells := 30, slots := 200, locals := 180 } s_ m_ args_ below_ meth_ c_ D cys ad A_ Q_ 6 cells slots L g X Z1 417 vs [] := by
    intro vs cells slots Z1 hc hs h1
    refine j_goto G 429 dL_act_417 (by decide) ?_
    exact jr_VZ G hQ hr dL_act_429 hc hs h1
  refine j_iload_n G dL_act_0 rfl ?_
  refine j_iconst G dL_act_1 ?_
  refine j_ishr G dL_act_2 (iI_of _).symm ?_
  refine j_aload_n G dL_act_3 rfl ?_
  refine jo_getN G 0 hO dL_act_4 rfl rfl (by decide) (List.mem_of_getElem? (i := 0) rfl) (Or.inl rfl) inT7 ?_
  refine j_cSI G csL_below mlL_20 rfl (c_L_below hi (by omega)) dL_act_7 ⟨by decide, by decide⟩ (by first | exact ⟨by decide, by decide⟩ | (constructor <;> dsimp only <;> omega)) rfl rfl (Nat.le_of_ble_eq_true rfl) (fun r7 h7 => ?_)
  refine j_istore_n G dL_act_10 (by decide) rfl ?_
  refine j_iload_n G dL_act_11 rfl ?_
  refine j_iconst G dL_act_12 ?_
  refine j_ishr G dL_act_13 (iI_of _).symm ?_
  refine j_aload_n G dL_act_14 rfl ?_
  refine j_iload_n G dL_act_15 rfl ?_
  refine j_cW_I G cvX6_members mlL_76 (cm_of (c_X6_members hi hst hS hW (by omega)) (by intro E9 L9 g9 X9 Z9 hx9; have hx9 := hx9.1; omega)) dL_act_16 (by first | exact ⟨by decide, by decide⟩ | (constructor <;> dsimp only <;> omega)) (by first | exact ⟨by decide, by decide⟩ | (constructor <;> dsimp only <;> omega)) rfl rfl (Nat.le_of_ble_eq_true rfl) (by first | assumption | decide) rfl rfl rfl (fun r16 h16 => ?_)
  obtain ⟨hd7, h16⟩ := h16
  have hTr := hW.t hd7.1 hd7.2
  have hT1 := hTr.1
  refine j_cSI G csL_below mlL_20 rfl (c_L_below hi (by omega)) dL_act_19 ⟨by decide, by decide⟩ (by first | exact ⟨by decide, by decide⟩ | (constructor <;> dsimp only <;> omega)) rfl rfl (Nat.le_of_ble_eq_true rfl) (fun r19 h19 => ?_)
  refine j_istore G dL_act_22 (by decide) rfl ?_
  refine j_iload_n G dL_act_24 rfl ?_
  refine j_bipush G dL_act_25 (by decide +kernel) ?_
  refine j_cSI G csL_below mlL_20 rfl (c_L_below hi (by decide)) dL_act_27 ⟨by decide, by decide⟩ (by first | exact ⟨by decide, by decide⟩ | (constructor <;> dsimp only <;> omega)) rfl rfl (Nat.le_of_ble_eq_true rfl) (fun r27 h27 => ?_)
  have G1 : ∀ (nn : Nat) (i : Int) (Z1 : ZT) (cells slots : Nat), (n - i).toNat = nn → 0 ≤ i → i ≤ n → IV n Wd Z1 → cells + 2 * nn ≤ 30 → slots + 12 * nn ≤ 200 → JJ p_ l e_ { frames := 10, cells := 30, slots := 200, locals := 180 } s_ m_ args_ below_ meth_ c_ D cys ad A_ Q_ 6 cells slots L g X Z1 226 [(0, .ref (ad 0 0)), (1, .ref aw), (2, .int (iI v)), (3, .int (iI r7)), (4, .int (iI r19)), (5, .int (iI i))] [] := by
    intro nn
    induction nn with
    | zero =>
      intro i Z1 cells slots hnn i0 i1 h1 hc hs
      refine j_iload G dL_act_226 rfl ?_
      refine j_aload_n G dL_act_228 rfl ?_
      refine jo_getN G 0 hO dL_act_229 rfl rfl (by decide) (List.mem_of_getElem? (i := 0) rfl) (Or.inl rfl) inT7 ?_
      refine j_icmp_ge G 249 dL_act_232 (by decide) (by omega) (by omega) (fun c232 => ?_) (fun c232 => ?_)
      · refine j_goto G 417 dL_act_249 (by decide) ?_
        exact K417 _ _ _ _ (by omega) (by omega) h1
      · exfalso; omega
    | succ nn ih =>
      intro i Z1 cells slots hnn i0 i1 h1 hc hs
      have hW1 := h1.1.1
      have e5 := h1.2.1
      refine j_iload G dL_act_226 rfl ?_
      refine j_aload_n G dL_act_228 rfl ?_
      refine jo_getN G 0 hO dL_act_229 rfl rfl (by decide) (List.mem_of_getElem? (i := 0) rfl) (Or.inl rfl) inT7 ?_
      refine j_icmp_ge G 249 dL_act_232 (by decide) (by omega) (by omega) (fun c232 => ?_) (fun c232 => ?_)
      · exfalso; omega
      · refine j_aload_n G dL_act_235 rfl ?_
        refine j_iload G dL_act_236 rfl ?_
        refine j_iconst G dL_act_238 ?_
        refine j_cA G hT (by decide) cvX6_goTo mlL_91 (c_X6_goTo hi hst (SP.rf Z1) hW1 (by omega) (by decide)) dL_act_239 (by first | exact ⟨by decide, by decide⟩ | (constructor <;> dsimp only <;> omega)) (by first | exact ⟨by decide, by decide⟩ | (constructor <;> dsimp only <;> omega)) rfl rfl (Nat.le_of_ble_eq_true rfl) (by first | assumption | decide) rfl rfl rfl (by intro E9 Z9 hx9; first | exact ⟨Or.inl hx9.1, hx9.2.2⟩ | exact ⟨Or.inr (Or.inl hx9.1), hx9.2.2⟩ | exact ⟨Or.inr (Or.inr hx9.1), hx9.2.2⟩ | (refine ⟨?_, hx9.2⟩; rcases hx9.1 with z | z <;> first | exact Or.inl z.1 | exact Or.inr (Or.inl z.1) | exact Or.inr (Or.inr z.1)) | (refine ⟨?_, hx9.2⟩; rcases hx9.1 with z | z | z <;> first | exact Or.inl z.1 | exact Or.inr (Or.inl z.1) | exact Or.inr (Or.inr z.1))) (fun q9 h9 e9 => ?_) (fun r239 Z239 h239 => ?_)
        · exact KX _ _ _ _ _ _ rfl e9 (by omega) (by omega) h1
        refine j_pop G dL_act_242 rfl ?_
        refine j_iinc G dL_act_243 rfl (by decide) rfl ?_
        refine j_goto G 226 dL_act_246 (by decide) ?_
        refine j_keep [0, 1, 2, 3, 4, 5] ?_
        exact ih (i + 1) Z239 _ _ (by omega) (by omega) (by omega) (h1.goTo h239.2.2 h239.1.2.1 h239.1.2.2.1 h239.1.2.2.2) (by omega) (by omega)
  have D1 : ∀ (nn : Nat) (i : Int) (Z1 : ZT) (cells slots : Nat), (n - i).toNat = nn → 0 ≤ i → i ≤ n → IV n Wd Z1 → cells + nn + 8 ≤ 30 → slots + 6 * nn + 48 ≤ 200 → JJ p_ l e_ { frames := 10, cells := 30, slots := 200, locals := 180 } s_ m_ args_ below_ meth_ c_ D cys ad A_ Q_ 6 cells slots L g X Z1 185 [(0, .ref (ad 0 0)), (1, .ref aw), (2, .int (iI v)), (3, .int (iI r7)), (4, .int (iI r19)), (5, .int (iI i))] [] := by
    intro nn
    induction nn with
    | zero =>
      intro i Z1 cells slots hnn i0 i1 h1 hc hs
      have hW1 := h1.1.1
      refine j_iload G dL_act_185 rfl ?_
      refine j_aload_n G dL_act_187 rfl ?_
      refine jo_getN G 0 hO dL_act_188 rfl rfl (by decide) (List.mem_of_getElem? (i := 0) rfl) (Or.inl rfl) inT7 ?_
      refine j_icmp_ge G 207 dL_act_191 (by decide) (by omega) (by omega) (fun c191 => ?_) (fun c191 => ?_)
      · refine j_aload_n G dL_act_207 rfl ?_
        refine j_iload_n G dL_act_208 rfl ?_
        refine j_iconst G dL_act_209 ?_
        refine j_ishr G dL_act_210 (iI_of _).symm ?_
        refine j_bipush G dL_act_211 (by decide +kernel) ?_
        refine j_cSI G csL_below mlL_20 rfl (c_L_below hi (by decide)) dL_act_213 ⟨by decide, by decide⟩ (by first | exact ⟨by decide, by decide⟩ | (constructor <;> dsimp only <;> omega)) rfl rfl (Nat.le_of_ble_eq_true rfl) (fun r213 h213 => ?_)
        refine j_bipush G dL_act_216 (by decide +kernel) ?_
        refine j_isub G dL_act_218 ?_
        refine j_cA G hT (by decide) cvX6_add mlL_100 (c_X6_add hi hst (SP.rf Z1) hW1 (by omega)) dL_act_219 (by first | exact ⟨by decide, by decide⟩ | (constructor <;> dsimp only <;> omega)) (by first | exact ⟨by decide, by decide⟩ | (constructor <;> dsimp only <;> omega)) rfl rfl (Nat.le_of_ble_eq_true rfl) (by first | assumption | decide) rfl rfl rfl (by intro E9 Z9 hx9; first | exact ⟨Or.inl hx9.1, hx9.2.2⟩ | exact ⟨Or.inr (Or.inl hx9.1), hx9.2.2⟩ | exact ⟨Or.inr (Or.inr hx9.1), hx9.2.2⟩ | (refine ⟨?_, hx9.2⟩; rcases hx9.1 with z | z <;> first | exact Or.inl z.1 | exact Or.inr (Or.inl z.1) | exact Or.inr (Or.inr z.1)) | (refine ⟨?_, hx9.2⟩; rcases hx9.1 with z | z | z <;> first | exact Or.inl z.1 | exact Or.inr (Or.inl z.1) | exact Or.inr (Or.inr z.1))) (fun q9 h9 e9 => ?_) (fun r219 Z219 h219 => ?_)
        · exact KX _ _ _ _ _ _ rfl e9 (by omega) (by omega) h1
        refine j_pop G dL_act_222 rfl ?_
        refine j_iconst G dL_act_223 ?_
        refine j_istore G dL_act_224 (by decide) rfl ?_
        refine j_keep [0, 1, 2, 3, 4, 5] ?_
        exact G1 _ 0 Z219 _ _ rfl (by omega) (by omega) (h1.add h219.2.2.2 h219.1.1 h219.1.2 h219.2.1.1.2 h219.2.1.2) (by omega) (by omega)
      · exfalso; omega
    | succ nn ih =>
      intro i Z1 cells slots hnn i0 i1 h1 hc hs
      have hW1 := h1.1.1
      have e5 := h1.2.1
      refine j_iload G dL_act_185 rfl ?_
      refine j_aload_n G dL_act_187 rfl ?_
      refine jo_getN G 0 hO dL_act_188 rfl rfl (by decide) (List.mem_of_getElem? (i := 0) rfl) (Or.inl rfl) inT7 ?_
      refine j_icmp_ge G 207 dL_act_191 (by decide) (by omega) (by omega) (fun c191 => ?_) (fun c191 => ?_)
      · exfalso; omega
      · refine j_aload_n G dL_act_194 rfl ?_
        refine j_iload G dL_act_195 rfl ?_
        refine j_cA G hT (by decide) cvX6_drill mlL_97 (c_X6_drill hi hst (SP.rf Z1) hW1 (by omega)) dL_act_197 (by first | exact ⟨by decide, by decide⟩ | (constructor <;> dsimp only <;> omega)) (by first | exact ⟨by decide, by decide⟩ | (constructor <;> dsimp only <;> omega)) rfl rfl (Nat.le_of_ble_eq_true rfl) (by first | assumption | decide) rfl rfl rfl (by intro E9 Z9 hx9; first | exact ⟨Or.inl hx9.1, hx9.2.2⟩ | exact ⟨Or.inr (Or.inl hx9.1), hx9.2.2⟩ | exact ⟨Or.inr (Or.inr hx9.1), hx9.2.2⟩ | (refine ⟨?_, hx9.2⟩; rcases hx9.1 with z | z <;> first | exact Or.inl z.1 | exact Or.inr (Or.inl z.1) | exact Or.inr (Or.inr z.1)) | (refine ⟨?_, hx9.2⟩; rcases hx9.1 with z | z | z <;> first | exact Or.inl z.1 | exact Or.inr (Or.inl z.1) | exact Or.inr (Or.inr z.1))) (fun q9 h9 e9 => ?_) (fun r197 Z197 h197 => ?_)
        · exact KX _ _ _ _ _ _ rfl e9 (by omega) (by omega) h1
        refine j_pop G dL_act_200 rfl ?_
        refine j_iinc G dL_act_201 rfl (by decide) rfl ?_
        refine j_goto G 185 dL_act_204 (by decide) ?_
        refine j_keep [0, 1, 2, 3, 4, 5] ?_
        exact ih (i + 1) Z197 _ _ (by omega) (by omega) (by omega) ((iv_drF i 3 Z1 h1 h197.1.1 h197.1.2).sp h197.2.2) (by omega) (by omega)
  have hcase : r27 = 0 ∨ r27 = 1 ∨ r27 = 2 ∨ r27 = 3 ∨ r27 = 4 ∨ r27 = 5 ∨ r27 = 6 ∨ r27 = 7 ∨ r27 = 8 ∨ r27 = 9 ∨ r27 = 10 ∨ r27 = 11 ∨ r27 = 12 := by omega
  rcases hcase with rfl | rfl | rfl | rfl | rfl | rfl | rfl | rfl | rfl | rfl | rfl | rfl | rfl
  · refine j_tabIn G 92 dL_act_30 (by decide) (by decide) (by decide) rfl (by decide) ?_
    refine j_aload_n G dL_act_92 rfl ?_
    refine j_iload_n G dL_act_93 rfl ?_
    refine j_iload G dL_act_94 rfl ?_
    refine j_cA G hT (by decide) cvX6_addMember mlL_80 (c_X6_addMember hi hst hS hW (by omega) (by omega)) dL_act_96 (by first | exact ⟨by decide, by decide⟩ | (constructor <;> dsimp only <;> omega)) (by first | exact ⟨by decide, by decide⟩ | (constructor <;> dsimp only <;> omega)) rfl rfl (Nat.le_of_ble_eq_true rfl) (by first | assumption | decide) rfl rfl rfl (by intro E9 Z9 hx9; first | exact ⟨Or.inl hx9.1, hx9.2.2⟩ | exact ⟨Or.inr (Or.inl hx9.1), hx9.2.2⟩ | exact ⟨Or.inr (Or.inr hx9.1), hx9.2.2⟩ | (refine ⟨?_, hx9.2⟩; rcases hx9.1 with z | z <;> first | exact Or.inl z.1 | exact Or.inr (Or.inl z.1) | exact Or.inr (Or.inr z.1)) | (refine ⟨?_, hx9.2⟩; rcases hx9.1 with z | z | z <;> first | exact Or.inl z.1 | exact Or.inr (Or.inl z.1) | exact Or.inr (Or.inr z.1))) (fun q9 h9 e9 => ?_) (fun r96 Z96 h96 => ?_)
    · exact KX _ _ _ _ _ _ rfl e9 (by omega) (by omega) hV
    refine j_pop G dL_act_99 rfl ?_
    refine j_goto G 417 dL_act_100 (by decide) ?_
    exact K417 _ _ _ _ (by omega) (by omega) (hV.addMember h96.2.2.2 h96.1.1 h96.1.2.1 h96.1.2.2.1 h96.1.2.2.2 h96.2.1.1 h96.2.1.2)
  · refine j_tabIn G 103 dL_act_30 (by decide) (by decide) (by decide) rfl (by decide) ?_
    refine j_aload_n G dL_act_103 rfl ?_
    refine j_iload_n G dL_act_104 rfl ?_
    refine j_iload G dL_act_105 rfl ?_
    refine j_iload_n G dL_act_107 rfl ?_
    refine j_bipush G dL_act_108 (by decide +kernel) ?_
    refine j_ishr G dL_act_110 (iI_of _).symm ?_
    refine j_aload_n G dL_act_111 rfl ?_
    refine j_iload_n G dL_act_112 rfl ?_
    refine j_cW_I G cvX6_members mlL_76 (cm_of (c_X6_members hi hst hS hW (by omega)) (by intro E9 L9 g9 X9 Z9 hx9; have hx9 := hx9.1; omega)) dL_act_113 (by first | exact ⟨by decide, by decide⟩ | (constructor <;> dsimp only <;> omega)) (by first | exact ⟨by decide, by decide⟩ | (constructor <;> dsimp only <;> omega)) rfl rfl (Nat.le_of_ble_eq_true rfl) (by first | assumption | decide) rfl rfl rfl (fun r113 h113 => ?_)
    obtain ⟨-, h113⟩ := h113
    refine j_cSI G csL_below mlL_20 rfl (c_L_below hi (by omega)) dL_act_116 ⟨by decide, by decide⟩ (by first | exact ⟨by decide, by decide⟩ | (constructor <;> dsimp only <;> omega)) rfl rfl (Nat.le_of_ble_eq_true rfl) (fun r116 h116 => ?_)
    refine j_cA G hT (by decide) cvX6_move mlL_83 (c_X6_move hi hst hS hW (by omega) (by omega) (by omega)) dL_act_119 (by first | exact ⟨by decide, by decide⟩ | (constructor <;> dsimp only <;> omega)) (by first | exact ⟨by decide, by decide⟩ | (constructor <;> dsimp only <;> omega)) rfl rfl (Nat.le_of_ble_eq_true rfl) (by first | assumption | decide) rfl rfl rfl (by intro E9 Z9 hx9; first | exact ⟨Or.inl hx9.1, hx9.2.2⟩ | exact ⟨Or.inr (Or.inl hx9.1), hx9.2.2⟩ | exact ⟨Or.inr (Or.inr hx9.1), hx9.2.2⟩ | (refine ⟨?_, hx9.2⟩; rcases hx9.1 with z | z <;> first | exact Or.inl z.1 | exact Or.inr (Or.inl z.1) | exact Or.inr (Or.inr z.1)) | (refine ⟨?_, hx9.2⟩; rcases hx9.1 with z | z | z <;> first | exact Or.inl z.1 | exact Or.inr (Or.inl z.1) | exact Or.inr (Or.inr z.1))) (fun q9 h9 e9 => ?_) (fun r119 Z119 h119 => ?_)
    · exact KX _ _ _ _ _ _ rfl e9 (by omega) (by omega) hV
    refine j_pop G dL_act_122 rfl ?_
    refine j_goto G 417 dL_act_123 (by decide) ?_
    exact K417 _ _ _ _ (by omega) (by omega) (hV.move h119.2.2.2 h119.1.1 h119.1.2.1 h119.1.2.2.1 h119.1.2.2.2.1 h119.1.2.2.2.2.1 h119.1.2.2.2.2.2 h119.2.1.1 h119.2.1.2)
  · refine j_tabIn G 126 dL_act_30 (by decide) (by decide) (by decide) rfl (by decide) ?_
    refine j_aload_n G dL_act_126 rfl ?_
    refine j_iload_n G dL_act_127 rfl ?_
    refine j_iload G dL_act_128 rfl ?_
    refine j_iload_n G dL_act_130 rfl ?_
    refine j_bipush G dL_act_131 (by decide +kernel) ?_
    refine j_ishr G dL_act_133 (iI_of _).symm ?_
    refine j_iconst G dL_act_134 ?_
    refine j_cSI G csL_below mlL_20 rfl (c_L_below hi (by decide)) dL_act_135 ⟨by decide, by decide⟩ (by first | exact ⟨by decide, by decide⟩ | (constructor <;> dsimp only <;> omega)) rfl rfl (Nat.le_of_ble_eq_true rfl) (fun r135 h135 => ?_)
    refine j_if_le G 145 dL_act_138 (by decide) (by omega) (fun c138 => ?_) (fun c138 => ?_)
    · refine j_iconst G dL_act_145 ?_
      refine j_cA G hT (by decide) cvX6_leaveOut mlL_87 (c_X6_leaveOut hi hst hS hW (by omega) (by omega) (by decide)) dL_act_146 (by first | exact ⟨by decide, by decide⟩ | (constructor <;> dsimp only <;> omega)) (by first | exact ⟨by decide, by decide⟩ | (constructor <;> dsimp only <;> omega)) rfl rfl (Nat.le_of_ble_eq_true rfl) (by first | assumption | decide) rfl rfl rfl (by intro E9 Z9 hx9; first | exact ⟨Or.inl hx9.1, hx9.2.2⟩ | exact ⟨Or.inr (Or.inl hx9.1), hx9.2.2⟩ | exact ⟨Or.inr (Or.inr hx9.1), hx9.2.2⟩ | (refine ⟨?_, hx9.2⟩; rcases hx9.1 with z | z <;> first | exact Or.inl z.1 | exact Or.inr (Or.inl z.1) | exact Or.inr (Or.inr z.1)) | (refine ⟨?_, hx9.2⟩; rcases hx9.1 with z | z | z <;> first | exact Or.inl z.1 | exact Or.inr (Or.inl z.1) | exact Or.inr (Or.inr z.1))) (fun q9 h9 e9 => ?_) (fun r146 Z146 h146 => ?_)
      · exact KX _ _ _ _ _ _ rfl e9 (by omega) (by omega) hV
      refine j_pop G dL_act_149 rfl ?_
      refine j_goto G 417 dL_act_150 (by decide) ?_
      exact K417 _ _ _ _ (by omega) (by omega) (hV.leaveOut h146.2.2 (by decide))
    · refine j_iconst G dL_act_141 ?_
      refine j_goto G 146 dL_act_142 (by decide) ?_
      refine j_cA G hT (by decide) cvX6_leaveOut mlL_87 (c_X6_leaveOut hi hst hS hW (by omega) (by omega) (by decide)) dL_act_146 (by first | exact ⟨by decide, by decide⟩ | (constructor <;> dsimp only <;> omega)) (by first | exact ⟨by decide, by decide⟩ | (constructor <;> dsimp only <;> omega)) rfl rfl (Nat.le_of_ble_eq_true rfl) (by first | assumption | decide) rfl rfl rfl (by intro E9 Z9 hx9; first | exact ⟨Or.inl hx9.1, hx9.2.2⟩ | exact ⟨Or.inr (Or.inl hx9.1), hx9.2.2⟩ | exact ⟨Or.inr (Or.inr hx9.1), hx9.2.2⟩ | (refine ⟨?_, hx9.2⟩; rcases hx9.1 with z | z <;> first | exact Or.inl z.1 | exact Or.inr (Or.inl z.1) | exact Or.inr (Or.inr z.1)) | (refine ⟨?_, hx9.2⟩; rcases hx9.1 with z | z | z <;> first | exact Or.inl z.1 | exact Or.inr (Or.inl z.1) | exact Or.inr (Or.inr z.1))) (fun q9 h9 e9 => ?_) (fun r146 Z146 h146 => ?_)
      · exact KX _ _ _ _ _ _ rfl e9 (by omega) (by omega) hV
      refine j_pop G dL_act_149 rfl ?_
      refine j_goto G 417 dL_act_150 (by decide) ?_
      exact K417 _ _ _ _ (by omega) (by omega) (hV.leaveOut h146.2.2 (by decide))
  · refine j_tabIn G 153 dL_act_30 (by decide) (by decide) (by decide) rfl (by decide) ?_
    refine j_aload_n G dL_act_153 rfl ?_
    refine j_iload_n G dL_act_154 rfl ?_
    refine j_iload G dL_act_155 rfl ?_
    refine j_cA G hT (by decide) cvX6_goTo mlL_91 (c_X6_goTo hi hst hS hW (by omega) (by omega)) dL_act_157 (by first | exact ⟨by decide, by decide⟩ | (constructor <;> dsimp only <;> omega)) (by first | exact ⟨by decide, by decide⟩ | (constructor <;> dsimp only <;> omega)) rfl rfl (Nat.le_of_ble_eq_true rfl) (by first | assumption | decide) rfl rfl rfl (by intro E9 Z9 hx9; first | exact ⟨Or.inl hx9.1, hx9.2.2⟩ | exact ⟨Or.inr (Or.inl hx9.1), hx9.2.2⟩ | exact ⟨Or.inr (Or.inr hx9.1), hx9.2.2⟩ | (refine ⟨?_, hx9.2⟩; rcases hx9.1 with z | z <;> first | exact Or.inl z.1 | exact Or.inr (Or.inl z.1) | exact Or.inr (Or.inr z.1)) | (refine ⟨?_, hx9.2⟩; rcases hx9.1 with z | z | z <;> first | exact Or.inl z.1 | exact Or.inr (Or.inl z.1) | exact Or.inr (Or.inr z.1))) (fun q9 h9 e9 => ?_) (fun r157 Z157 h157 => ?_)
    · exact KX _ _ _ _ _ _ rfl e9 (by omega) (by omega) hV
    refine j_pop G dL_act_160 rfl ?_
    refine j_goto G 417 dL_act_161 (by decide) ?_
    exact K417 _ _ _ _ (by omega) (by omega) (hV.goTo h157.2.2 h157.1.2.1 h157.1.2.2.1 h157.1.2.2.2)
  · refine j_tabIn G 164 dL_act_30 (by decide) (by decide) (by decide) rfl (by decide) ?_
    refine j_aload_n G dL_act_164 rfl ?_
    refine j_iload_n G dL_act_165 rfl ?_
    refine j_cA G hT (by decide) cvX6_goUp mlL_94 (c_X6_goUp hi hst hS hW (by omega)) dL_act_166 (by first | exact ⟨by decide, by decide⟩ | (constructor <;> dsimp only <;> omega)) (by first | exact ⟨by decide, by decide⟩ | (constructor <;> dsimp only <;> omega)) rfl rfl (Nat.le_of_ble_eq_true rfl) (by first | assumption | decide) rfl rfl rfl (by intro E9 Z9 hx9; first | exact ⟨Or.inl hx9.1, hx9.2.2⟩ | exact ⟨Or.inr (Or.inl hx9.1), hx9.2.2⟩ | exact ⟨Or.inr (Or.inr hx9.1), hx9.2.2⟩ | (refine ⟨?_, hx9.2⟩; rcases hx9.1 with z | z <;> first | exact Or.inl z.1 | exact Or.inr (Or.inl z.1) | exact Or.inr (Or.inr z.1)) | (refine ⟨?_, hx9.2⟩; rcases hx9.1 with z | z | z <;> first | exact Or.inl z.1 | exact Or.inr (Or.inl z.1) | exact Or.inr (Or.inr z.1))) (fun q9 h9 e9 => ?_) (fun r166 Z166 h166 => ?_)
    · exact KX _ _ _ _ _ _ rfl e9 (by omega) (by omega) hV
    refine j_pop G dL_act_169 rfl ?_
    refine j_goto G 417 dL_act_170 (by decide) ?_
    refine K417 _ _ _ _ (by omega) (by omega) ?_
    rcases h166.2 with z | z
    · exact hV.sp z.2.2
    · have hp := (hTr.at (m := Z 2 r7 5) (by omega) (by omega)).2.2.2 (by omega)
      exact hV.goTo z.2.2 h166.1.2 hp.1 hp.2.1
  · refine j_tabIn G 173 dL_act_30 (by decide) (by decide) (by decide) rfl (by decide) ?_
    refine j_aload_n G dL_act_173 rfl ?_
    refine j_iload_n G dL_act_174 rfl ?_
    refine j_cA G hT (by decide) cvX6_drill mlL_97 (c_X6_drill hi hst hS hW (by omega)) dL_act_175 (by first | exact ⟨by decide, by decide⟩ | (constructor <;> dsimp only <;> omega)) (by first | exact ⟨by decide, by decide⟩ | (constructor <;> dsimp only <;> omega)) rfl rfl (Nat.le_of_ble_eq_true rfl) (by first | assumption | decide) rfl rfl rfl (by intro E9 Z9 hx9; first | exact ⟨Or.inl hx9.1, hx9.2.2⟩ | exact ⟨Or.inr (Or.inl hx9.1), hx9.2.2⟩ | exact ⟨Or.inr (Or.inr hx9.1), hx9.2.2⟩ | (refine ⟨?_, hx9.2⟩; rcases hx9.1 with z | z <;> first | exact Or.inl z.1 | exact Or.inr (Or.inl z.1) | exact Or.inr (Or.inr z.1)) | (refine ⟨?_, hx9.2⟩; rcases hx9.1 with z | z | z <;> first | exact Or.inl z.1 | exact Or.inr (Or.inl z.1) | exact Or.inr (Or.inr z.1))) (fun q9 h9 e9 => ?_) (fun r175 Z175 h175 => ?_)
    · exact KX _ _ _ _ _ _ rfl e9 (by omega) (by omega) hV
    refine j_pop G dL_act_178 rfl ?_
    refine j_goto G 417 dL_act_179 (by decide) ?_
    exact K417 _ _ _ _ (by omega) (by omega) ((iv_drF r7 3 Z hV h175.1.1 h175.1.2).sp h175.2.2)
  · refine j_tabIn G 182 dL_act_30 (by decide) (by decide) (by decide) rfl (by decide) ?_
    refine j_iconst G dL_act_182 ?_
    refine j_istore G dL_act_183 (by decide) rfl ?_
    refine j_keep [0, 1, 2, 3, 4, 5] ?_
    exact D1 _ 0 Z _ _ rfl (by omega) (by omega) hV (by omega) (by omega)
  · refine j_tabIn G 252 dL_act_30 (by decide) (by decide) (by decide) rfl (by decide) ?_
    refine j_aload_n G dL_act_252 rfl ?_
    refine j_iload_n G dL_act_253 rfl ?_
    refine j_iconst G dL_act_254 ?_
    refine j_ishr G dL_act_255 (iI_of _).symm ?_
    refine j_iconst G dL_act_256 ?_
    refine j_aload_n G dL_act_257 rfl ?_
    refine j_cVI G cvX6_facts mlL_59 (c_X6_facts hi ) dL_act_258 ⟨by decide, by decide⟩ (by first | exact ⟨by decide, by decide⟩ | (constructor <;> dsimp only <;> omega)) rfl rfl (Nat.le_of_ble_eq_true rfl) (by first | assumption | decide) rfl rfl rfl (fun r258 h258 => ?_)
    have hf := hW.f
    have hmx : 1 ≤ (if (1 : Int) < r258 then r258 else 1) ∧ (if (1 : Int) < r258 then r258 else 1) ≤ 1000 := by split <;> omega
    refine j_max G (TW_of 875 (by decide +kernel) (by decide +kernel)) (TW_of 396 (by decide +kernel) (by decide +kernel)) (TW_of 57 (by decide +kernel) (by decide +kernel)) (TW_of 397 (by decide +kernel) (by decide +kernel)) dL_act_261 (by decide) (Nat.le_of_ble_eq_true rfl) (by decide) (by decide) (by omega) (by omega) ?_
    refine j_cSI G csL_below mlL_20 rfl (c_L_below hi hmx) dL_act_264 ⟨by decide, by decide⟩ (by first | exact ⟨by decide, by decide⟩ | (constructor <;> dsimp only <;> omega)) rfl rfl (Nat.le_of_ble_eq_true rfl) (fun r264 h264 => ?_)
    refine j_cA G hT (by decide) cvX6_drop mlL_108 (c_X6_drop hi hst hS hW (by split at h264 <;> omega)) dL_act_267 (by first | exact ⟨by decide, by decide⟩ | (constructor <;> dsimp only <;> omega)) (by first | exact ⟨by decide, by decide⟩ | (constructor <;> dsimp only <;> omega)) rfl rfl (Nat.le_of_ble_eq_true rfl) (by first | assumption | decide) rfl rfl rfl (by intro E9 Z9 hx9; first | exact ⟨Or.inl hx9.1, hx9.2.2⟩ | exact ⟨Or.inr (Or.inl hx9.1), hx9.2.2⟩ | exact ⟨Or.inr (Or.inr hx9.1), hx9.2.2⟩ | (refine ⟨?_, hx9.2⟩; rcases hx9.1 with z | z <;> first | exact Or.inl z.1 | exact Or.inr (Or.inl z.1) | exact Or.inr (Or.inr z.1)) | (refine ⟨?_, hx9.2⟩; rcases hx9.1 with z | z | z <;> first | exact Or.inl z.1 | exact Or.inr (Or.inl z.1) | exact Or.inr (Or.inr z.1))) (fun q9 h9 e9 => ?_) (fun r267 Z267 h267 => ?_)
    · exact KX _ _ _ _ _ _ rfl e9 (by omega) (by omega) hV
    refine j_pop G dL_act_270 rfl ?_
    refine j_goto G 417 dL_act_271 (by decide) ?_
    exact K417 _ _ _ _ (by omega) (by omega) (hV.drop h267.2.2 h267.1.1 h267.1.2)
  · refine j_tabIn G 274 dL_act_30 (by decide) (by decide) (by decide) rfl (by decide) ?_
    refine j_aload_n G dL_act_274 rfl ?_
    refine j_iload_n G dL_act_275 rfl ?_
    refine j_iload_n G dL_act_276 rfl ?_
    refine j_bipush G dL_act_277 (by decide +kernel) ?_
    refine j_ishr G dL_act_279 (iI_of _).symm ?_
    refine j_iconst G dL_act_280 ?_
    refine j_cSI G csL_below mlL_20 rfl (c_L_below hi (by decide)) dL_act_281 ⟨by decide, by decide⟩ (by first | exact ⟨by decide, by decide⟩ | (constructor <;> dsimp only <;> omega)) rfl rfl (Nat.le_of_ble_eq_true rfl) (fun r281 h281 => ?_)
    refine j_iload_n G dL_act_284 rfl ?_
    refine j_iconst G dL_act_285 ?_
    refine j_iadd G dL_act_286 ?_
    refine j_aload_n G dL_act_287 rfl ?_
    refine jo_getN G 0 hO dL_act_288 rfl rfl (by decide) (List.mem_of_getElem? (i := 0) rfl) (Or.inl rfl) inT7 ?_
    refine j_irem G (by omega) (by omega) (by have h := rem31 (z := (r7 + 1).toNat) (n := n.toNat) (by omega) (by omega) (by omega); rw [show (((r7 + 1).toNat : Nat) : Int) = r7 + 1 by omega, show ((n.toNat : Nat) : Int) = n by omega] at h; exact h) dL_act_291 ?_
    have hmm := Nat.mod_lt (r7 + 1).toNat (show 0 < n.toNat by omega)
    refine j_iload_n G dL_act_292 rfl ?_
    refine j_bipush G dL_act_293 (by decide +kernel) ?_
    refine j_ishr G dL_act_295 (iI_of _).symm ?_
    refine j_iconst G dL_act_296 ?_
    refine j_cSI G csL_below mlL_20 rfl (c_L_below hi (by decide)) dL_act_297 ⟨by decide, by decide⟩ (by first | exact ⟨by decide, by decide⟩ | (constructor <;> dsimp only <;> omega)) rfl rfl (Nat.le_of_ble_eq_true rfl) (fun r297 h297 => ?_)
    refine j_cA G hT (by decide) cvX6_setAxes mlL_111 (c_X6_setAxes hi hst hS hW (by omega) (by omega) (by omega) (by omega)) dL_act_300 (by first | exact ⟨by decide, by decide⟩ | (constructor <;> dsimp only <;> omega)) (by first | exact ⟨by decide, by decide⟩ | (constructor <;> dsimp only <;> omega)) rfl rfl (Nat.le_of_ble_eq_true rfl) (by first | assumption | decide) rfl rfl rfl (by intro E9 Z9 hx9; first | exact ⟨Or.inl hx9.1, hx9.2.2⟩ | exact ⟨Or.inr (Or.inl hx9.1), hx9.2.2⟩ | exact ⟨Or.inr (Or.inr hx9.1), hx9.2.2⟩ | (refine ⟨?_, hx9.2⟩; rcases hx9.1 with z | z <;> first | exact Or.inl z.1 | exact Or.inr (Or.inl z.1) | exact Or.inr (Or.inr z.1)) | (refine ⟨?_, hx9.2⟩; rcases hx9.1 with z | z | z <;> first | exact Or.inl z.1 | exact Or.inr (Or.inl z.1) | exact Or.inr (Or.inr z.1))) (fun q9 h9 e9 => ?_) (fun r300 Z300 h300 => ?_)
    · exact KX _ _ _ _ _ _ rfl e9 (by omega) (by omega) hV
    refine j_pop G dL_act_303 rfl ?_
    refine j_goto G 417 dL_act_304 (by decide) ?_
    exact K417 _ _ _ _ (by omega) (by omega) ((hV.axes h300.1.1 h300.1.2.1 h300.1.2.2.1 h300.1.2.2.2 h300.2.1.1 h300.2.1.2.1 h300.2.1.2.2.1 h300.2.1.2.2.2 h300.2.2.1).sp h300.2.2.2.2)
  · refine j_tabIn G 307 dL_act_30 (by decide) (by decide) (by decide) rfl (by decide) ?_
    refine j_aload_n G dL_act_307 rfl ?_
    refine j_iload_n G dL_act_308 rfl ?_
    refine j_bipush G dL_act_309 (by decide +kernel) ?_
    refine j_ishr G dL_act_311 (iI_of _).symm ?_
    refine j_iconst G dL_act_312 ?_
    refine j_cSI G csL_below mlL_20 rfl (c_L_below hi (by decide)) dL_act_313 ⟨by decide, by decide⟩ (by first | exact ⟨by decide, by decide⟩ | (constructor <;> dsimp only <;> omega)) rfl rfl (Nat.le_of_ble_eq_true rfl) (fun r313 h313 => ?_)
    refine j_if_ne G 323 dL_act_316 (by decide) (by omega) (fun c316 => ?_) (fun c316 => ?_)
    · refine j_iconst G dL_act_323 ?_
      refine j_cVIZ G cvX6_setBare mlL_115 (c_X6_setBare hi (by decide) hW.ba) dL_act_324 ⟨by decide, by decide⟩ (by first | exact ⟨by decide, by decide⟩ | (constructor <;> dsimp only <;> omega)) rfl rfl (Nat.le_of_ble_eq_true rfl) (by first | assumption | decide) rfl rfl rfl (fun r324 Z324 h324 => ?_)
      refine j_pop G dL_act_327 rfl ?_
      refine j_goto G 417 dL_act_328 (by decide) ?_
      refine K417 _ _ _ _ (by omega) (by omega) ?_
      rw [h324.2]
      exact hV.bare (M_0.z Z 8 _) (by decide)
    · refine j_iconst G dL_act_319 ?_
      refine j_goto G 324 dL_act_320 (by decide) ?_
      refine j_cVIZ G cvX6_setBare mlL_115 (c_X6_setBare hi (by decide) hW.ba) dL_act_324 ⟨by decide, by decide⟩ (by first | exact ⟨by decide, by decide⟩ | (constructor <;> dsimp only <;> omega)) rfl rfl (Nat.le_of_ble_eq_true rfl) (by first | assumption | decide) rfl rfl rfl (fun r324 Z324 h324 => ?_)
      refine j_pop G dL_act_327 rfl ?_
      refine j_goto G 417 dL_act_328 (by decide) ?_
      refine K417 _ _ _ _ (by omega) (by omega) ?_
      rw [h324.2]
      exact hV.bare (M_0.z Z 8 _) (by decide)
  · refine j_tabIn G 331 dL_act_30 (by decide) (by decide) (by decide) rfl (by decide) ?_
    refine j_aload_n G dL_act_331 rfl ?_
    refine j_iload_n G dL_act_332 rfl ?_
    refine j_iload_n G dL_act_333 rfl ?_
    refine j_bipush G dL_act_334 (by decide +kernel) ?_
    refine j_ishr G dL_act_336 (iI_of _).symm ?_
    refine j_iconst G dL_act_337 ?_
    refine j_cSI G csL_below mlL_20 rfl (c_L_below hi (by decide)) dL_act_338 ⟨by decide, by decide⟩ (by first | exact ⟨by decide, by decide⟩ | (constructor <;> dsimp only <;> omega)) rfl rfl (Nat.le_of_ble_eq_true rfl) (fun r338 h338 => ?_)
    refine j_cA G hT (by decide) cvX6_setLevel mlL_70 (c_X6_setLevel2 hi hst hS hW (by omega) (by omega)) dL_act_341 (by first | exact ⟨by decide, by decide⟩ | (constructor <;> dsimp only <;> omega)) (by first | exact ⟨by decide, by decide⟩ | (constructor <;> dsimp only <;> omega)) rfl rfl (Nat.le_of_ble_eq_true rfl) (by first | assumption | decide) rfl rfl rfl (by intro E9 Z9 hx9; first | exact ⟨Or.inl hx9.1, hx9.2.2⟩ | exact ⟨Or.inr (Or.inl hx9.1), hx9.2.2⟩ | exact ⟨Or.inr (Or.inr hx9.1), hx9.2.2⟩ | (refine ⟨?_, hx9.2⟩; rcases hx9.1 with z | z <;> first | exact Or.inl z.1 | exact Or.inr (Or.inl z.1) | exact Or.inr (Or.inr z.1)) | (refine ⟨?_, hx9.2⟩; rcases hx9.1 with z | z | z <;> first | exact Or.inl z.1 | exact Or.inr (Or.inl z.1) | exact Or.inr (Or.inr z.1))) (fun q9 h9 e9 => ?_) (fun r341 Z341 h341 => ?_)
    · exact KX _ _ _ _ _ _ rfl e9 (by omega) (by omega) hV
    refine j_pop G dL_act_344 rfl ?_
    refine j_goto G 417 dL_act_345 (by decide) ?_
    exact K417 _ _ _ _ (by omega) (by omega) ((hV.lvS h341.1.1 (by omega) h341.1.2.2.1 h341.1.2.2.2).sp h341.2.2)
  · refine j_tabIn G 348 dL_act_30 (by decide) (by decide) (by decide) rfl (by decide) ?_
    refine j_iload_n G dL_act_348 rfl ?_
    refine j_bipush G dL_act_349 (by decide +kernel) ?_
    refine j_ishr G dL_act_351 (iI_of _).symm ?_
    refine j_iconst G dL_act_352 ?_
    refine j_cSI G csL_below mlL_20 rfl (c_L_below hi (by decide)) dL_act_353 ⟨by decide, by decide⟩ (by first | exact ⟨by decide, by decide⟩ | (constructor <;> dsimp only <;> omega)) rfl rfl (Nat.le_of_ble_eq_true rfl) (fun r353 h353 => ?_)
    refine j_if_le G 367 dL_act_356 (by decide) (by omega) (fun c356 => ?_) (fun c356 => ?_)
    · refine j_aload_n G dL_act_367 rfl ?_
      refine j_iload_n G dL_act_368 rfl ?_
      refine j_bipush G dL_act_369 (by decide +kernel) ?_
      refine j_ishr G dL_act_371 (iI_of _).symm ?_
      refine j_bipush G dL_act_372 (by decide +kernel) ?_
      refine j_cSI G csL_below mlL_20 rfl (c_L_below hi (by decide)) dL_act_374 ⟨by decide, by decide⟩ (by first | exact ⟨by decide, by decide⟩ | (constructor <;> dsimp only <;> omega)) rfl rfl (Nat.le_of_ble_eq_true rfl) (fun r374 h374 => ?_)
      refine j_cA G hT (by decide) cvX6_refresh mlL_122 (c_X6_refresh hi hst hS hW (by omega)) dL_act_377 (by first | exact ⟨by decide, by decide⟩ | (constructor <;> dsimp only <;> omega)) (by first | exact ⟨by decide, by decide⟩ | (constructor <;> dsimp only <;> omega)) rfl rfl (Nat.le_of_ble_eq_true rfl) (by first | assumption | decide) rfl rfl rfl (by intro E9 Z9 hx9; first | exact ⟨Or.inl hx9.1, hx9.2.2⟩ | exact ⟨Or.inr (Or.inl hx9.1), hx9.2.2⟩ | exact ⟨Or.inr (Or.inr hx9.1), hx9.2.2⟩ | (refine ⟨?_, hx9.2⟩; rcases hx9.1 with z | z <;> first | exact Or.inl z.1 | exact Or.inr (Or.inl z.1) | exact Or.inr (Or.inr z.1)) | (refine ⟨?_, hx9.2⟩; rcases hx9.1 with z | z | z <;> first | exact Or.inl z.1 | exact Or.inr (Or.inl z.1) | exact Or.inr (Or.inr z.1))) (fun q9 h9 e9 => ?_) (fun r377 Z377 h377 => ?_)
      · exact KX _ _ _ _ _ _ rfl e9 (by omega) (by omega) hV
      refine j_pop G dL_act_380 rfl ?_
      refine j_goto G 417 dL_act_381 (by decide) ?_
      first
        | exact K417 _ _ _ _ (by omega) (by omega) (hV.keep h360.2.2 h360.1)
        | exact K417 _ _ _ _ (by omega) (by omega) (hV.refresh h377.2.2)
    · refine j_aload_n G dL_act_359 rfl ?_
      refine j_cA G hT (by decide) cvX6_keep mlL_119 (c_X6_keep hi hst hS hW hV.1.2) dL_act_360 (by first | exact ⟨by decide, by decide⟩ | (constructor <;> dsimp only <;> omega)) (by first | exact ⟨by decide, by decide⟩ | (constructor <;> dsimp only <;> omega)) rfl rfl (Nat.le_of_ble_eq_true rfl) (by first | assumption | decide) rfl rfl rfl (by intro E9 Z9 hx9; first | exact ⟨Or.inl hx9.1, hx9.2.2⟩ | exact ⟨Or.inr (Or.inl hx9.1), hx9.2.2⟩ | exact ⟨Or.inr (Or.inr hx9.1), hx9.2.2⟩ | (refine ⟨?_, hx9.2⟩; rcases hx9.1 with z | z <;> first | exact Or.inl z.1 | exact Or.inr (Or.inl z.1) | exact Or.inr (Or.inr z.1)) | (refine ⟨?_, hx9.2⟩; rcases hx9.1 with z | z | z <;> first | exact Or.inl z.1 | exact Or.inr (Or.inl z.1) | exact Or.inr (Or.inr z.1))) (fun q9 h9 e9 => ?_) (fun r360 Z360 h360 => ?_)
      · exact KX _ _ _ _ _ _ rfl e9 (by omega) (by omega) hV
      refine j_pop G dL_act_363 rfl ?_
      refine j_goto G 417 dL_act_364 (by decide) ?_
      first
        | exact K417 _ _ _ _ (by omega) (by omega) (hV.keep h360.2.2 h360.1)
        | exact K417 _ _ _ _ (by omega) (by omega) (hV.refresh h377.2.2)
  · refine j_tabOut G 384 dL_act_30 (by decide) (by decide) (by decide) ?_
    refine j_iload_n G dL_act_384 rfl ?_
    refine j_bipush G dL_act_385 (by decide +kernel) ?_
    refine j_ishr G dL_act_387 (iI_of _).symm ?_
    refine j_iconst G dL_act_388 ?_
    refine j_cSI G csL_below mlL_20 rfl (c_L_below hi (by decide)) dL_act_389 ⟨by decide, by decide⟩ (by first | exact ⟨by decide, by decide⟩ | (constructor <;> dsimp only <;> omega)) rfl rfl (Nat.le_of_ble_eq_true rfl) (fun r389 h389 => ?_)
    refine j_if_ne G 412 dL_act_392 (by decide) (by omega) (fun c392 => ?_) (fun c392 => ?_)
    · refine j_aload_n G dL_act_412 rfl ?_
      refine j_cVIZ G cvX6_advise mlL_52 (c_X6_advise hi hS hW) dL_act_413 ⟨by decide, by decide⟩ (by first | exact ⟨by decide, by decide⟩ | (constructor <;> dsimp only <;> omega)) rfl rfl (Nat.le_of_ble_eq_true rfl) (by first | assumption | decide) rfl rfl rfl (fun r413 Z413 h413 => ?_)
      refine j_pop G dL_act_416 rfl ?_
      first
        | exact K417 _ _ _ _ (by omega) (by omega) (hV.dropView h405.2.2 h405.1.1 h405.1.2)
        | exact K417 _ _ _ _ (by omega) (by omega) (hV.ad h413.2)
    · refine j_aload_n G dL_act_395 rfl ?_
      refine j_iload_n G dL_act_396 rfl ?_
      refine j_bipush G dL_act_397 (by decide +kernel) ?_
      refine j_ishr G dL_act_399 (iI_of _).symm ?_
      refine j_bipush G dL_act_400 (by decide +kernel) ?_
      refine j_cSI G csL_below mlL_20 rfl (c_L_below hi (by decide)) dL_act_402 ⟨by decide, by decide⟩ (by first | exact ⟨by decide, by decide⟩ | (constructor <;> dsimp only <;> omega)) rfl rfl (Nat.le_of_ble_eq_true rfl) (fun r402 h402 => ?_)
      refine j_cA G hT (by decide) cvX6_dropView mlL_125 (c_X6_dropView hi hst hS hW (by omega)) dL_act_405 (by first | exact ⟨by decide, by decide⟩ | (constructor <;> dsimp only <;> omega)) (by first | exact ⟨by decide, by decide⟩ | (constructor <;> dsimp only <;> omega)) rfl rfl (Nat.le_of_ble_eq_true rfl) (by first | assumption | decide) rfl rfl rfl (by intro E9 Z9 hx9; first | exact ⟨Or.inl hx9.1, hx9.2.2⟩ | exact ⟨Or.inr (Or.inl hx9.1), hx9.2.2⟩ | exact ⟨Or.inr (Or.inr hx9.1), hx9.2.2⟩ | (refine ⟨?_, hx9.2⟩; rcases hx9.1 with z | z <;> first | exact Or.inl z.1 | exact Or.inr (Or.inl z.1) | exact Or.inr (Or.inr z.1)) | (refine ⟨?_, hx9.2⟩; rcases hx9.1 with z | z | z <;> first | exact Or.inl z.1 | exact Or.inr (Or.inl z.1) | exact Or.inr (Or.inr z.1))) (fun q9 h9 e9 => ?_) (fun r405 Z405 h405 => ?_)
      · exact KX _ _ _ _ _ _ rfl e9 (by omega) (by omega) hV
      refine j_pop G dL_act_408 rfl ?_
      refine j_goto G 417 dL_act_409 (by decide) ?_
      first
        | exact K417 _ _ _ _ (by omega) (by omega) (hV.dropView h405.2.2 h405.1.1 h405.1.2)
        | exact K417 _ _ _ _ (by omega) (by omega) (hV.ad h413.2)

