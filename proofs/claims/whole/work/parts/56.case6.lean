/-! by program: wip/whole/genl.py: cases of the law's switch -/
theorem dL_law_2211 : decode code 2211 = .ok (.aload_n 1, 1) := by decide +kernel
theorem dL_law_2212 : decode code 2212 = .ok (.invokevirtual 254, 3) := by decide +kernel
theorem dL_law_2215 : decode code 2215 = .ok (.aload_n 2, 1) := by decide +kernel
theorem dL_law_2216 : decode code 2216 = .ok (.invokevirtual 257, 3) := by decide +kernel
theorem dL_law_2219 : decode code 2219 = .ok (.if_icmp .eq 359, 3) := by decide +kernel
theorem dL_law_2224 : decode code 2224 = .ok (.aload_n 1, 1) := by decide +kernel
theorem dL_law_2225 : decode code 2225 = .ok (.aload_n 3, 1) := by decide +kernel
theorem dL_law_2226 : decode code 2226 = .ok (.invokestatic 258, 3) := by decide +kernel
theorem dL_law_2229 : decode code 2229 = .ok (.istore 5, 2) := by decide +kernel
theorem dL_law_2231 : decode code 2231 = .ok (.aload_n 2, 1) := by decide +kernel
theorem dL_law_2232 : decode code 2232 = .ok (.invokevirtual 260, 3) := by decide +kernel
theorem dL_law_2235 : decode code 2235 = .ok (.istore 6, 2) := by decide +kernel
theorem dL_law_2237 : decode code 2237 = .ok (.aload_n 2, 1) := by decide +kernel
theorem dL_law_2238 : decode code 2238 = .ok (.invokevirtual 131, 3) := by decide +kernel
theorem dL_law_2241 : decode code 2241 = .ok (.iload 5, 2) := by decide +kernel
theorem dL_law_2243 : decode code 2243 = .ok (.if_icmp .eq 5, 3) := by decide +kernel
theorem dL_law_2248 : decode code 2248 = .ok (.iload 5, 2) := by decide +kernel
theorem dL_law_2250 : decode code 2250 = .ok (.ifCond .ne 15, 3) := by decide +kernel
theorem dL_law_2253 : decode code 2253 = .ok (.aload_n 3, 1) := by decide +kernel
theorem dL_law_2254 : decode code 2254 = .ok (.iconst 0, 1) := by decide +kernel
theorem dL_law_2255 : decode code 2255 = .ok (.laload, 1) := by decide +kernel
theorem dL_law_2256 : decode code 2256 = .ok (.iload 6, 2) := by decide +kernel
theorem dL_law_2258 : decode code 2258 = .ok (.i2l, 1) := by decide +kernel
theorem dL_law_2259 : decode code 2259 = .ok (.lcmp, 1) := by decide +kernel
theorem dL_law_2260 : decode code 2260 = .ok (.ifCond .eq 5, 3) := by decide +kernel
theorem dL_law_2265 : decode code 2265 = .ok (.goto 313, 3) := by decide +kernel
theorem dL_law_2268 : decode code 2268 = .ok (.aload_n 1, 1) := by decide +kernel
theorem dL_law_2269 : decode code 2269 = .ok (.aload_n 0, 1) := by decide +kernel
theorem dL_law_2270 : decode code 2270 = .ok (.iload 4, 2) := by decide +kernel
theorem dL_law_2272 : decode code 2272 = .ok (.iconst 1, 1) := by decide +kernel
theorem dL_law_2273 : decode code 2273 = .ok (.iadd, 1) := by decide +kernel
theorem dL_law_2274 : decode code 2274 = .ok (.iaload, 1) := by decide +kernel
theorem dL_law_2275 : decode code 2275 = .ok (.aload_n 3, 1) := by decide +kernel
theorem dL_law_2276 : decode code 2276 = .ok (.invokestatic 261, 3) := by decide +kernel
theorem dL_law_2279 : decode code 2279 = .ok (.istore 5, 2) := by decide +kernel
theorem dL_law_2281 : decode code 2281 = .ok (.aload_n 2, 1) := by decide +kernel
theorem dL_law_2282 : decode code 2282 = .ok (.aload_n 0, 1) := by decide +kernel
theorem dL_law_2283 : decode code 2283 = .ok (.iload 4, 2) := by decide +kernel
theorem dL_law_2285 : decode code 2285 = .ok (.iconst 1, 1) := by decide +kernel
theorem dL_law_2286 : decode code 2286 = .ok (.iadd, 1) := by decide +kernel
theorem dL_law_2287 : decode code 2287 = .ok (.iaload, 1) := by decide +kernel
theorem dL_law_2288 : decode code 2288 = .ok (.invokevirtual 263, 3) := by decide +kernel
theorem dL_law_2291 : decode code 2291 = .ok (.istore 6, 2) := by decide +kernel
theorem dL_law_2293 : decode code 2293 = .ok (.aload_n 2, 1) := by decide +kernel
theorem dL_law_2294 : decode code 2294 = .ok (.invokevirtual 131, 3) := by decide +kernel
theorem dL_law_2297 : decode code 2297 = .ok (.iload 5, 2) := by decide +kernel
theorem dL_law_2299 : decode code 2299 = .ok (.if_icmp .eq 5, 3) := by decide +kernel
theorem dL_law_2304 : decode code 2304 = .ok (.iload 5, 2) := by decide +kernel
theorem dL_law_2306 : decode code 2306 = .ok (.ifCond .ne 15, 3) := by decide +kernel
theorem dL_law_2309 : decode code 2309 = .ok (.aload_n 3, 1) := by decide +kernel
theorem dL_law_2310 : decode code 2310 = .ok (.iconst 0, 1) := by decide +kernel
theorem dL_law_2311 : decode code 2311 = .ok (.laload, 1) := by decide +kernel
theorem dL_law_2312 : decode code 2312 = .ok (.iload 6, 2) := by decide +kernel
theorem dL_law_2314 : decode code 2314 = .ok (.i2l, 1) := by decide +kernel
theorem dL_law_2315 : decode code 2315 = .ok (.lcmp, 1) := by decide +kernel
theorem dL_law_2316 : decode code 2316 = .ok (.ifCond .eq 5, 3) := by decide +kernel
theorem dL_law_2321 : decode code 2321 = .ok (.goto 257, 3) := by decide +kernel
theorem dL_law_2324 : decode code 2324 = .ok (.aload_n 1, 1) := by decide +kernel
theorem dL_law_2325 : decode code 2325 = .ok (.aload_n 0, 1) := by decide +kernel
theorem dL_law_2326 : decode code 2326 = .ok (.iload 4, 2) := by decide +kernel
theorem dL_law_2328 : decode code 2328 = .ok (.iconst 1, 1) := by decide +kernel
theorem dL_law_2329 : decode code 2329 = .ok (.iadd, 1) := by decide +kernel
theorem dL_law_2330 : decode code 2330 = .ok (.iaload, 1) := by decide +kernel
theorem dL_law_2331 : decode code 2331 = .ok (.aload_n 3, 1) := by decide +kernel
theorem dL_law_2332 : decode code 2332 = .ok (.invokestatic 264, 3) := by decide +kernel
theorem dL_law_2335 : decode code 2335 = .ok (.istore 5, 2) := by decide +kernel
theorem dL_law_2337 : decode code 2337 = .ok (.aload_n 2, 1) := by decide +kernel
theorem dL_law_2338 : decode code 2338 = .ok (.aload_n 0, 1) := by decide +kernel
theorem dL_law_2339 : decode code 2339 = .ok (.iload 4, 2) := by decide +kernel
theorem dL_law_2341 : decode code 2341 = .ok (.iconst 1, 1) := by decide +kernel
theorem dL_law_2342 : decode code 2342 = .ok (.iadd, 1) := by decide +kernel
theorem dL_law_2343 : decode code 2343 = .ok (.iaload, 1) := by decide +kernel
theorem dL_law_2344 : decode code 2344 = .ok (.invokevirtual 266, 3) := by decide +kernel
theorem dL_law_2347 : decode code 2347 = .ok (.istore 6, 2) := by decide +kernel
theorem dL_law_2349 : decode code 2349 = .ok (.aload_n 2, 1) := by decide +kernel
theorem dL_law_2350 : decode code 2350 = .ok (.invokevirtual 131, 3) := by decide +kernel
theorem dL_law_2353 : decode code 2353 = .ok (.iload 5, 2) := by decide +kernel
theorem dL_law_2355 : decode code 2355 = .ok (.if_icmp .eq 5, 3) := by decide +kernel
theorem dL_law_2360 : decode code 2360 = .ok (.iload 5, 2) := by decide +kernel
theorem dL_law_2362 : decode code 2362 = .ok (.ifCond .ne 15, 3) := by decide +kernel
theorem dL_law_2365 : decode code 2365 = .ok (.aload_n 3, 1) := by decide +kernel
theorem dL_law_2366 : decode code 2366 = .ok (.iconst 0, 1) := by decide +kernel
theorem dL_law_2367 : decode code 2367 = .ok (.laload, 1) := by decide +kernel
theorem dL_law_2368 : decode code 2368 = .ok (.iload 6, 2) := by decide +kernel
theorem dL_law_2370 : decode code 2370 = .ok (.i2l, 1) := by decide +kernel
theorem dL_law_2371 : decode code 2371 = .ok (.lcmp, 1) := by decide +kernel
theorem dL_law_2372 : decode code 2372 = .ok (.ifCond .eq 5, 3) := by decide +kernel
theorem dL_law_2377 : decode code 2377 = .ok (.goto 201, 3) := by decide +kernel
theorem dL_law_2380 : decode code 2380 = .ok (.aload_n 1, 1) := by decide +kernel
theorem dL_law_2381 : decode code 2381 = .ok (.invokevirtual 267, 3) := by decide +kernel
theorem dL_law_2384 : decode code 2384 = .ok (.aload_n 2, 1) := by decide +kernel
theorem dL_law_2385 : decode code 2385 = .ok (.invokevirtual 270, 3) := by decide +kernel
theorem dL_law_2388 : decode code 2388 = .ok (.if_icmp .eq 190, 3) := by decide +kernel
theorem dL_law_2393 : decode code 2393 = .ok (.aload_n 1, 1) := by decide +kernel
theorem dL_law_2394 : decode code 2394 = .ok (.aload_n 0, 1) := by decide +kernel
theorem dL_law_2395 : decode code 2395 = .ok (.iload 4, 2) := by decide +kernel
theorem dL_law_2397 : decode code 2397 = .ok (.iconst 1, 1) := by decide +kernel
theorem dL_law_2398 : decode code 2398 = .ok (.iadd, 1) := by decide +kernel
theorem dL_law_2399 : decode code 2399 = .ok (.iaload, 1) := by decide +kernel
theorem dL_law_2400 : decode code 2400 = .ok (.aload_n 3, 1) := by decide +kernel
theorem dL_law_2401 : decode code 2401 = .ok (.invokestatic 271, 3) := by decide +kernel
theorem dL_law_2404 : decode code 2404 = .ok (.istore 5, 2) := by decide +kernel
theorem dL_law_2406 : decode code 2406 = .ok (.aload_n 2, 1) := by decide +kernel
theorem dL_law_2407 : decode code 2407 = .ok (.aload_n 0, 1) := by decide +kernel
theorem dL_law_2408 : decode code 2408 = .ok (.iload 4, 2) := by decide +kernel
theorem dL_law_2410 : decode code 2410 = .ok (.iconst 1, 1) := by decide +kernel
theorem dL_law_2411 : decode code 2411 = .ok (.iadd, 1) := by decide +kernel
theorem dL_law_2412 : decode code 2412 = .ok (.iaload, 1) := by decide +kernel
theorem dL_law_2413 : decode code 2413 = .ok (.invokevirtual 273, 3) := by decide +kernel
theorem dL_law_2416 : decode code 2416 = .ok (.istore 6, 2) := by decide +kernel
theorem dL_law_2418 : decode code 2418 = .ok (.aload_n 2, 1) := by decide +kernel
theorem dL_law_2419 : decode code 2419 = .ok (.invokevirtual 131, 3) := by decide +kernel
theorem dL_law_2422 : decode code 2422 = .ok (.iload 5, 2) := by decide +kernel
theorem dL_law_2424 : decode code 2424 = .ok (.if_icmp .eq 5, 3) := by decide +kernel
theorem dL_law_2429 : decode code 2429 = .ok (.iload 5, 2) := by decide +kernel
theorem dL_law_2431 : decode code 2431 = .ok (.ifCond .ne 15, 3) := by decide +kernel
theorem dL_law_2434 : decode code 2434 = .ok (.aload_n 3, 1) := by decide +kernel
theorem dL_law_2435 : decode code 2435 = .ok (.iconst 0, 1) := by decide +kernel
theorem dL_law_2436 : decode code 2436 = .ok (.laload, 1) := by decide +kernel
theorem dL_law_2437 : decode code 2437 = .ok (.iload 6, 2) := by decide +kernel
theorem dL_law_2439 : decode code 2439 = .ok (.i2l, 1) := by decide +kernel
theorem dL_law_2440 : decode code 2440 = .ok (.lcmp, 1) := by decide +kernel
theorem dL_law_2441 : decode code 2441 = .ok (.ifCond .eq 5, 3) := by decide +kernel
theorem dL_law_2446 : decode code 2446 = .ok (.goto 132, 3) := by decide +kernel
set_option maxRecDepth 100000 in
set_option maxHeartbeats 8000000 in
theorem case_36 {p : Program} {l : Launch} {e : Env} {s : State} {m : MethodId} {below : List Frame} {meth : Method} {c : Code} {Q : State → Prop} {D : va_G} {cys : Nat → ClassId} {ad : Nat → Int → Nat} {b Ls : Nat} {xs : Nat → Int32} (hi : injA ad) (hst : l.stackTraces = false) (G : GG p l s m #[Value.ref b] meth c D cys ad (fun q => s.heap.size ≤ q) code RL 9) (hN : NCS s) (hk4 : HK4 cys s) (hX : va_X b Ls xs s s.heap) (hbl : b < s.heap.size) (hL : Ls ≤ 2560) {L : List Nat} {g : Nat → va_E} {X : Int64} {Z : ZT} {ao : Nat} (hI : INV cys ad ao L g Z) {i : Int} (hi0 : 0 ≤ i) (hi5 : i + 5 ≤ Ls) {cells slots : Nat} (hc : cells + 200 ≤ 601024) (hs : slots + 3000 ≤ 7293034)
    (K : ∀ (L1 : List Nat) (g1 : Nat → va_E) (X1 : Int64) (Z1 : ZT), INV cys ad ao L1 g1 Z1 → JJ p l e room_1 s m #[Value.ref b] below meth c D cys ad (fun q => s.heap.size ≤ q) Q 9 (cells + 200) (slots + 3000) L1 g1 X1 Z1 2578 (LV5 b ad ao i) []) :
    JJ p l e room_1 s m #[Value.ref b] below meth c D cys ad (fun q => s.heap.size ≤ q) Q 9 cells slots L g X Z 2211 (LV5 b ad ao i) [] := by
  obtain ⟨hG, hRL, ⟨hao, hns, h33⟩, v0, hgo⟩ := hI
  have hW := hG.1.1
  have hbA : ¬ (fun q => s.heap.size ≤ q) b := Nat.not_le.mpr hbl
  refine j_aload_n G dL_law_2211 rfl ?_
  refine j_cVIZ G cvX6_cellCount mlL_254 (c_X6_cellCount hi (SP.rf Z) hW) dL_law_2212 ⟨by decide, by decide⟩ ⟨by rw [r1c]; omega, by rw [r1s]; omega⟩ rfl rfl (Nat.le_of_ble_eq_true rfl) (by decide) rfl rfl rfl (fun r Z1 h => ?_)
  obtain ⟨hr, hS⟩ := h
  have hR1 : RMZ Z Z1 := hG.2.hi (HI.sp hS)
  have hRL1 := hRL
  refine j_aload_n G dL_law_2215 rfl ?_
  refine j_cVIZ G cvX7_cellCount mlL_257 (c_X7_cellCount hi hR1 hRL1 hW) dL_law_2216 ⟨by decide, by decide⟩ ⟨by rw [r1c]; omega, by rw [r1s]; omega⟩ rfl rfl (Nat.le_of_ble_eq_true rfl) (by decide) rfl rfl rfl (fun x Z2 h2 => ?_)
  obtain ⟨hx, hM⟩ := h2
  have hq := ag_ask hG hS hM
  have hrx : r = x := hr.trans hx.symm
  refine j_icmpS G 2578 dL_law_2219 (by decide) hrx ?_
  refine j_keep [0, 1, 2, 3, 4] ?_
  refine j_wid (cells' := cells + 200) (slots' := slots + 3000) (by omega) (by omega) ?_
  exact K _ _ _ _ ⟨hq.1, hq.2.1 cys ad _ _ hRL, ⟨hao, hns, h33⟩, v0, hgo⟩
set_option maxRecDepth 100000 in
set_option maxHeartbeats 8000000 in
theorem case_37 {p : Program} {l : Launch} {e : Env} {s : State} {m : MethodId} {below : List Frame} {meth : Method} {c : Code} {Q : State → Prop} {D : va_G} {cys : Nat → ClassId} {ad : Nat → Int → Nat} {b Ls : Nat} {xs : Nat → Int32} (hi : injA ad) (hst : l.stackTraces = false) (G : GG p l s m #[Value.ref b] meth c D cys ad (fun q => s.heap.size ≤ q) code RL 9) (hN : NCS s) (hk4 : HK4 cys s) (hX : va_X b Ls xs s s.heap) (hbl : b < s.heap.size) (hL : Ls ≤ 2560) {L : List Nat} {g : Nat → va_E} {X : Int64} {Z : ZT} {ao : Nat} (hI : INV cys ad ao L g Z) {i : Int} (hi0 : 0 ≤ i) (hi5 : i + 5 ≤ Ls) {cells slots : Nat} (hc : cells + 200 ≤ 601024) (hs : slots + 3000 ≤ 7293034)
    (K : ∀ (L1 : List Nat) (g1 : Nat → va_E) (X1 : Int64) (Z1 : ZT), INV cys ad ao L1 g1 Z1 → JJ p l e room_1 s m #[Value.ref b] below meth c D cys ad (fun q => s.heap.size ≤ q) Q 9 (cells + 200) (slots + 3000) L1 g1 X1 Z1 2578 (LV5 b ad ao i) []) :
    JJ p l e room_1 s m #[Value.ref b] below meth c D cys ad (fun q => s.heap.size ≤ q) Q 9 cells slots L g X Z 2224 (LV5 b ad ao i) [] := by
  obtain ⟨hG, hRL, ⟨hao, hns, h33⟩, v0, hgo⟩ := hI
  have hW := hG.1.1
  have hbA : ¬ (fun q => s.heap.size ≤ q) b := Nat.not_le.mpr hbl
  refine j_aload_n G dL_law_2224 rfl ?_
  refine j_aload_n G dL_law_2225 rfl ?_
  refine j_callW (n := 2) G hN (TW_of 907 (by decide +kernel) (by decide +kernel)) (TW_of 71 (by decide +kernel) (by decide +kernel)) (TW_of 908 (by decide +kernel) (by decide +kernel)) ⟨by decide +kernel, by decide +kernel, by decide +kernel⟩ (TW_of 906 (by decide +kernel) (by decide +kernel)) (cw_keep hi hst (SP.rf Z) hW hG.1.2 hao hns hgo) dL_law_2226 ⟨by decide, by decide⟩ ⟨by rw [r1c]; omega, by rw [r1s]; omega⟩ rfl rfl (Nat.le_of_ble_eq_true rfl) (fun k L1 g1 X1 Z1 h => ?_)
  obtain ⟨eL, eX, v9, eg, hA⟩ := h
  subst L1 X1 g1
  have hR1 : RMZ Z Z1 := hG.2.hi (hi_keep hA)
  have hRL1 := hRL.out h33 hgo v9
  have hgo1 : va_up g ao (OUT cys v9) ao = OUT cys v9 := va_up_self _ _ _
  refine j_istore G dL_law_2229 (by decide) rfl ?_
  refine j_aload_n G dL_law_2231 rfl ?_
  refine j_cVIZ G cvX7_keep mlL_260 (c_X7_keep hi hR1 hRL1 hW) dL_law_2232 ⟨by decide, by decide⟩ ⟨by rw [r1c]; omega, by rw [r1s]; omega⟩ rfl rfl (Nat.le_of_ble_eq_true rfl) (by decide) rfl rfl rfl (fun x Z2 hB => ?_)
  have hag := ag_keep hG hA hB
  have hRL2 := hag.2.1 cys ad _ _ hRL1
  refine j_istore G dL_law_2235 (by decide) rfl ?_
  refine j_aload_n G dL_law_2237 rfl ?_
  refine j_cVI G cvX7_thrown mlL_131 (c_X7_thrown hi) dL_law_2238 ⟨by decide, by decide⟩ ⟨by rw [r1c]; omega, by rw [r1s]; omega⟩ rfl rfl (Nat.le_of_ble_eq_true rfl) (by decide) rfl rfl rfl (fun t ht => ?_)
  refine j_iload G dL_law_2241 rfl ?_
  refine j_icmpS G 2248 dL_law_2243 (by decide) (ht.trans hag.2.2.1) ?_
  refine j_iload G dL_law_2248 rfl ?_
  have hk02 := hag.2.2.2.2
  refine j_if_ne G 2265 dL_law_2250 (by decide) (by omega) (fun c0 => ?_) (fun c0 => ?_)
  · refine j_goto G 2578 dL_law_2265 (by decide) ?_
    refine j_keep [0, 1, 2, 3, 4] ?_
    refine j_wid (cells' := cells + 200) (slots' := slots + 3000) (by omega) (by omega) ?_
    exact K _ _ _ _ ⟨hag.1, hRL2, ⟨hao, hns, h33⟩, v9, hgo1⟩
  · refine j_aload_n G dL_law_2253 rfl ?_
    refine j_iconst G dL_law_2254 ?_
    refine j_laldO G dL_law_2255 hao hns hgo1 ?_
    refine j_iload G dL_law_2256 rfl ?_
    refine j_i2l G dL_law_2258 ?_
    refine j_lcmpS G dL_law_2259 (hag.2.2.2.1 c0) ?_
    refine j_if_eq G 2265 dL_law_2260 (by decide) (by decide) (fun _ => ?_) (fun h => absurd rfl h)
    refine j_goto G 2578 dL_law_2265 (by decide) ?_
    refine j_keep [0, 1, 2, 3, 4] ?_
    refine j_wid (cells' := cells + 200) (slots' := slots + 3000) (by omega) (by omega) ?_
    exact K _ _ _ _ ⟨hag.1, hRL2, ⟨hao, hns, h33⟩, v9, hgo1⟩
set_option maxRecDepth 100000 in
set_option maxHeartbeats 8000000 in
theorem case_38 {p : Program} {l : Launch} {e : Env} {s : State} {m : MethodId} {below : List Frame} {meth : Method} {c : Code} {Q : State → Prop} {D : va_G} {cys : Nat → ClassId} {ad : Nat → Int → Nat} {b Ls : Nat} {xs : Nat → Int32} (hi : injA ad) (hst : l.stackTraces = false) (G : GG p l s m #[Value.ref b] meth c D cys ad (fun q => s.heap.size ≤ q) code RL 9) (hN : NCS s) (hk4 : HK4 cys s) (hX : va_X b Ls xs s s.heap) (hbl : b < s.heap.size) (hL : Ls ≤ 2560) {L : List Nat} {g : Nat → va_E} {X : Int64} {Z : ZT} {ao : Nat} (hI : INV cys ad ao L g Z) {i : Int} (hi0 : 0 ≤ i) (hi5 : i + 5 ≤ Ls) {cells slots : Nat} (hc : cells + 200 ≤ 601024) (hs : slots + 3000 ≤ 7293034)
    (K : ∀ (L1 : List Nat) (g1 : Nat → va_E) (X1 : Int64) (Z1 : ZT), INV cys ad ao L1 g1 Z1 → JJ p l e room_1 s m #[Value.ref b] below meth c D cys ad (fun q => s.heap.size ≤ q) Q 9 (cells + 200) (slots + 3000) L1 g1 X1 Z1 2578 (LV5 b ad ao i) []) :
    JJ p l e room_1 s m #[Value.ref b] below meth c D cys ad (fun q => s.heap.size ≤ q) Q 9 cells slots L g X Z 2268 (LV5 b ad ao i) [] := by
  obtain ⟨hG, hRL, ⟨hao, hns, h33⟩, v0, hgo⟩ := hI
  have hW := hG.1.1
  have hbA : ¬ (fun q => s.heap.size ≤ q) b := Nat.not_le.mpr hbl
  refine j_aload_n G dL_law_2268 rfl ?_
  refine j_aload_n G dL_law_2269 rfl ?_
  refine j_iload G dL_law_2270 rfl ?_
  refine j_iconst G dL_law_2272 ?_
  refine j_iadd G dL_law_2273 ?_
  refine j_sld G hX hbl hbA dL_law_2274 (by omega) (by omega) hL ?_
  refine j_aload_n G dL_law_2275 rfl ?_
  refine j_callW (n := 3) G hN (TW_of 920 (by decide +kernel) (by decide +kernel)) (TW_of 71 (by decide +kernel) (by decide +kernel)) (TW_of 921 (by decide +kernel) (by decide +kernel)) ⟨by decide +kernel, by decide +kernel, by decide +kernel⟩ (TW_of 919 (by decide +kernel) (by decide +kernel)) (cw_dropView hi hst (SP.rf Z) hW (sv_in _ _) hao hns hgo) dL_law_2276 ⟨by decide, by decide⟩ ⟨by rw [r1c]; omega, by rw [r1s]; omega⟩ rfl rfl (Nat.le_of_ble_eq_true rfl) (fun k L1 g1 X1 Z1 h => ?_)
  obtain ⟨eL, eX, v9, eg, hA⟩ := h
  subst L1 X1 g1
  have hR1 : RMZ Z Z1 := hG.2.hi (hi_dropView hA)
  have hRL1 := hRL.out h33 hgo v9
  have hgo1 : va_up g ao (OUT cys v9) ao = OUT cys v9 := va_up_self _ _ _
  refine j_istore G dL_law_2279 (by decide) rfl ?_
  refine j_aload_n G dL_law_2281 rfl ?_
  refine j_aload_n G dL_law_2282 rfl ?_
  refine j_iload G dL_law_2283 rfl ?_
  refine j_iconst G dL_law_2285 ?_
  refine j_iadd G dL_law_2286 ?_
  refine j_sld G hX hbl hbA dL_law_2287 (by omega) (by omega) hL ?_
  refine j_cVIZ G cvX7_dropView mlL_263 (c_X7_dropView hi hR1 hW (sv_in _ _)) dL_law_2288 ⟨by decide, by decide⟩ ⟨by rw [r1c]; omega, by rw [r1s]; omega⟩ rfl rfl (Nat.le_of_ble_eq_true rfl) (by decide) rfl rfl rfl (fun x Z2 hB => ?_)
  have hag := ag_dropView hG hA hB
  have hRL2 := hag.2.1 cys ad _ _ hRL1
  refine j_istore G dL_law_2291 (by decide) rfl ?_
  refine j_aload_n G dL_law_2293 rfl ?_
  refine j_cVI G cvX7_thrown mlL_131 (c_X7_thrown hi) dL_law_2294 ⟨by decide, by decide⟩ ⟨by rw [r1c]; omega, by rw [r1s]; omega⟩ rfl rfl (Nat.le_of_ble_eq_true rfl) (by decide) rfl rfl rfl (fun t ht => ?_)
  refine j_iload G dL_law_2297 rfl ?_
  refine j_icmpS G 2304 dL_law_2299 (by decide) (ht.trans hag.2.2.1) ?_
  refine j_iload G dL_law_2304 rfl ?_
  have hk02 := hag.2.2.2.2
  refine j_if_ne G 2321 dL_law_2306 (by decide) (by omega) (fun c0 => ?_) (fun c0 => ?_)
  · refine j_goto G 2578 dL_law_2321 (by decide) ?_
    refine j_keep [0, 1, 2, 3, 4] ?_
    refine j_wid (cells' := cells + 200) (slots' := slots + 3000) (by omega) (by omega) ?_
    exact K _ _ _ _ ⟨hag.1, hRL2, ⟨hao, hns, h33⟩, v9, hgo1⟩
  · refine j_aload_n G dL_law_2309 rfl ?_
    refine j_iconst G dL_law_2310 ?_
    refine j_laldO G dL_law_2311 hao hns hgo1 ?_
    refine j_iload G dL_law_2312 rfl ?_
    refine j_i2l G dL_law_2314 ?_
    refine j_lcmpS G dL_law_2315 (hag.2.2.2.1 c0) ?_
    refine j_if_eq G 2321 dL_law_2316 (by decide) (by decide) (fun _ => ?_) (fun h => absurd rfl h)
    refine j_goto G 2578 dL_law_2321 (by decide) ?_
    refine j_keep [0, 1, 2, 3, 4] ?_
    refine j_wid (cells' := cells + 200) (slots' := slots + 3000) (by omega) (by omega) ?_
    exact K _ _ _ _ ⟨hag.1, hRL2, ⟨hao, hns, h33⟩, v9, hgo1⟩
set_option maxRecDepth 100000 in
set_option maxHeartbeats 8000000 in
theorem case_39 {p : Program} {l : Launch} {e : Env} {s : State} {m : MethodId} {below : List Frame} {meth : Method} {c : Code} {Q : State → Prop} {D : va_G} {cys : Nat → ClassId} {ad : Nat → Int → Nat} {b Ls : Nat} {xs : Nat → Int32} (hi : injA ad) (hst : l.stackTraces = false) (G : GG p l s m #[Value.ref b] meth c D cys ad (fun q => s.heap.size ≤ q) code RL 9) (hN : NCS s) (hk4 : HK4 cys s) (hX : va_X b Ls xs s s.heap) (hbl : b < s.heap.size) (hL : Ls ≤ 2560) {L : List Nat} {g : Nat → va_E} {X : Int64} {Z : ZT} {ao : Nat} (hI : INV cys ad ao L g Z) {i : Int} (hi0 : 0 ≤ i) (hi5 : i + 5 ≤ Ls) {cells slots : Nat} (hc : cells + 200 ≤ 601024) (hs : slots + 3000 ≤ 7293034)
    (K : ∀ (L1 : List Nat) (g1 : Nat → va_E) (X1 : Int64) (Z1 : ZT), INV cys ad ao L1 g1 Z1 → JJ p l e room_1 s m #[Value.ref b] below meth c D cys ad (fun q => s.heap.size ≤ q) Q 9 (cells + 200) (slots + 3000) L1 g1 X1 Z1 2578 (LV5 b ad ao i) []) :
    JJ p l e room_1 s m #[Value.ref b] below meth c D cys ad (fun q => s.heap.size ≤ q) Q 9 cells slots L g X Z 2324 (LV5 b ad ao i) [] := by
  obtain ⟨hG, hRL, ⟨hao, hns, h33⟩, v0, hgo⟩ := hI
  have hW := hG.1.1
  have hbA : ¬ (fun q => s.heap.size ≤ q) b := Nat.not_le.mpr hbl
  refine j_aload_n G dL_law_2324 rfl ?_
  refine j_aload_n G dL_law_2325 rfl ?_
  refine j_iload G dL_law_2326 rfl ?_
  refine j_iconst G dL_law_2328 ?_
  refine j_iadd G dL_law_2329 ?_
  refine j_sld G hX hbl hbA dL_law_2330 (by omega) (by omega) hL ?_
  refine j_aload_n G dL_law_2331 rfl ?_
  refine j_callW (n := 3) G hN (TW_of 936 (by decide +kernel) (by decide +kernel)) (TW_of 71 (by decide +kernel) (by decide +kernel)) (TW_of 937 (by decide +kernel) (by decide +kernel)) ⟨by decide +kernel, by decide +kernel, by decide +kernel⟩ (TW_of 935 (by decide +kernel) (by decide +kernel)) (cw_refresh hi hst (SP.rf Z) hW (sv_in _ _) hao hns hgo) dL_law_2332 ⟨by decide, by decide⟩ ⟨by rw [r1c]; omega, by rw [r1s]; omega⟩ rfl rfl (Nat.le_of_ble_eq_true rfl) (fun k L1 g1 X1 Z1 h => ?_)
  obtain ⟨eL, eX, v9, eg, hA⟩ := h
  subst L1 X1 g1
  have hR1 : RMZ Z Z1 := hG.2.hi (hi_refresh hA)
  have hRL1 := hRL.out h33 hgo v9
  have hgo1 : va_up g ao (OUT cys v9) ao = OUT cys v9 := va_up_self _ _ _
  refine j_istore G dL_law_2335 (by decide) rfl ?_
  refine j_aload_n G dL_law_2337 rfl ?_
  refine j_aload_n G dL_law_2338 rfl ?_
  refine j_iload G dL_law_2339 rfl ?_
  refine j_iconst G dL_law_2341 ?_
  refine j_iadd G dL_law_2342 ?_
  refine j_sld G hX hbl hbA dL_law_2343 (by omega) (by omega) hL ?_
  refine j_cVIZ G cvX7_refresh mlL_266 (c_X7_refresh hi hR1 hRL1 hW (sv_in _ _)) dL_law_2344 ⟨by decide, by decide⟩ ⟨by rw [r1c]; omega, by rw [r1s]; omega⟩ rfl rfl (Nat.le_of_ble_eq_true rfl) (by decide) rfl rfl rfl (fun x Z2 hB => ?_)
  have hag := ag_refresh hG hA hB
  have hRL2 := hag.2.1 cys ad _ _ hRL1
  refine j_istore G dL_law_2347 (by decide) rfl ?_
  refine j_aload_n G dL_law_2349 rfl ?_
  refine j_cVI G cvX7_thrown mlL_131 (c_X7_thrown hi) dL_law_2350 ⟨by decide, by decide⟩ ⟨by rw [r1c]; omega, by rw [r1s]; omega⟩ rfl rfl (Nat.le_of_ble_eq_true rfl) (by decide) rfl rfl rfl (fun t ht => ?_)
  refine j_iload G dL_law_2353 rfl ?_
  refine j_icmpS G 2360 dL_law_2355 (by decide) (ht.trans hag.2.2.1) ?_
  refine j_iload G dL_law_2360 rfl ?_
  have hk02 := hag.2.2.2.2
  refine j_if_ne G 2377 dL_law_2362 (by decide) (by omega) (fun c0 => ?_) (fun c0 => ?_)
  · refine j_goto G 2578 dL_law_2377 (by decide) ?_
    refine j_keep [0, 1, 2, 3, 4] ?_
    refine j_wid (cells' := cells + 200) (slots' := slots + 3000) (by omega) (by omega) ?_
    exact K _ _ _ _ ⟨hag.1, hRL2, ⟨hao, hns, h33⟩, v9, hgo1⟩
  · refine j_aload_n G dL_law_2365 rfl ?_
    refine j_iconst G dL_law_2366 ?_
    refine j_laldO G dL_law_2367 hao hns hgo1 ?_
    refine j_iload G dL_law_2368 rfl ?_
    refine j_i2l G dL_law_2370 ?_
    refine j_lcmpS G dL_law_2371 (hag.2.2.2.1 c0) ?_
    refine j_if_eq G 2377 dL_law_2372 (by decide) (by decide) (fun _ => ?_) (fun h => absurd rfl h)
    refine j_goto G 2578 dL_law_2377 (by decide) ?_
    refine j_keep [0, 1, 2, 3, 4] ?_
    refine j_wid (cells' := cells + 200) (slots' := slots + 3000) (by omega) (by omega) ?_
    exact K _ _ _ _ ⟨hag.1, hRL2, ⟨hao, hns, h33⟩, v9, hgo1⟩
set_option maxRecDepth 100000 in
set_option maxHeartbeats 8000000 in
theorem case_40 {p : Program} {l : Launch} {e : Env} {s : State} {m : MethodId} {below : List Frame} {meth : Method} {c : Code} {Q : State → Prop} {D : va_G} {cys : Nat → ClassId} {ad : Nat → Int → Nat} {b Ls : Nat} {xs : Nat → Int32} (hi : injA ad) (hst : l.stackTraces = false) (G : GG p l s m #[Value.ref b] meth c D cys ad (fun q => s.heap.size ≤ q) code RL 9) (hN : NCS s) (hk4 : HK4 cys s) (hX : va_X b Ls xs s s.heap) (hbl : b < s.heap.size) (hL : Ls ≤ 2560) {L : List Nat} {g : Nat → va_E} {X : Int64} {Z : ZT} {ao : Nat} (hI : INV cys ad ao L g Z) {i : Int} (hi0 : 0 ≤ i) (hi5 : i + 5 ≤ Ls) {cells slots : Nat} (hc : cells + 200 ≤ 601024) (hs : slots + 3000 ≤ 7293034)
    (K : ∀ (L1 : List Nat) (g1 : Nat → va_E) (X1 : Int64) (Z1 : ZT), INV cys ad ao L1 g1 Z1 → JJ p l e room_1 s m #[Value.ref b] below meth c D cys ad (fun q => s.heap.size ≤ q) Q 9 (cells + 200) (slots + 3000) L1 g1 X1 Z1 2578 (LV5 b ad ao i) []) :
    JJ p l e room_1 s m #[Value.ref b] below meth c D cys ad (fun q => s.heap.size ≤ q) Q 9 cells slots L g X Z 2380 (LV5 b ad ao i) [] := by
  obtain ⟨hG, hRL, ⟨hao, hns, h33⟩, v0, hgo⟩ := hI
  have hW := hG.1.1
  have hbA : ¬ (fun q => s.heap.size ≤ q) b := Nat.not_le.mpr hbl
  refine j_aload_n G dL_law_2380 rfl ?_
  refine j_cVI G cvX6_views mlL_267 (c_X6_views hi ) dL_law_2381 ⟨by decide, by decide⟩ ⟨by rw [r1c]; omega, by rw [r1s]; omega⟩ rfl rfl (Nat.le_of_ble_eq_true rfl) (by decide) rfl rfl rfl (fun r h => ?_)
  have hS : SP Z Z := SP.rf Z
  have hR1 : RMZ Z Z := hG.2.hi (HI.sp hS)
  have hRL1 := hRL
  refine j_aload_n G dL_law_2384 rfl ?_
  refine j_cVIZ G cvX7_views mlL_270 (c_X7_views hi hR1) dL_law_2385 ⟨by decide, by decide⟩ ⟨by rw [r1c]; omega, by rw [r1s]; omega⟩ rfl rfl (Nat.le_of_ble_eq_true rfl) (by decide) rfl rfl rfl (fun x Z2 h2 => ?_)
  obtain ⟨hx, hM⟩ := h2
  have hq := ag_ask hG hS hM
  have hrx : r = x := h.trans hx.symm
  refine j_icmpS G 2578 dL_law_2388 (by decide) hrx ?_
  refine j_keep [0, 1, 2, 3, 4] ?_
  refine j_wid (cells' := cells + 200) (slots' := slots + 3000) (by omega) (by omega) ?_
  exact K _ _ _ _ ⟨hq.1, hq.2.1 cys ad _ _ hRL, ⟨hao, hns, h33⟩, v0, hgo⟩
set_option maxRecDepth 100000 in
set_option maxHeartbeats 8000000 in
theorem case_41 {p : Program} {l : Launch} {e : Env} {s : State} {m : MethodId} {below : List Frame} {meth : Method} {c : Code} {Q : State → Prop} {D : va_G} {cys : Nat → ClassId} {ad : Nat → Int → Nat} {b Ls : Nat} {xs : Nat → Int32} (hi : injA ad) (hst : l.stackTraces = false) (G : GG p l s m #[Value.ref b] meth c D cys ad (fun q => s.heap.size ≤ q) code RL 9) (hN : NCS s) (hk4 : HK4 cys s) (hX : va_X b Ls xs s s.heap) (hbl : b < s.heap.size) (hL : Ls ≤ 2560) {L : List Nat} {g : Nat → va_E} {X : Int64} {Z : ZT} {ao : Nat} (hI : INV cys ad ao L g Z) {i : Int} (hi0 : 0 ≤ i) (hi5 : i + 5 ≤ Ls) {cells slots : Nat} (hc : cells + 200 ≤ 601024) (hs : slots + 3000 ≤ 7293034)
    (K : ∀ (L1 : List Nat) (g1 : Nat → va_E) (X1 : Int64) (Z1 : ZT), INV cys ad ao L1 g1 Z1 → JJ p l e room_1 s m #[Value.ref b] below meth c D cys ad (fun q => s.heap.size ≤ q) Q 9 (cells + 200) (slots + 3000) L1 g1 X1 Z1 2578 (LV5 b ad ao i) []) :
    JJ p l e room_1 s m #[Value.ref b] below meth c D cys ad (fun q => s.heap.size ≤ q) Q 9 cells slots L g X Z 2393 (LV5 b ad ao i) [] := by
  obtain ⟨hG, hRL, ⟨hao, hns, h33⟩, v0, hgo⟩ := hI
  have hW := hG.1.1
  have hbA : ¬ (fun q => s.heap.size ≤ q) b := Nat.not_le.mpr hbl
  refine j_aload_n G dL_law_2393 rfl ?_
  refine j_aload_n G dL_law_2394 rfl ?_
  refine j_iload G dL_law_2395 rfl ?_
  refine j_iconst G dL_law_2397 ?_
  refine j_iadd G dL_law_2398 ?_
  refine j_sld G hX hbl hbA dL_law_2399 (by omega) (by omega) hL ?_
  refine j_aload_n G dL_law_2400 rfl ?_
  refine j_callW (n := 3) G hN (TW_of 943 (by decide +kernel) (by decide +kernel)) (TW_of 71 (by decide +kernel) (by decide +kernel)) (TW_of 944 (by decide +kernel) (by decide +kernel)) ⟨by decide +kernel, by decide +kernel, by decide +kernel⟩ (TW_of 942 (by decide +kernel) (by decide +kernel)) (cw_rowsOf hi hst (SP.rf Z) hW (sv_in _ _) hao hns hgo) dL_law_2401 ⟨by decide, by decide⟩ ⟨by rw [r1c]; omega, by rw [r1s]; omega⟩ rfl rfl (Nat.le_of_ble_eq_true rfl) (fun k L1 g1 X1 Z1 h => ?_)
  obtain ⟨eL, eX, v9, eg, hA⟩ := h
  subst L1 X1 g1
  have hR1 : RMZ Z Z1 := hG.2.hi (hi_rowsOf hA)
  have hRL1 := hRL.out h33 hgo v9
  have hgo1 : va_up g ao (OUT cys v9) ao = OUT cys v9 := va_up_self _ _ _
  refine j_istore G dL_law_2404 (by decide) rfl ?_
  refine j_aload_n G dL_law_2406 rfl ?_
  refine j_aload_n G dL_law_2407 rfl ?_
  refine j_iload G dL_law_2408 rfl ?_
  refine j_iconst G dL_law_2410 ?_
  refine j_iadd G dL_law_2411 ?_
  refine j_sld G hX hbl hbA dL_law_2412 (by omega) (by omega) hL ?_
  refine j_cVIZ G cvX7_rowsOf mlL_273 (c_X7_rowsOf hi hR1 hW (sv_in _ _)) dL_law_2413 ⟨by decide, by decide⟩ ⟨by rw [r1c]; omega, by rw [r1s]; omega⟩ rfl rfl (Nat.le_of_ble_eq_true rfl) (by decide) rfl rfl rfl (fun x Z2 hB => ?_)
  have hag := ag_rowsOf hG hA hB
  have hRL2 := hag.2.1 cys ad _ _ hRL1
  refine j_istore G dL_law_2416 (by decide) rfl ?_
  refine j_aload_n G dL_law_2418 rfl ?_
  refine j_cVI G cvX7_thrown mlL_131 (c_X7_thrown hi) dL_law_2419 ⟨by decide, by decide⟩ ⟨by rw [r1c]; omega, by rw [r1s]; omega⟩ rfl rfl (Nat.le_of_ble_eq_true rfl) (by decide) rfl rfl rfl (fun t ht => ?_)
  refine j_iload G dL_law_2422 rfl ?_
  refine j_icmpS G 2429 dL_law_2424 (by decide) (ht.trans hag.2.2.1) ?_
  refine j_iload G dL_law_2429 rfl ?_
  have hk02 := hag.2.2.2.2
  refine j_if_ne G 2446 dL_law_2431 (by decide) (by omega) (fun c0 => ?_) (fun c0 => ?_)
  · refine j_goto G 2578 dL_law_2446 (by decide) ?_
    refine j_keep [0, 1, 2, 3, 4] ?_
    refine j_wid (cells' := cells + 200) (slots' := slots + 3000) (by omega) (by omega) ?_
    exact K _ _ _ _ ⟨hag.1, hRL2, ⟨hao, hns, h33⟩, v9, hgo1⟩
  · refine j_aload_n G dL_law_2434 rfl ?_
    refine j_iconst G dL_law_2435 ?_
    refine j_laldO G dL_law_2436 hao hns hgo1 ?_
    refine j_iload G dL_law_2437 rfl ?_
    refine j_i2l G dL_law_2439 ?_
    refine j_lcmpS G dL_law_2440 (hag.2.2.2.1 c0) ?_
    refine j_if_eq G 2446 dL_law_2441 (by decide) (by decide) (fun _ => ?_) (fun h => absurd rfl h)
    refine j_goto G 2578 dL_law_2446 (by decide) ?_
    refine j_keep [0, 1, 2, 3, 4] ?_
    refine j_wid (cells' := cells + 200) (slots' := slots + 3000) (by omega) (by omega) ?_
    exact K _ _ _ _ ⟨hag.1, hRL2, ⟨hao, hns, h33⟩, v9, hgo1⟩
