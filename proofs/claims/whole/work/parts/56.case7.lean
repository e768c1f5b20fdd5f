/-! by program: wip/whole/genl.py: cases of the law's switch -/
theorem dL_law_2449 : decode code 2449 = .ok (.aload_n 1, 1) := by decide +kernel
theorem dL_law_2450 : decode code 2450 = .ok (.aload_n 0, 1) := by decide +kernel
theorem dL_law_2451 : decode code 2451 = .ok (.iload 4, 2) := by decide +kernel
theorem dL_law_2453 : decode code 2453 = .ok (.iconst 1, 1) := by decide +kernel
theorem dL_law_2454 : decode code 2454 = .ok (.iadd, 1) := by decide +kernel
theorem dL_law_2455 : decode code 2455 = .ok (.iaload, 1) := by decide +kernel
theorem dL_law_2456 : decode code 2456 = .ok (.aload_n 3, 1) := by decide +kernel
theorem dL_law_2457 : decode code 2457 = .ok (.invokestatic 274, 3) := by decide +kernel
theorem dL_law_2460 : decode code 2460 = .ok (.istore 5, 2) := by decide +kernel
theorem dL_law_2462 : decode code 2462 = .ok (.aload_n 2, 1) := by decide +kernel
theorem dL_law_2463 : decode code 2463 = .ok (.aload_n 0, 1) := by decide +kernel
theorem dL_law_2464 : decode code 2464 = .ok (.iload 4, 2) := by decide +kernel
theorem dL_law_2466 : decode code 2466 = .ok (.iconst 1, 1) := by decide +kernel
theorem dL_law_2467 : decode code 2467 = .ok (.iadd, 1) := by decide +kernel
theorem dL_law_2468 : decode code 2468 = .ok (.iaload, 1) := by decide +kernel
theorem dL_law_2469 : decode code 2469 = .ok (.invokevirtual 276, 3) := by decide +kernel
theorem dL_law_2472 : decode code 2472 = .ok (.istore 6, 2) := by decide +kernel
theorem dL_law_2474 : decode code 2474 = .ok (.aload_n 2, 1) := by decide +kernel
theorem dL_law_2475 : decode code 2475 = .ok (.invokevirtual 131, 3) := by decide +kernel
theorem dL_law_2478 : decode code 2478 = .ok (.iload 5, 2) := by decide +kernel
theorem dL_law_2480 : decode code 2480 = .ok (.if_icmp .eq 5, 3) := by decide +kernel
theorem dL_law_2485 : decode code 2485 = .ok (.iload 5, 2) := by decide +kernel
theorem dL_law_2487 : decode code 2487 = .ok (.ifCond .ne 22, 3) := by decide +kernel
theorem dL_law_2490 : decode code 2490 = .ok (.aload_n 3, 1) := by decide +kernel
theorem dL_law_2491 : decode code 2491 = .ok (.iconst 0, 1) := by decide +kernel
theorem dL_law_2492 : decode code 2492 = .ok (.laload, 1) := by decide +kernel
theorem dL_law_2493 : decode code 2493 = .ok (.iload 6, 2) := by decide +kernel
theorem dL_law_2495 : decode code 2495 = .ok (.ifCond .eq 7, 3) := by decide +kernel
theorem dL_law_2498 : decode code 2498 = .ok (.lconst 1, 1) := by decide +kernel
theorem dL_law_2499 : decode code 2499 = .ok (.goto 4, 3) := by decide +kernel
theorem dL_law_2502 : decode code 2502 = .ok (.lconst 0, 1) := by decide +kernel
theorem dL_law_2503 : decode code 2503 = .ok (.lcmp, 1) := by decide +kernel
theorem dL_law_2504 : decode code 2504 = .ok (.ifCond .eq 5, 3) := by decide +kernel
theorem dL_law_2509 : decode code 2509 = .ok (.goto 69, 3) := by decide +kernel
theorem dL_law_2512 : decode code 2512 = .ok (.aload_n 1, 1) := by decide +kernel
theorem dL_law_2513 : decode code 2513 = .ok (.invokevirtual 277, 3) := by decide +kernel
theorem dL_law_2516 : decode code 2516 = .ok (.aload_n 2, 1) := by decide +kernel
theorem dL_law_2517 : decode code 2517 = .ok (.invokevirtual 280, 3) := by decide +kernel
theorem dL_law_2520 : decode code 2520 = .ok (.if_icmp .eq 58, 3) := by decide +kernel
theorem dL_law_2525 : decode code 2525 = .ok (.aload_n 1, 1) := by decide +kernel
theorem dL_law_2526 : decode code 2526 = .ok (.invokevirtual 281, 3) := by decide +kernel
theorem dL_law_2529 : decode code 2529 = .ok (.aload_n 2, 1) := by decide +kernel
theorem dL_law_2530 : decode code 2530 = .ok (.invokevirtual 284, 3) := by decide +kernel
theorem dL_law_2533 : decode code 2533 = .ok (.if_icmp .eq 45, 3) := by decide +kernel
theorem dL_law_2538 : decode code 2538 = .ok (.aload_n 1, 1) := by decide +kernel
theorem dL_law_2539 : decode code 2539 = .ok (.invokevirtual 285, 3) := by decide +kernel
theorem dL_law_2542 : decode code 2542 = .ok (.aload_n 2, 1) := by decide +kernel
theorem dL_law_2543 : decode code 2543 = .ok (.invokevirtual 288, 3) := by decide +kernel
theorem dL_law_2546 : decode code 2546 = .ok (.if_icmp .eq 32, 3) := by decide +kernel
theorem dL_law_2551 : decode code 2551 = .ok (.aload_n 1, 1) := by decide +kernel
theorem dL_law_2552 : decode code 2552 = .ok (.invokevirtual 289, 3) := by decide +kernel
theorem dL_law_2555 : decode code 2555 = .ok (.aload_n 2, 1) := by decide +kernel
theorem dL_law_2556 : decode code 2556 = .ok (.invokevirtual 292, 3) := by decide +kernel
theorem dL_law_2559 : decode code 2559 = .ok (.if_icmp .eq 19, 3) := by decide +kernel
theorem dL_law_2564 : decode code 2564 = .ok (.aload_n 1, 1) := by decide +kernel
theorem dL_law_2565 : decode code 2565 = .ok (.invokevirtual 293, 3) := by decide +kernel
theorem dL_law_2568 : decode code 2568 = .ok (.aload_n 2, 1) := by decide +kernel
theorem dL_law_2569 : decode code 2569 = .ok (.invokevirtual 297, 3) := by decide +kernel
theorem dL_law_2572 : decode code 2572 = .ok (.lcmp, 1) := by decide +kernel
theorem dL_law_2573 : decode code 2573 = .ok (.ifCond .eq 5, 3) := by decide +kernel
set_option maxRecDepth 100000 in
set_option maxHeartbeats 8000000 in
theorem case_42 {p : Program} {l : Launch} {e : Env} {s : State} {m : MethodId} {below : List Frame} {meth : Method} {c : Code} {Q : State → Prop} {D : va_G} {cys : Nat → ClassId} {ad : Nat → Int → Nat} {b Ls : Nat} {xs : Nat → Int32} (hi : injA ad) (hst : l.stackTraces = false) (G : GG p l s m #[Value.ref b] meth c D cys ad (fun q => s.heap.size ≤ q) code RL 9) (hN : NCS s) (hk4 : HK4 cys s) (hX : va_X b Ls xs s s.heap) (hbl : b < s.heap.size) (hL : Ls ≤ 2560) {L : List Nat} {g : Nat → va_E} {X : Int64} {Z : ZT} {ao : Nat} (hI : INV cys ad ao L g Z) {i : Int} (hi0 : 0 ≤ i) (hi5 : i + 5 ≤ Ls) {cells slots : Nat} (hc : cells + 200 ≤ 601024) (hs : slots + 3000 ≤ 7293034)
    (K : ∀ (L1 : List Nat) (g1 : Nat → va_E) (X1 : Int64) (Z1 : ZT), INV cys ad ao L1 g1 Z1 → JJ p l e room_1 s m #[Value.ref b] below meth c D cys ad (fun q => s.heap.size ≤ q) Q 9 (cells + 200) (slots + 3000) L1 g1 X1 Z1 2578 (LV5 b ad ao i) []) :
    JJ p l e room_1 s m #[Value.ref b] below meth c D cys ad (fun q => s.heap.size ≤ q) Q 9 cells slots L g X Z 2449 (LV5 b ad ao i) [] := by
  obtain ⟨hG, hRL, ⟨hao, hns, h33⟩, v0, hgo⟩ := hI
  have hW := hG.1.1
  have hbA : ¬ (fun q => s.heap.size ≤ q) b := Nat.not_le.mpr hbl
  refine j_aload_n G dL_law_2449 rfl ?_
  refine j_aload_n G dL_law_2450 rfl ?_
  refine j_iload G dL_law_2451 rfl ?_
  refine j_iconst G dL_law_2453 ?_
  refine j_iadd G dL_law_2454 ?_
  refine j_sld G hX hbl hbA dL_law_2455 (by omega) (by omega) hL ?_
  refine j_aload_n G dL_law_2456 rfl ?_
  refine j_callW (n := 3) G hN (TW_of 950 (by decide +kernel) (by decide +kernel)) (TW_of 71 (by decide +kernel) (by decide +kernel)) (TW_of 951 (by decide +kernel) (by decide +kernel)) ⟨by decide +kernel, by decide +kernel, by decide +kernel⟩ (TW_of 949 (by decide +kernel) (by decide +kernel)) (cw_isStale hi hst (SP.rf Z) hW (sv_in _ _) hao hns hgo) dL_law_2457 ⟨by decide, by decide⟩ ⟨by rw [r1c]; omega, by rw [r1s]; omega⟩ rfl rfl (Nat.le_of_ble_eq_true rfl) (fun k L1 g1 X1 Z1 h => ?_)
  obtain ⟨eL, eX, v9, eg, hA⟩ := h
  subst L1 X1 g1
  have hR1 : RMZ Z Z1 := hG.2.hi (hi_isStale hA)
  have hRL1 := hRL.out h33 hgo v9
  have hgo1 : va_up g ao (OUT cys v9) ao = OUT cys v9 := va_up_self _ _ _
  refine j_istore G dL_law_2460 (by decide) rfl ?_
  refine j_aload_n G dL_law_2462 rfl ?_
  refine j_aload_n G dL_law_2463 rfl ?_
  refine j_iload G dL_law_2464 rfl ?_
  refine j_iconst G dL_law_2466 ?_
  refine j_iadd G dL_law_2467 ?_
  refine j_sld G hX hbl hbA dL_law_2468 (by omega) (by omega) hL ?_
  refine j_cVIZ G cvX7_isStale mlL_276 (c_X7_isStale hi hR1 hW (sv_in _ _)) dL_law_2469 ⟨by decide, by decide⟩ ⟨by rw [r1c]; omega, by rw [r1s]; omega⟩ rfl rfl (Nat.le_of_ble_eq_true rfl) (by decide) rfl rfl rfl (fun x Z2 hB => ?_)
  have hB : MP_isStale Z Z1 Z2 (sv xs (i + 1)) x := hB
  have hag := ag_isStale hG hA hB
  have hRL2 := hag.2.1 cys ad _ _ hRL1
  refine j_istore G dL_law_2472 (by decide) rfl ?_
  refine j_aload_n G dL_law_2474 rfl ?_
  refine j_cVI G cvX7_thrown mlL_131 (c_X7_thrown hi) dL_law_2475 ⟨by decide, by decide⟩ ⟨by rw [r1c]; omega, by rw [r1s]; omega⟩ rfl rfl (Nat.le_of_ble_eq_true rfl) (by decide) rfl rfl rfl (fun t ht => ?_)
  refine j_iload G dL_law_2478 rfl ?_
  refine j_icmpS G 2485 dL_law_2480 (by decide) (ht.trans hag.2.2.1) ?_
  refine j_iload G dL_law_2485 rfl ?_
  have hk02 := hag.2.2.2.2
  refine j_if_ne G 2509 dL_law_2487 (by decide) (by omega) (fun c0 => ?_) (fun c0 => ?_)
  · refine j_goto G 2578 dL_law_2509 (by decide) ?_
    refine j_keep [0, 1, 2, 3, 4] ?_
    refine j_wid (cells' := cells + 200) (slots' := slots + 3000) (by omega) (by omega) ?_
    exact K _ _ _ _ ⟨hag.1, hRL2, ⟨hao, hns, h33⟩, v9, hgo1⟩
  · refine j_aload_n G dL_law_2490 rfl ?_
    refine j_iconst G dL_law_2491 ?_
    refine j_laldO G dL_law_2492 hao hns hgo1 ?_
    refine j_iload G dL_law_2493 rfl ?_
    refine j_boolL G (by
        unfold MP_isStale at hB
        rcases hB with z | z
        · rw [z.2.1]
          have hv9 := hW.v
          have ht7 := z.1
          rcases hW.st z.1.1 (by omega) with y | y <;> rw [y] <;> decide
        · rw [z.2.1]; decide) dL_law_2495 dL_law_2498 dL_law_2499 dL_law_2502 ?_
    refine j_lcmpS G dL_law_2503 (hag.2.2.2.1 c0) ?_
    refine j_if_eq G 2509 dL_law_2504 (by decide) (by decide) (fun _ => ?_) (fun h => absurd rfl h)
    refine j_goto G 2578 dL_law_2509 (by decide) ?_
    refine j_keep [0, 1, 2, 3, 4] ?_
    refine j_wid (cells' := cells + 200) (slots' := slots + 3000) (by omega) (by omega) ?_
    exact K _ _ _ _ ⟨hag.1, hRL2, ⟨hao, hns, h33⟩, v9, hgo1⟩
set_option maxRecDepth 100000 in
set_option maxHeartbeats 8000000 in
theorem case_43 {p : Program} {l : Launch} {e : Env} {s : State} {m : MethodId} {below : List Frame} {meth : Method} {c : Code} {Q : State → Prop} {D : va_G} {cys : Nat → ClassId} {ad : Nat → Int → Nat} {b Ls : Nat} {xs : Nat → Int32} (hi : injA ad) (hst : l.stackTraces = false) (G : GG p l s m #[Value.ref b] meth c D cys ad (fun q => s.heap.size ≤ q) code RL 9) (hN : NCS s) (hk4 : HK4 cys s) (hX : va_X b Ls xs s s.heap) (hbl : b < s.heap.size) (hL : Ls ≤ 2560) {L : List Nat} {g : Nat → va_E} {X : Int64} {Z : ZT} {ao : Nat} (hI : INV cys ad ao L g Z) {i : Int} (hi0 : 0 ≤ i) (hi5 : i + 5 ≤ Ls) {cells slots : Nat} (hc : cells + 200 ≤ 601024) (hs : slots + 3000 ≤ 7293034)
    (K : ∀ (L1 : List Nat) (g1 : Nat → va_E) (X1 : Int64) (Z1 : ZT), INV cys ad ao L1 g1 Z1 → JJ p l e room_1 s m #[Value.ref b] below meth c D cys ad (fun q => s.heap.size ≤ q) Q 9 (cells + 200) (slots + 3000) L1 g1 X1 Z1 2578 (LV5 b ad ao i) []) :
    JJ p l e room_1 s m #[Value.ref b] below meth c D cys ad (fun q => s.heap.size ≤ q) Q 9 cells slots L g X Z 2512 (LV5 b ad ao i) [] := by
  obtain ⟨hG, hRL, ⟨hao, hns, h33⟩, v0, hgo⟩ := hI
  have hW := hG.1.1
  have hbA : ¬ (fun q => s.heap.size ≤ q) b := Nat.not_le.mpr hbl
  refine j_aload_n G dL_law_2512 rfl ?_
  refine j_cVI G cvX6_cost mlL_277 (c_X6_cost hi (SP.rf Z) hW) dL_law_2513 ⟨by decide, by decide⟩ ⟨by rw [r1c]; omega, by rw [r1s]; omega⟩ rfl rfl (Nat.le_of_ble_eq_true rfl) (by decide) rfl rfl rfl (fun r h => ?_)
  have hS : SP Z Z := SP.rf Z
  have hR1 : RMZ Z Z := hG.2.hi (HI.sp hS)
  have hRL1 := hRL
  refine j_aload_n G dL_law_2516 rfl ?_
  refine j_cVIZ G cvX7_cost mlL_280 (c_X7_cost hi hR1 hRL1 hW) dL_law_2517 ⟨by decide, by decide⟩ ⟨by rw [r1c]; omega, by rw [r1s]; omega⟩ rfl rfl (Nat.le_of_ble_eq_true rfl) (by decide) rfl rfl rfl (fun x Z2 h2 => ?_)
  obtain ⟨hx, hM⟩ := h2
  have hq := ag_ask hG hS hM
  have hrx : r = x := h.trans hx.symm
  refine j_icmpS G 2578 dL_law_2520 (by decide) hrx ?_
  refine j_keep [0, 1, 2, 3, 4] ?_
  refine j_wid (cells' := cells + 200) (slots' := slots + 3000) (by omega) (by omega) ?_
  exact K _ _ _ _ ⟨hq.1, hq.2.1 cys ad _ _ hRL, ⟨hao, hns, h33⟩, v0, hgo⟩
set_option maxRecDepth 100000 in
set_option maxHeartbeats 8000000 in
theorem case_44 {p : Program} {l : Launch} {e : Env} {s : State} {m : MethodId} {below : List Frame} {meth : Method} {c : Code} {Q : State → Prop} {D : va_G} {cys : Nat → ClassId} {ad : Nat → Int → Nat} {b Ls : Nat} {xs : Nat → Int32} (hi : injA ad) (hst : l.stackTraces = false) (G : GG p l s m #[Value.ref b] meth c D cys ad (fun q => s.heap.size ≤ q) code RL 9) (hN : NCS s) (hk4 : HK4 cys s) (hX : va_X b Ls xs s s.heap) (hbl : b < s.heap.size) (hL : Ls ≤ 2560) {L : List Nat} {g : Nat → va_E} {X : Int64} {Z : ZT} {ao : Nat} (hI : INV cys ad ao L g Z) {i : Int} (hi0 : 0 ≤ i) (hi5 : i + 5 ≤ Ls) {cells slots : Nat} (hc : cells + 200 ≤ 601024) (hs : slots + 3000 ≤ 7293034)
    (K : ∀ (L1 : List Nat) (g1 : Nat → va_E) (X1 : Int64) (Z1 : ZT), INV cys ad ao L1 g1 Z1 → JJ p l e room_1 s m #[Value.ref b] below meth c D cys ad (fun q => s.heap.size ≤ q) Q 9 (cells + 200) (slots + 3000) L1 g1 X1 Z1 2578 (LV5 b ad ao i) []) :
    JJ p l e room_1 s m #[Value.ref b] below meth c D cys ad (fun q => s.heap.size ≤ q) Q 9 cells slots L g X Z 2525 (LV5 b ad ao i) [] := by
  obtain ⟨hG, hRL, ⟨hao, hns, h33⟩, v0, hgo⟩ := hI
  have hW := hG.1.1
  have hbA : ¬ (fun q => s.heap.size ≤ q) b := Nat.not_le.mpr hbl
  refine j_aload_n G dL_law_2525 rfl ?_
  refine j_cVI G cvX6_answeredBy mlL_281 (c_X6_answeredBy hi (SP.rf Z) hW) dL_law_2526 ⟨by decide, by decide⟩ ⟨by rw [r1c]; omega, by rw [r1s]; omega⟩ rfl rfl (Nat.le_of_ble_eq_true rfl) (by decide) rfl rfl rfl (fun r h => ?_)
  have hS : SP Z Z := SP.rf Z
  have hR1 : RMZ Z Z := hG.2.hi (HI.sp hS)
  have hRL1 := hRL
  refine j_aload_n G dL_law_2529 rfl ?_
  refine j_cVIZ G cvX7_answeredBy mlL_284 (c_X7_answeredBy hi hR1 hRL1 hW) dL_law_2530 ⟨by decide, by decide⟩ ⟨by rw [r1c]; omega, by rw [r1s]; omega⟩ rfl rfl (Nat.le_of_ble_eq_true rfl) (by decide) rfl rfl rfl (fun x Z2 h2 => ?_)
  obtain ⟨hx, hM⟩ := h2
  have hq := ag_ask hG hS hM
  have hrx : r = x := h.trans hx.symm
  refine j_icmpS G 2578 dL_law_2533 (by decide) hrx ?_
  refine j_keep [0, 1, 2, 3, 4] ?_
  refine j_wid (cells' := cells + 200) (slots' := slots + 3000) (by omega) (by omega) ?_
  exact K _ _ _ _ ⟨hq.1, hq.2.1 cys ad _ _ hRL, ⟨hao, hns, h33⟩, v0, hgo⟩
set_option maxRecDepth 100000 in
set_option maxHeartbeats 8000000 in
theorem case_45 {p : Program} {l : Launch} {e : Env} {s : State} {m : MethodId} {below : List Frame} {meth : Method} {c : Code} {Q : State → Prop} {D : va_G} {cys : Nat → ClassId} {ad : Nat → Int → Nat} {b Ls : Nat} {xs : Nat → Int32} (hi : injA ad) (hst : l.stackTraces = false) (G : GG p l s m #[Value.ref b] meth c D cys ad (fun q => s.heap.size ≤ q) code RL 9) (hN : NCS s) (hk4 : HK4 cys s) (hX : va_X b Ls xs s s.heap) (hbl : b < s.heap.size) (hL : Ls ≤ 2560) {L : List Nat} {g : Nat → va_E} {X : Int64} {Z : ZT} {ao : Nat} (hI : INV cys ad ao L g Z) {i : Int} (hi0 : 0 ≤ i) (hi5 : i + 5 ≤ Ls) {cells slots : Nat} (hc : cells + 200 ≤ 601024) (hs : slots + 3000 ≤ 7293034)
    (K : ∀ (L1 : List Nat) (g1 : Nat → va_E) (X1 : Int64) (Z1 : ZT), INV cys ad ao L1 g1 Z1 → JJ p l e room_1 s m #[Value.ref b] below meth c D cys ad (fun q => s.heap.size ≤ q) Q 9 (cells + 200) (slots + 3000) L1 g1 X1 Z1 2578 (LV5 b ad ao i) []) :
    JJ p l e room_1 s m #[Value.ref b] below meth c D cys ad (fun q => s.heap.size ≤ q) Q 9 cells slots L g X Z 2538 (LV5 b ad ao i) [] := by
  obtain ⟨hG, hRL, ⟨hao, hns, h33⟩, v0, hgo⟩ := hI
  have hW := hG.1.1
  have hbA : ¬ (fun q => s.heap.size ≤ q) b := Nat.not_le.mpr hbl
  refine j_aload_n G dL_law_2538 rfl ?_
  refine j_cVIZ G cvX6_gain mlL_285 (c_X6_gain hi (SP.rf Z) hW) dL_law_2539 ⟨by decide, by decide⟩ ⟨by rw [r1c]; omega, by rw [r1s]; omega⟩ rfl rfl (Nat.le_of_ble_eq_true rfl) (by decide) rfl rfl rfl (fun r Z1 h => ?_)
  obtain ⟨hr, hS⟩ := h
  have hR1 : RMZ Z Z1 := hG.2.hi (HI.sp hS)
  have hRL1 := hRL
  refine j_aload_n G dL_law_2542 rfl ?_
  refine j_cVIZ G cvX7_gain mlL_288 (c_X7_gain hi hR1 hRL1 hW) dL_law_2543 ⟨by decide, by decide⟩ ⟨by rw [r1c]; omega, by rw [r1s]; omega⟩ rfl rfl (Nat.le_of_ble_eq_true rfl) (by decide) rfl rfl rfl (fun x Z2 h2 => ?_)
  obtain ⟨⟨q, q0, q1, hx⟩, hM⟩ := h2
  have hq := ag_ask hG hS hM
  have hrx : r = x := by rw [hr, hx, GM_GAIN hW q0 (by rw [q1]; exact hW.lv), q1]
  refine j_icmpS G 2578 dL_law_2546 (by decide) hrx ?_
  refine j_keep [0, 1, 2, 3, 4] ?_
  refine j_wid (cells' := cells + 200) (slots' := slots + 3000) (by omega) (by omega) ?_
  exact K _ _ _ _ ⟨hq.1, hq.2.1 cys ad _ _ hRL, ⟨hao, hns, h33⟩, v0, hgo⟩
set_option maxRecDepth 100000 in
set_option maxHeartbeats 8000000 in
theorem case_46 {p : Program} {l : Launch} {e : Env} {s : State} {m : MethodId} {below : List Frame} {meth : Method} {c : Code} {Q : State → Prop} {D : va_G} {cys : Nat → ClassId} {ad : Nat → Int → Nat} {b Ls : Nat} {xs : Nat → Int32} (hi : injA ad) (hst : l.stackTraces = false) (G : GG p l s m #[Value.ref b] meth c D cys ad (fun q => s.heap.size ≤ q) code RL 9) (hN : NCS s) (hk4 : HK4 cys s) (hX : va_X b Ls xs s s.heap) (hbl : b < s.heap.size) (hL : Ls ≤ 2560) {L : List Nat} {g : Nat → va_E} {X : Int64} {Z : ZT} {ao : Nat} (hI : INV cys ad ao L g Z) {i : Int} (hi0 : 0 ≤ i) (hi5 : i + 5 ≤ Ls) {cells slots : Nat} (hc : cells + 200 ≤ 601024) (hs : slots + 3000 ≤ 7293034)
    (K : ∀ (L1 : List Nat) (g1 : Nat → va_E) (X1 : Int64) (Z1 : ZT), INV cys ad ao L1 g1 Z1 → JJ p l e room_1 s m #[Value.ref b] below meth c D cys ad (fun q => s.heap.size ≤ q) Q 9 (cells + 200) (slots + 3000) L1 g1 X1 Z1 2578 (LV5 b ad ao i) []) :
    JJ p l e room_1 s m #[Value.ref b] below meth c D cys ad (fun q => s.heap.size ≤ q) Q 9 cells slots L g X Z 2551 (LV5 b ad ao i) [] := by
  obtain ⟨hG, hRL, ⟨hao, hns, h33⟩, v0, hgo⟩ := hI
  have hW := hG.1.1
  have hbA : ¬ (fun q => s.heap.size ≤ q) b := Nat.not_le.mpr hbl
  refine j_aload_n G dL_law_2551 rfl ?_
  refine j_cVIZ G cvX6_advise mlL_289 (c_X6_advise hi (SP.rf Z) hW) dL_law_2552 ⟨by decide, by decide⟩ ⟨by rw [r1c]; omega, by rw [r1s]; omega⟩ rfl rfl (Nat.le_of_ble_eq_true rfl) (by decide) rfl rfl rfl (fun r Z1 h => ?_)
  obtain ⟨hr, hS0⟩ := h
  have hR1 : RMZ Z Z1 := hG.2.hi (HI.tr (fun k hk => zS_k (by omega)) (HI.sp hS0))
  have hRL1 := hRL
  refine j_aload_n G dL_law_2555 rfl ?_
  refine j_cVIZ G cvX7_advise mlL_292 (c_X7_advise hi hR1 hRL1 hW) dL_law_2556 ⟨by decide, by decide⟩ ⟨by rw [r1c]; omega, by rw [r1s]; omega⟩ rfl rfl (Nat.le_of_ble_eq_true rfl) (by decide) rfl rfl rfl (fun x Z2 h2 => ?_)
  obtain ⟨hx, hu, h32⟩ := h2
  have hq := mu_advise hG hS0 hu h32
  have hrx : r = x := by rw [hr, hx, (ADV hW).1]
  refine j_icmpS G 2578 dL_law_2559 (by decide) hrx ?_
  refine j_keep [0, 1, 2, 3, 4] ?_
  refine j_wid (cells' := cells + 200) (slots' := slots + 3000) (by omega) (by omega) ?_
  exact K _ _ _ _ ⟨hq.1, hq.2 cys ad _ _ hRL, ⟨hao, hns, h33⟩, v0, hgo⟩
set_option maxRecDepth 100000 in
set_option maxHeartbeats 8000000 in
theorem case_47 {p : Program} {l : Launch} {e : Env} {s : State} {m : MethodId} {below : List Frame} {meth : Method} {c : Code} {Q : State → Prop} {D : va_G} {cys : Nat → ClassId} {ad : Nat → Int → Nat} {b Ls : Nat} {xs : Nat → Int32} (hi : injA ad) (hst : l.stackTraces = false) (G : GG p l s m #[Value.ref b] meth c D cys ad (fun q => s.heap.size ≤ q) code RL 9) (hN : NCS s) (hk4 : HK4 cys s) (hX : va_X b Ls xs s s.heap) (hbl : b < s.heap.size) (hL : Ls ≤ 2560) {L : List Nat} {g : Nat → va_E} {X : Int64} {Z : ZT} {ao : Nat} (hI : INV cys ad ao L g Z) {i : Int} (hi0 : 0 ≤ i) (hi5 : i + 5 ≤ Ls) {cells slots : Nat} (hc : cells + 200 ≤ 601024) (hs : slots + 3000 ≤ 7293034)
    (K : ∀ (L1 : List Nat) (g1 : Nat → va_E) (X1 : Int64) (Z1 : ZT), INV cys ad ao L1 g1 Z1 → JJ p l e room_1 s m #[Value.ref b] below meth c D cys ad (fun q => s.heap.size ≤ q) Q 9 (cells + 200) (slots + 3000) L1 g1 X1 Z1 2578 (LV5 b ad ao i) []) :
    JJ p l e room_1 s m #[Value.ref b] below meth c D cys ad (fun q => s.heap.size ≤ q) Q 9 cells slots L g X Z 2564 (LV5 b ad ao i) [] := by
  obtain ⟨hG, hRL, ⟨hao, hns, h33⟩, v0, hgo⟩ := hI
  have hW := hG.1.1
  have hbA : ¬ (fun q => s.heap.size ≤ q) b := Nat.not_le.mpr hbl
  refine j_aload_n G dL_law_2564 rfl ?_
  refine j_cVJZ G cvX6_digest mlL_293 (c_X6_digest hi (SP.rf Z) hW) dL_law_2565 ⟨by decide, by decide⟩ ⟨by rw [r1c]; omega, by rw [r1s]; omega⟩ rfl rfl (Nat.le_of_ble_eq_true rfl) (by decide) rfl rfl rfl (fun r Z1 h => ?_)
  obtain ⟨hr, hS⟩ := h
  have hR1 : RMZ Z Z1 := hG.2.hi (HI.sp hS)
  have hRL1 := hRL
  refine j_aload_n G dL_law_2568 rfl ?_
  refine j_cVGJ G cvX7_digest mlL_297 (c_X7_digest hi hR1 hRL1 hW) dL_law_2569 ⟨by decide, by decide⟩ ⟨by rw [r1c]; omega, by rw [r1s]; omega⟩ rfl rfl (Nat.le_of_ble_eq_true rfl) (by decide) rfl rfl rfl (fun x L2 g2 X2 Z2 h2 => ?_)
  obtain ⟨hx, hE, hM⟩ := h2
  have hq := ag_ask (t := 0) hG hS hM
  have hrx : r = x := hr.trans hx.symm
  refine j_lcmpS G dL_law_2572 hrx ?_
  refine j_if_eq G 2578 dL_law_2573 (by decide) (by decide) (fun _ => ?_) (fun h => absurd rfl h)
  refine j_keep [0, 1, 2, 3, 4] ?_
  refine j_wid (cells' := cells + 200) (slots' := slots + 3000) (by omega) (by omega) ?_
  exact K _ _ _ _ ⟨hq.1, hq.2.1 cys ad _ _ (hRL.ext hE), ⟨hE.1 _ hao, hns, h33⟩, v0, (hE.2 _ hao).trans hgo⟩
