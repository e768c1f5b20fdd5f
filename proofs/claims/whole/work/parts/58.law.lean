/-! by program: wip/whole/genz.py: the law's loop, and the walk to it -/
theorem dL_law_0 : decode code 0 = .ok (.new 8, 3) := by decide +kernel
theorem dL_law_3 : decode code 3 = .ok (.dup, 1) := by decide +kernel
theorem dL_law_4 : decode code 4 = .ok (.invokespecial 121, 3) := by decide +kernel
theorem dL_law_7 : decode code 7 = .ok (.astore_n 1, 1) := by decide +kernel
theorem dL_law_8 : decode code 8 = .ok (.new 122, 3) := by decide +kernel
theorem dL_law_11 : decode code 11 = .ok (.dup, 1) := by decide +kernel
theorem dL_law_12 : decode code 12 = .ok (.invokespecial 124, 3) := by decide +kernel
theorem dL_law_15 : decode code 15 = .ok (.astore_n 2, 1) := by decide +kernel
theorem dL_law_16 : decode code 16 = .ok (.iconst 1, 1) := by decide +kernel
theorem dL_law_17 : decode code 17 = .ok (.newarray .long, 2) := by decide +kernel
theorem dL_law_19 : decode code 19 = .ok (.astore_n 3, 1) := by decide +kernel
theorem dL_law_20 : decode code 20 = .ok (.iconst 0, 1) := by decide +kernel
theorem dL_law_21 : decode code 21 = .ok (.istore 4, 2) := by decide +kernel
theorem dL_law_23 : decode code 23 = .ok (.iload 4, 2) := by decide +kernel
theorem dL_law_25 : decode code 25 = .ok (.aload_n 0, 1) := by decide +kernel
theorem dL_law_26 : decode code 26 = .ok (.arraylength, 1) := by decide +kernel
theorem dL_law_27 : decode code 27 = .ok (.iconst 5, 1) := by decide +kernel
theorem dL_law_28 : decode code 28 = .ok (.isub, 1) := by decide +kernel
theorem dL_law_29 : decode code 29 = .ok (.if_icmp .gt 2555, 3) := by decide +kernel
theorem dL_law_32 : decode code 32 = .ok (.aload_n 0, 1) := by decide +kernel
theorem dL_law_33 : decode code 33 = .ok (.iload 4, 2) := by decide +kernel
theorem dL_law_35 : decode code 35 = .ok (.iaload, 1) := by decide +kernel
theorem dL_law_36 : decode code 36 = .ok (.bipush 63, 2) := by decide +kernel
theorem dL_law_38 : decode code 38 = .ok (.iand, 1) := by decide +kernel
theorem dL_law_39 : decode code 39 = .ok (.tableswitch 2539 0 47 #[205, 261, 329, 409, 422, 478, 546, 614, 694, 797, 865, 921, 977, 1033, 1089, 1102, 1115, 1128, 1141, 1154, 1195, 1251, 1319, 1387, 1455, 1523, 1591, 1647, 1739, 1780, 1824, 1868, 1924, 1980, 2048, 2104, 2172, 2185, 2229, 2285, 2341, 2354, 2410, 2473, 2486, 2499, 2512, 2525], 205) := by decide +kernel
theorem dL_law_2578 : decode code 2578 = .ok (.iinc 4 5, 3) := by decide +kernel
theorem dL_law_2581 : decode code 2581 = .ok (.goto (-2558), 3) := by decide +kernel
theorem dL_law_2584 : decode code 2584 = .ok (.iconst 1, 1) := by decide +kernel
theorem dL_law_2585 : decode code 2585 = .ok (.ireturn, 1) := by decide +kernel
section TABS
variable {p : Program} {l : Launch} {e : Env} {R : Room} {s : State} {m : MethodId} {args : Array Value} {below : List Frame} {meth : Method} {c : Code} {Q : State → Prop}
variable {D : va_G} {cys : Nat → ClassId} {ad : Nat → Int → Nat} {A : Nat → Prop} {cc : ByteArray} {own : String} {nL : Nat} {cells slots : Nat} {L : List Nat} {g : Nat → va_E} {X : Int64} {Z : ZT} {pc : Nat} {vs : List (Nat × Value)} {st : List Value}
theorem j_tabIn (G : GG p l s m args meth c D cys ad A cc own nL) {dflt lo hi off w : Int} {offs : Array Int} {len : Nat} (tgt : Nat) (hd : decode cc pc = .ok (.tableswitch dflt lo hi offs, len)) (hw : inR w) (h1 : lo ≤ w) (h2 : w ≤ hi) (ho : offs[(w - lo).toNat]? = some off) (ht : (pc : Int) + off = (tgt : Int)) (kk : JJ p l e R s m args below meth c D cys ad A Q nL cells slots L g X Z tgt vs st) : JJ p l e R s m args below meth c D cys ad A Q nL cells slots L g X Z pc vs (.int (iI w) :: st) := by
  intro H locs ls hSL hP hD hS hl
  have e := iI_toInt hw
  exact lv_tableIn G.x G.b hd (by rw [e]; omega) (by rw [e]; omega) (by rw [e]; exact ho) ht (kk H locs ls hSL hP hD hS hl)
theorem j_tabOut (G : GG p l s m args meth c D cys ad A cc own nL) {dflt lo hi w : Int} {offs : Array Int} {len : Nat} (tgt : Nat) (hd : decode cc pc = .ok (.tableswitch dflt lo hi offs, len)) (hw : inR w) (h1 : w < lo ∨ hi < w) (ht : (pc : Int) + dflt = (tgt : Int)) (kk : JJ p l e R s m args below meth c D cys ad A Q nL cells slots L g X Z tgt vs st) : JJ p l e R s m args below meth c D cys ad A Q nL cells slots L g X Z pc vs (.int (iI w) :: st) := by
  intro H locs ls hSL hP hD hS hl
  have e := iI_toInt hw
  exact lv_tableOut G.x G.b hd (by rw [e]; exact h1) ht (kk H locs ls hSL hP hD hS hl)
end TABS
theorem law_end {p : Program} {l : Launch} {e : Env} {s : State} {m : MethodId} {below : List Frame} {meth : Method} {c : Code} {D : va_G} {cys : Nat → ClassId} {b : Nat} {ad : Nat → Int → Nat} (G : GG p l s m #[Value.ref b] meth c D cys ad (fun q => s.heap.size ≤ q) code RL 9) (hr : meth.sig.returnType = ret) {L : List Nat} {g : Nat → va_E} {X : Int64} {Z : ZT} {vs : List (Nat × Value)} {cells slots : Nat} (hc : cells ≤ 601024) (hs : slots ≤ 7293034) : JJ p l e room_1 s m #[Value.ref b] below meth c D cys ad (fun q => s.heap.size ≤ q) (lw_Z below #[Value.ref b] s) 9 cells slots L g X Z 2584 vs [] := by
  refine j_iconst G dL_law_2584 ?_
  intro H locs ls hSL hP hD hS hl
  refine va_forget (fun q hq => hS.2.2 q hq) ?_
  refine W.widen hc hs ?_
  have e1 : iI 1 = 1 := by decide +kernel
  rw [e1]
  exact lw_ret (d0 := s.drawn) (Drawn.sameBut.refl s.drawn lw_cs) G.x G.b hr G.lk dL_law_2585
set_option maxRecDepth 100000 in
set_option maxHeartbeats 8000000 in
theorem law_loop {p : Program} {l : Launch} {e : Env} {s : State} {m : MethodId} {below : List Frame} {meth : Method} {c : Code} {D : va_G} {cys : Nat → ClassId} {b Ls : Nat} {xs : Nat → Int32} {ad : Nat → Int → Nat} (hi : injA ad) (hst : l.stackTraces = false) (G : GG p l s m #[Value.ref b] meth c D cys ad (fun q => s.heap.size ≤ q) code RL 9) (hN : NCS s) (hk4 : HK4 cys s) (hX : va_X b Ls xs s s.heap) (hbl : b < s.heap.size) (hL : Ls ≤ 2560) (hr : meth.sig.returnType = ret) {ao : Nat} : ∀ (n t : Nat) (L : List Nat) (g : Nat → va_E) (X : Int64) (Z : ZT), (Ls : Int) ≤ 5 * t + 5 * n → 5 * t ≤ 2560 → INV cys ad ao L g Z → JJ p l e room_1 s m #[Value.ref b] below meth c D cys ad (fun q => s.heap.size ≤ q) (lw_Z below #[Value.ref b] s) 9 (200 + 200 * t) (3000 + 3000 * t) L g X Z 23 (LV5 b ad ao (5 * t)) [] := by
  have hbA : ¬ (fun q => s.heap.size ≤ q) b := Nat.not_le.mpr hbl
  intro n
  induction n with
  | zero =>
    intro t L g X Z h1 h2 hI
    refine j_iload G dL_law_23 rfl ?_
    refine j_aload_n G dL_law_25 rfl ?_
    refine j_slenS G hX hbl hbA dL_law_26 ?_
    refine j_iconst G dL_law_27 ?_
    refine j_isub G dL_law_28 ?_
    refine j_icmp_gt G 2584 dL_law_29 (by decide) (by omega) (by omega) (fun _ => ?_) (fun h => ?_)
    · exact law_end G hr (by omega) (by omega)
    · exfalso; omega
  | succ n ih =>
    intro t L g X Z h1 h2 hI
    refine j_iload G dL_law_23 rfl ?_
    refine j_aload_n G dL_law_25 rfl ?_
    refine j_slenS G hX hbl hbA dL_law_26 ?_
    refine j_iconst G dL_law_27 ?_
    refine j_isub G dL_law_28 ?_
    refine j_icmp_gt G 2584 dL_law_29 (by decide) (by omega) (by omega) (fun _ => ?_) (fun h => ?_)
    · exact law_end G hr (by omega) (by omega)
    · have K : ∀ (L1 : List Nat) (g1 : Nat → va_E) (X1 : Int64) (Z1 : ZT), INV cys ad ao L1 g1 Z1 → JJ p l e room_1 s m #[Value.ref b] below meth c D cys ad (fun q => s.heap.size ≤ q) (lw_Z below #[Value.ref b] s) 9 (200 + 200 * t + 200) (3000 + 3000 * t + 3000) L1 g1 X1 Z1 2578 (LV5 b ad ao (5 * t)) [] := by
        intro L1 g1 X1 Z1 hI1
        refine j_iinc G dL_law_2578 rfl (by decide) rfl ?_
        refine j_goto G 23 dL_law_2581 (by decide) ?_
        refine j_keep [0, 1, 2, 3, 4] ?_
        have hI2 := ih (t + 1) L1 g1 X1 Z1 (by omega) (by omega) hI1
        have e5 : (5 * ((t + 1 : Nat) : Int)) = 5 * (t : Int) + 5 := by omega
        rw [e5] at hI2
        exact hI2
      refine j_aload_n G dL_law_32 rfl ?_
      refine j_iload G dL_law_33 rfl ?_
      refine j_sld G hX hbl hbA dL_law_35 (by omega) (by omega) hL ?_
      refine j_bipush G dL_law_36 (by decide +kernel) ?_
      obtain ⟨w, hw⟩ : ∃ w : Int, w = (iI (sv xs (5 * t)) &&& iI 63).toInt := ⟨_, rfl⟩
      have hwr : inR w := by rw [hw]; exact inR_of _
      refine j_iand G dL_law_38 (z := iI w) (by rw [hw]; exact (iI_of _).symm) ?_
      by_cases hin : 0 ≤ w ∧ w ≤ 47
      · obtain ⟨k, hk⟩ := Int.eq_ofNat_of_zero_le hin.1
        have hk47 : k ≤ 47 := by omega
        clear hw
        subst hk
        exact (match k, hk47, hwr with
          | 0, _, hwr => j_tabIn G 244 dL_law_39 hwr (by decide) (by decide) rfl (by decide) (case_0 hi hst G hN hk4 hX hbl hL hI (by omega) (by omega) (by omega) (by omega) K)
          | 1, _, hwr => j_tabIn G 300 dL_law_39 hwr (by decide) (by decide) rfl (by decide) (case_1 hi hst G hN hk4 hX hbl hL hI (by omega) (by omega) (by omega) (by omega) K)
          | 2, _, hwr => j_tabIn G 368 dL_law_39 hwr (by decide) (by decide) rfl (by decide) (case_2 hi hst G hN hk4 hX hbl hL hI (by omega) (by omega) (by omega) (by omega) K)
          | 3, _, hwr => j_tabIn G 448 dL_law_39 hwr (by decide) (by decide) rfl (by decide) (case_3 hi hst G hN hk4 hX hbl hL hI (by omega) (by omega) (by omega) (by omega) K)
          | 4, _, hwr => j_tabIn G 461 dL_law_39 hwr (by decide) (by decide) rfl (by decide) (case_4 hi hst G hN hk4 hX hbl hL hI (by omega) (by omega) (by omega) (by omega) K)
          | 5, _, hwr => j_tabIn G 517 dL_law_39 hwr (by decide) (by decide) rfl (by decide) (case_5 hi hst G hN hk4 hX hbl hL hI (by omega) (by omega) (by omega) (by omega) K)
          | 6, _, hwr => j_tabIn G 585 dL_law_39 hwr (by decide) (by decide) rfl (by decide) (case_6 hi hst G hN hk4 hX hbl hL hI (by omega) (by omega) (by omega) (by omega) K)
          | 7, _, hwr => j_tabIn G 653 dL_law_39 hwr (by decide) (by decide) rfl (by decide) (case_7 hi hst G hN hk4 hX hbl hL hI (by omega) (by omega) (by omega) (by omega) K)
          | 8, _, hwr => j_tabIn G 733 dL_law_39 hwr (by decide) (by decide) rfl (by decide) (case_8 hi hst G hN hk4 hX hbl hL hI (by omega) (by omega) (by omega) (by omega) K)
          | 9, _, hwr => j_tabIn G 836 dL_law_39 hwr (by decide) (by decide) rfl (by decide) (case_9 hi hst G hN hk4 hX hbl hL hI (by omega) (by omega) (by omega) (by omega) K)
          | 10, _, hwr => j_tabIn G 904 dL_law_39 hwr (by decide) (by decide) rfl (by decide) (case_10 hi hst G hN hk4 hX hbl hL hI (by omega) (by omega) (by omega) (by omega) K)
          | 11, _, hwr => j_tabIn G 960 dL_law_39 hwr (by decide) (by decide) rfl (by decide) (case_11 hi hst G hN hk4 hX hbl hL hI (by omega) (by omega) (by omega) (by omega) K)
          | 12, _, hwr => j_tabIn G 1016 dL_law_39 hwr (by decide) (by decide) rfl (by decide) (case_12 hi hst G hN hk4 hX hbl hL hI (by omega) (by omega) (by omega) (by omega) K)
          | 13, _, hwr => j_tabIn G 1072 dL_law_39 hwr (by decide) (by decide) rfl (by decide) (case_13 hi hst G hN hk4 hX hbl hL hI (by omega) (by omega) (by omega) (by omega) K)
          | 14, _, hwr => j_tabIn G 1128 dL_law_39 hwr (by decide) (by decide) rfl (by decide) (case_14 hi hst G hN hk4 hX hbl hL hI (by omega) (by omega) (by omega) (by omega) K)
          | 15, _, hwr => j_tabIn G 1141 dL_law_39 hwr (by decide) (by decide) rfl (by decide) (case_15 hi hst G hN hk4 hX hbl hL hI (by omega) (by omega) (by omega) (by omega) K)
          | 16, _, hwr => j_tabIn G 1154 dL_law_39 hwr (by decide) (by decide) rfl (by decide) (case_16 hi hst G hN hk4 hX hbl hL hI (by omega) (by omega) (by omega) (by omega) K)
          | 17, _, hwr => j_tabIn G 1167 dL_law_39 hwr (by decide) (by decide) rfl (by decide) (case_17 hi hst G hN hk4 hX hbl hL hI (by omega) (by omega) (by omega) (by omega) K)
          | 18, _, hwr => j_tabIn G 1180 dL_law_39 hwr (by decide) (by decide) rfl (by decide) (case_18 hi hst G hN hk4 hX hbl hL hI (by omega) (by omega) (by omega) (by omega) K)
          | 19, _, hwr => j_tabIn G 1193 dL_law_39 hwr (by decide) (by decide) rfl (by decide) (case_19 hi hst G hN hk4 hX hbl hL hI (by omega) (by omega) (by omega) (by omega) K)
          | 20, _, hwr => j_tabIn G 1234 dL_law_39 hwr (by decide) (by decide) rfl (by decide) (case_20 hi hst G hN hk4 hX hbl hL hI (by omega) (by omega) (by omega) (by omega) K)
          | 21, _, hwr => j_tabIn G 1290 dL_law_39 hwr (by decide) (by decide) rfl (by decide) (case_21 hi hst G hN hk4 hX hbl hL hI (by omega) (by omega) (by omega) (by omega) K)
          | 22, _, hwr => j_tabIn G 1358 dL_law_39 hwr (by decide) (by decide) rfl (by decide) (case_22 hi hst G hN hk4 hX hbl hL hI (by omega) (by omega) (by omega) (by omega) K)
          | 23, _, hwr => j_tabIn G 1426 dL_law_39 hwr (by decide) (by decide) rfl (by decide) (case_23 hi hst G hN hk4 hX hbl hL hI (by omega) (by omega) (by omega) (by omega) K)
          | 24, _, hwr => j_tabIn G 1494 dL_law_39 hwr (by decide) (by decide) rfl (by decide) (case_24 hi hst G hN hk4 hX hbl hL hI (by omega) (by omega) (by omega) (by omega) K)
          | 25, _, hwr => j_tabIn G 1562 dL_law_39 hwr (by decide) (by decide) rfl (by decide) (case_25 hi hst G hN hk4 hX hbl hL hI (by omega) (by omega) (by omega) (by omega) K)
          | 26, _, hwr => j_tabIn G 1630 dL_law_39 hwr (by decide) (by decide) rfl (by decide) (case_26 hi hst G hN hk4 hX hbl hL hI (by omega) (by omega) (by omega) (by omega) K)
          | 27, _, hwr => j_tabIn G 1686 dL_law_39 hwr (by decide) (by decide) rfl (by decide) (case_27 hi hst G hN hk4 hX hbl hL hI (by omega) (by omega) (by omega) (by omega) K)
          | 28, _, hwr => j_tabIn G 1778 dL_law_39 hwr (by decide) (by decide) rfl (by decide) (case_28 hi hst G hN hk4 hX hbl hL hI (by omega) (by omega) (by omega) (by omega) K)
          | 29, _, hwr => j_tabIn G 1819 dL_law_39 hwr (by decide) (by decide) rfl (by decide) (case_29 hi hst G hN hk4 hX hbl hL hI (by omega) (by omega) (by omega) (by omega) K)
          | 30, _, hwr => j_tabIn G 1863 dL_law_39 hwr (by decide) (by decide) rfl (by decide) (case_30 hi hst G hN hk4 hX hbl hL hI (by omega) (by omega) (by omega) (by omega) K)
          | 31, _, hwr => j_tabIn G 1907 dL_law_39 hwr (by decide) (by decide) rfl (by decide) (case_31 hi hst G hN hk4 hX hbl hL hI (by omega) (by omega) (by omega) (by omega) K)
          | 32, _, hwr => j_tabIn G 1963 dL_law_39 hwr (by decide) (by decide) rfl (by decide) (case_32 hi hst G hN hk4 hX hbl hL hI (by omega) (by omega) (by omega) (by omega) K)
          | 33, _, hwr => j_tabIn G 2019 dL_law_39 hwr (by decide) (by decide) rfl (by decide) (case_33 hi hst G hN hk4 hX hbl hL hI (by omega) (by omega) (by omega) (by omega) K)
          | 34, _, hwr => j_tabIn G 2087 dL_law_39 hwr (by decide) (by decide) rfl (by decide) (case_34 hi hst G hN hk4 hX hbl hL hI (by omega) (by omega) (by omega) (by omega) K)
          | 35, _, hwr => j_tabIn G 2143 dL_law_39 hwr (by decide) (by decide) rfl (by decide) (case_35 hi hst G hN hk4 hX hbl hL hI (by omega) (by omega) (by omega) (by omega) K)
          | 36, _, hwr => j_tabIn G 2211 dL_law_39 hwr (by decide) (by decide) rfl (by decide) (case_36 hi hst G hN hk4 hX hbl hL hI (by omega) (by omega) (by omega) (by omega) K)
          | 37, _, hwr => j_tabIn G 2224 dL_law_39 hwr (by decide) (by decide) rfl (by decide) (case_37 hi hst G hN hk4 hX hbl hL hI (by omega) (by omega) (by omega) (by omega) K)
          | 38, _, hwr => j_tabIn G 2268 dL_law_39 hwr (by decide) (by decide) rfl (by decide) (case_38 hi hst G hN hk4 hX hbl hL hI (by omega) (by omega) (by omega) (by omega) K)
          | 39, _, hwr => j_tabIn G 2324 dL_law_39 hwr (by decide) (by decide) rfl (by decide) (case_39 hi hst G hN hk4 hX hbl hL hI (by omega) (by omega) (by omega) (by omega) K)
          | 40, _, hwr => j_tabIn G 2380 dL_law_39 hwr (by decide) (by decide) rfl (by decide) (case_40 hi hst G hN hk4 hX hbl hL hI (by omega) (by omega) (by omega) (by omega) K)
          | 41, _, hwr => j_tabIn G 2393 dL_law_39 hwr (by decide) (by decide) rfl (by decide) (case_41 hi hst G hN hk4 hX hbl hL hI (by omega) (by omega) (by omega) (by omega) K)
          | 42, _, hwr => j_tabIn G 2449 dL_law_39 hwr (by decide) (by decide) rfl (by decide) (case_42 hi hst G hN hk4 hX hbl hL hI (by omega) (by omega) (by omega) (by omega) K)
          | 43, _, hwr => j_tabIn G 2512 dL_law_39 hwr (by decide) (by decide) rfl (by decide) (case_43 hi hst G hN hk4 hX hbl hL hI (by omega) (by omega) (by omega) (by omega) K)
          | 44, _, hwr => j_tabIn G 2525 dL_law_39 hwr (by decide) (by decide) rfl (by decide) (case_44 hi hst G hN hk4 hX hbl hL hI (by omega) (by omega) (by omega) (by omega) K)
          | 45, _, hwr => j_tabIn G 2538 dL_law_39 hwr (by decide) (by decide) rfl (by decide) (case_45 hi hst G hN hk4 hX hbl hL hI (by omega) (by omega) (by omega) (by omega) K)
          | 46, _, hwr => j_tabIn G 2551 dL_law_39 hwr (by decide) (by decide) rfl (by decide) (case_46 hi hst G hN hk4 hX hbl hL hI (by omega) (by omega) (by omega) (by omega) K)
          | 47, _, hwr => j_tabIn G 2564 dL_law_39 hwr (by decide) (by decide) rfl (by decide) (case_47 hi hst G hN hk4 hX hbl hL hI (by omega) (by omega) (by omega) (by omega) K)
          | x + 48, h, _ => absurd h (by omega))
      · refine j_tabOut G 2578 dL_law_39 hwr (by omega) (by decide) ?_
        refine j_wid (cells' := 200 + 200 * t + 200) (slots' := 3000 + 3000 * t + 3000) (by omega) (by omega) ?_
        exact K L g X Z hI
set_option maxRecDepth 100000 in
set_option maxHeartbeats 8000000 in
theorem start_walk {p : Program} {l : Launch} {e : Env} {s : State} {m : MethodId} {below : List Frame} {meth : Method} {c : Code} {D : va_G} {cys : Nat → ClassId} {b Ls : Nat} {xs : Nat → Int32} (hst : l.stackTraces = false) (G : GK p l s m #[Value.ref b] meth c D cys (fun q => s.heap.size ≤ q) code RL 9) (hN : NCS s) (hX : va_X b Ls xs s s.heap) (hbl : b < s.heap.size) (hL : Ls ≤ 2560) (hr : meth.sig.returnType = ret) (hAmb : Amb (fun q => s.heap.size ≤ q) s s.heap) : KK p l e room_1 s m #[Value.ref b] below meth c D (fun q => s.heap.size ≤ q) (lw_Z below #[Value.ref b] s) 9 0 0 [] [] 0 [(0, .ref b)] [] := by
  refine k_new G (ci := 6) (fs := [.null, .null, .null, .null, .null, .int 0, .int 0, .int 0, .int 0, .null, .null, .null]) rfl inT6 tyX6_ok fsX6 (TW_of 89 (by decide +kernel) (by decide +kernel)) (TW_of 90 (by decide +kernel) (by decide +kernel)) (TW_of 72 (by decide +kernel) (by decide +kernel)) dL_law_0 ⟨by decide, by decide⟩ (fun a6 => ?_)
  refine k_dup G dL_law_3 rfl ?_
  refine k_call G (TW_of 92 (by decide +kernel) (by decide +kernel)) (TW_of 72 (by decide +kernel) (by decide +kernel)) (TW_of 93 (by decide +kernel) (by decide +kernel)) ⟨by decide +kernel, by decide +kernel, by decide +kernel⟩ rfl (TW_of 91 (by decide +kernel) (by decide +kernel)) (ck_X6 a6) dL_law_4 ⟨by decide, by decide⟩ ⟨by decide, by decide⟩ (Nat.le_of_ble_eq_true rfl) (fun tl6 h6 => ?_)
  refine k_astore_n G dL_law_7 (by decide) rfl ?_
  refine k_new G (ci := 7) (fs := [.int 0, .int 0, .null, .null, .null, .null, .null, .null, .int 0, .null, .null, .int 0, .null, .int 0, .int 0, .null, .null, .null, .long 0]) rfl inT7 tyX7_ok fsX7 (TW_of 956 (by decide +kernel) (by decide +kernel)) (TW_of 957 (by decide +kernel) (by decide +kernel)) (TW_of 79 (by decide +kernel) (by decide +kernel)) dL_law_8 ⟨by decide, by decide⟩ (fun a7 => ?_)
  refine k_dup G dL_law_11 rfl ?_
  refine k_call G (TW_of 959 (by decide +kernel) (by decide +kernel)) (TW_of 79 (by decide +kernel) (by decide +kernel)) (TW_of 960 (by decide +kernel) (by decide +kernel)) ⟨by decide +kernel, by decide +kernel, by decide +kernel⟩ rfl (TW_of 958 (by decide +kernel) (by decide +kernel)) (ck_X7 a7) dL_law_12 ⟨by decide, by decide⟩ ⟨by decide, by decide⟩ (Nat.le_of_ble_eq_true rfl) (fun tl7 h7 => ?_)
  refine k_astore_n G dL_law_15 (by decide) rfl ?_
  refine k_iconst G dL_law_16 ?_
  refine k_newJ G 1 dL_law_17 (by decide +kernel) (by decide +kernel) (by decide) ⟨by decide, by decide⟩ (fun ao => ?_)
  refine k_astore_n G dL_law_19 (by decide) rfl ?_
  refine k_iconst G dL_law_20 ?_
  refine k_istore G dL_law_21 (by decide) rfl ?_
  obtain ⟨cb1, cb2, cb3, cr4, cb5, cb6, cb7, cb8, cb9, cb10, cb11, cb12, cb13, cb14, cb15, cb16, cb17, cb18, cb19, cb20, cb21, cb22, cb23, cb24, cb25, cb26, cb27, cr27, cb28, cb29, cb30, cb31, cb32, cb33, cb34, cb35, cb36, cb37, cb38, cb39, cb40, cb41, cb42, cb43, rfl⟩ := h6
  obtain ⟨db1, db2, db3, dr3, db4, dr4, db5, db6, db7, db8, db9, db10, db11, db12, rfl⟩ := h7
  obtain ⟨q, hq⟩ : ∃ q : Nat → Nat, q = fun n => ([a6, cb1, cb2, cb3, (cr4 0), (cr4 1), (cr4 2), (cr4 3), cb5, cb6, cb7, cb8, cb9, cb10, cb11, cb12, cb13, cb14, cb15, cb16, cb17, cb18, cb19, cb20, cb21, cb22, cb23, cb24, cb25, cb26, cb27, (cr27 0), (cr27 1), (cr27 2), (cr27 3), (cr27 4), (cr27 5), (cr27 6), (cr27 7), (cr27 8), (cr27 9), (cr27 10), (cr27 11), (cr27 12), (cr27 13), (cr27 14), (cr27 15), (cr27 16), (cr27 17), (cr27 18), (cr27 19), (cr27 20), (cr27 21), (cr27 22), (cr27 23), cb28, cb29, cb30, cb31, cb32, cb33, cb34, cb35, cb36, cb37, cb38, cb39, cb40, cb41, cb42, cb43, a7, db1, db2, db3, (dr3 0), (dr3 1), (dr3 2), (dr3 3), db4, (dr4 0), (dr4 1), (dr4 2), (dr4 3), db5, db6, db7, db8, db9, db10, db11, db12, ao] : List Nat).getD n 0 := ⟨_, rfl⟩
  refine k_eq (tl' := TLf cys q cr4 cr27 dr3 dr4) (by rw [hq]; rfl) ?_
  have h4 : ∀ j, j < 4 → cr4 j = q (4 + j) := fun j hj => by rw [hq]; exact (match j, hj with
    | 0, _ => rfl
    | 1, _ => rfl
    | 2, _ => rfl
    | 3, _ => rfl
    | x + 4, h => absurd h (by omega))
  have h27 : ∀ j, j < 24 → cr27 j = q (31 + j) := fun j hj => by rw [hq]; exact (match j, hj with
    | 0, _ => rfl
    | 1, _ => rfl
    | 2, _ => rfl
    | 3, _ => rfl
    | 4, _ => rfl
    | 5, _ => rfl
    | 6, _ => rfl
    | 7, _ => rfl
    | 8, _ => rfl
    | 9, _ => rfl
    | 10, _ => rfl
    | 11, _ => rfl
    | 12, _ => rfl
    | 13, _ => rfl
    | 14, _ => rfl
    | 15, _ => rfl
    | 16, _ => rfl
    | 17, _ => rfl
    | 18, _ => rfl
    | 19, _ => rfl
    | 20, _ => rfl
    | 21, _ => rfl
    | 22, _ => rfl
    | 23, _ => rfl
    | x + 24, h => absurd h (by omega))
  have h3 : ∀ j, j < 4 → dr3 j = q (75 + j) := fun j hj => by rw [hq]; exact (match j, hj with
    | 0, _ => rfl
    | 1, _ => rfl
    | 2, _ => rfl
    | 3, _ => rfl
    | x + 4, h => absurd h (by omega))
  have h34 : ∀ j, j < 4 → dr4 j = q (80 + j) := fun j hj => by rw [hq]; exact (match j, hj with
    | 0, _ => rfl
    | 1, _ => rfl
    | 2, _ => rfl
    | 3, _ => rfl
    | x + 4, h => absurd h (by omega))
  have q0 : a6 = q 0 := by rw [hq]; rfl
  have q71 : a7 = q 71 := by rw [hq]; rfl
  have q92 : ao = q 92 := by rw [hq]; rfl
  clear hq
  intro H locs ls hP hD hS hl
  rw [List.nil_append] at hP hD
  obtain ⟨ad, L, g, hi, hSL, hP1, hD1, e0, e24, hI⟩ := start_mem h4 h27 h3 h34 hP hD
  have GJ : GG p l s m #[Value.ref b] meth c D cys ad (fun q => s.heap.size ≤ q) code RL 9 := ⟨G.x, G.b, G.ml, G.ow, G.ts, G.K, G.lk, G.fr, hi, hAmb⟩
  rw [← q92] at hI
  have hloop := law_loop (e := e) (below := below) hi hst GJ hN G.sf.hk4 hX hbl hL hr 512 0 L g 0 Z00 (by omega) (by omega) hI
  refine (j_wid (cells' := 200 + 200 * 0) (slots' := 3000 + 3000 * 0) (by decide) (by decide) (j_keep [0, 1, 2, 3, 4] ?_) : JJ p l e room_1 s m #[Value.ref b] below meth c D cys ad (fun q => s.heap.size ≤ q) (lw_Z below #[Value.ref b] s) 9 _ _ L g 0 Z00 23 _ []) H locs ls hSL hP1 hD1 hS hl
  have ev : LV5 b ad ao (5 * ((0 : Nat) : Int)) = [(0, .ref b), (1, .ref a6), (2, .ref a7), (3, .ref ao), (4, .int (iI 0))] := by
    rw [q0, q71, ← e0, ← e24]; rfl
  rw [ev] at hloop
  exact hloop
