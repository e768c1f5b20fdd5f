theorem dX6_layTable_0 : decode cX6_layTable 0 = .ok (.aload_n 0, 1) := by decide +kernel
theorem dX6_layTable_1 : decode cX6_layTable 1 = .ok (.aload_n 0, 1) := by decide +kernel
theorem dX6_layTable_2 : decode cX6_layTable 2 = .ok (.getfield 32, 3) := by decide +kernel
theorem dX6_layTable_5 : decode cX6_layTable 5 = .ok (.invokevirtual 349, 3) := by decide +kernel
theorem dX6_layTable_8 : decode cX6_layTable 8 = .ok (.aload_n 0, 1) := by decide +kernel
theorem dX6_layTable_9 : decode cX6_layTable 9 = .ok (.aload_n 0, 1) := by decide +kernel
theorem dX6_layTable_10 : decode cX6_layTable 10 = .ok (.getfield 36, 3) := by decide +kernel
theorem dX6_layTable_13 : decode cX6_layTable 13 = .ok (.invokevirtual 349, 3) := by decide +kernel
theorem dX6_layTable_16 : decode cX6_layTable 16 = .ok (.aload_n 0, 1) := by decide +kernel
theorem dX6_layTable_17 : decode cX6_layTable 17 = .ok (.invokevirtual 353, 3) := by decide +kernel
theorem dX6_layTable_20 : decode cX6_layTable 20 = .ok (.iconst 0, 1) := by decide +kernel
theorem dX6_layTable_21 : decode cX6_layTable 21 = .ok (.istore_n 1, 1) := by decide +kernel
theorem dX6_layTable_22 : decode cX6_layTable 22 = .ok (.iload_n 1, 1) := by decide +kernel
theorem dX6_layTable_23 : decode cX6_layTable 23 = .ok (.aload_n 0, 1) := by decide +kernel
theorem dX6_layTable_24 : decode cX6_layTable 24 = .ok (.getfield 18, 3) := by decide +kernel
theorem dX6_layTable_27 : decode cX6_layTable 27 = .ok (.getfield 160, 3) := by decide +kernel
theorem dX6_layTable_30 : decode cX6_layTable 30 = .ok (.if_icmp .ge 22, 3) := by decide +kernel
theorem dX6_layTable_33 : decode cX6_layTable 33 = .ok (.aload_n 0, 1) := by decide +kernel
theorem dX6_layTable_34 : decode cX6_layTable 34 = .ok (.iload_n 1, 1) := by decide +kernel
theorem dX6_layTable_35 : decode cX6_layTable 35 = .ok (.invokevirtual 175, 3) := by decide +kernel
theorem dX6_layTable_38 : decode cX6_layTable 38 = .ok (.ifCond .eq 8, 3) := by decide +kernel
theorem dX6_layTable_41 : decode cX6_layTable 41 = .ok (.aload_n 0, 1) := by decide +kernel
theorem dX6_layTable_42 : decode cX6_layTable 42 = .ok (.iload_n 1, 1) := by decide +kernel
theorem dX6_layTable_43 : decode cX6_layTable 43 = .ok (.invokevirtual 356, 3) := by decide +kernel
theorem dX6_layTable_46 : decode cX6_layTable 46 = .ok (.iinc 1 1, 3) := by decide +kernel
theorem dX6_layTable_49 : decode cX6_layTable 49 = .ok (.goto (-27), 3) := by decide +kernel
theorem dX6_layTable_52 : decode cX6_layTable 52 = .ok (.aload_n 0, 1) := by decide +kernel
theorem dX6_layTable_53 : decode cX6_layTable 53 = .ok (.getfield 32, 3) := by decide +kernel
theorem dX6_layTable_56 : decode cX6_layTable 56 = .ok (.aload_n 0, 1) := by decide +kernel
theorem dX6_layTable_57 : decode cX6_layTable 57 = .ok (.getfield 232, 3) := by decide +kernel
theorem dX6_layTable_60 : decode cX6_layTable 60 = .ok (.invokevirtual 359, 3) := by decide +kernel
theorem dX6_layTable_63 : decode cX6_layTable 63 = .ok (.aload_n 0, 1) := by decide +kernel
theorem dX6_layTable_64 : decode cX6_layTable 64 = .ok (.getfield 36, 3) := by decide +kernel
theorem dX6_layTable_67 : decode cX6_layTable 67 = .ok (.aload_n 0, 1) := by decide +kernel
theorem dX6_layTable_68 : decode cX6_layTable 68 = .ok (.getfield 232, 3) := by decide +kernel
theorem dX6_layTable_71 : decode cX6_layTable 71 = .ok (.invokevirtual 359, 3) := by decide +kernel
theorem dX6_layTable_74 : decode cX6_layTable 74 = .ok (.return_, 1) := by decide +kernel
theorem dX6_cellOfLines_0 : decode cX6_cellOfLines 0 = .ok (.aload_n 0, 1) := by decide +kernel
theorem dX6_cellOfLines_1 : decode cX6_cellOfLines 1 = .ok (.getfield 32, 3) := by decide +kernel
theorem dX6_cellOfLines_4 : decode cX6_cellOfLines 4 = .ok (.iload_n 1, 1) := by decide +kernel
theorem dX6_cellOfLines_5 : decode cX6_cellOfLines 5 = .ok (.invokevirtual 344, 3) := by decide +kernel
theorem dX6_cellOfLines_8 : decode cX6_cellOfLines 8 = .ok (.ifCond .eq 14, 3) := by decide +kernel
theorem dX6_cellOfLines_11 : decode cX6_cellOfLines 11 = .ok (.aload_n 0, 1) := by decide +kernel
theorem dX6_cellOfLines_12 : decode cX6_cellOfLines 12 = .ok (.getfield 36, 3) := by decide +kernel
theorem dX6_cellOfLines_15 : decode cX6_cellOfLines 15 = .ok (.iload_n 2, 1) := by decide +kernel
theorem dX6_cellOfLines_16 : decode cX6_cellOfLines 16 = .ok (.invokevirtual 344, 3) := by decide +kernel
theorem dX6_cellOfLines_19 : decode cX6_cellOfLines 19 = .ok (.ifCond .ne 5, 3) := by decide +kernel
theorem dX6_cellOfLines_22 : decode cX6_cellOfLines 22 = .ok (.iconst 0, 1) := by decide +kernel
theorem dX6_cellOfLines_23 : decode cX6_cellOfLines 23 = .ok (.ireturn, 1) := by decide +kernel
theorem dX6_cellOfLines_24 : decode cX6_cellOfLines 24 = .ok (.aload_n 0, 1) := by decide +kernel
theorem dX6_cellOfLines_25 : decode cX6_cellOfLines 25 = .ok (.getfield 55, 3) := by decide +kernel
theorem dX6_cellOfLines_28 : decode cX6_cellOfLines 28 = .ok (.aload_n 0, 1) := by decide +kernel
theorem dX6_cellOfLines_29 : decode cX6_cellOfLines 29 = .ok (.getfield 32, 3) := by decide +kernel
theorem dX6_cellOfLines_32 : decode cX6_cellOfLines 32 = .ok (.getfield 374, 3) := by decide +kernel
theorem dX6_cellOfLines_35 : decode cX6_cellOfLines 35 = .ok (.iload_n 1, 1) := by decide +kernel
theorem dX6_cellOfLines_36 : decode cX6_cellOfLines 36 = .ok (.iaload, 1) := by decide +kernel
theorem dX6_cellOfLines_37 : decode cX6_cellOfLines 37 = .ok (.aaload, 1) := by decide +kernel
theorem dX6_cellOfLines_38 : decode cX6_cellOfLines 38 = .ok (.aload_n 0, 1) := by decide +kernel
theorem dX6_cellOfLines_39 : decode cX6_cellOfLines 39 = .ok (.getfield 36, 3) := by decide +kernel
theorem dX6_cellOfLines_42 : decode cX6_cellOfLines 42 = .ok (.getfield 374, 3) := by decide +kernel
theorem dX6_cellOfLines_45 : decode cX6_cellOfLines 45 = .ok (.iload_n 2, 1) := by decide +kernel
theorem dX6_cellOfLines_46 : decode cX6_cellOfLines 46 = .ok (.iaload, 1) := by decide +kernel
theorem dX6_cellOfLines_47 : decode cX6_cellOfLines 47 = .ok (.iaload, 1) := by decide +kernel
theorem dX6_cellOfLines_48 : decode cX6_cellOfLines 48 = .ok (.ireturn, 1) := by decide +kernel
/-! by program: wip/whole/gen.py out of wip/whole/src/17.lay.eb -/
set_option maxRecDepth 100000 in
set_option maxHeartbeats 8000000 in
theorem c_X6_layTable {l : Launch} {D : va_G} {cys : Nat → ClassId} {ad : Nat → Int → Nat} {L : List Nat} {g : Nat → va_E} {X : Int64} {Z : ZT} (hi : injA ad) {S : ZT} (hS : SP S Z) (hW : WF S) (ha : S 0 0 7 = 1) : CM l D cys ad yX6_layTable cX6_layTable 2 none 4 95 0 0 [.ref (ad 0 0)] L g X Z (PVZ L g X Z (fun Z' => TAB S Z')) := by
  refine cm_start hi (by decide +kernel) (Nat.le_of_ble_eq_true rfl) ?_
  intro p_ e_ s_ m_ args_ below_ meth_ c_ A_ Q_ hQ G hr hin
  have hf := hW.f
  have hba := hW.ba
  have ha0 := allL_ok hW ha (i := 0) (by omega) (by omega)
  have ha1 := allL_ok hW ha (i := 1) (by omega) (by omega)
  have hz : (0 : Int) ≤ 0 ∧ (0 : Int) < 2 := by omega
  have ho : (0 : Int) ≤ 1 ∧ (1 : Int) < 2 := by omega
  refine j_aload_n G dX6_layTable_0 rfl ?_
  refine j_aload_n G dX6_layTable_1 rfl ?_
  refine gf_0_3 G dX6_layTable_2 lf6_32 (by first | assumption | decide) ?_
  refine j_cVVZ G cvX6_layAxis ml6_349 (c_X6_layAxis hi hS hW ha hz) dX6_layTable_5 ⟨by decide, by decide⟩ ⟨by decide, by decide⟩ rfl rfl (Nat.le_of_ble_eq_true rfl) (by first | assumption | decide) rfl rfl rfl (fun Z5 h5 => ?_)
  obtain ⟨hS5, hL5, hU5, hF5⟩ := h5
  refine j_aload_n G dX6_layTable_8 rfl ?_
  refine j_aload_n G dX6_layTable_9 rfl ?_
  refine gf_0_4 G dX6_layTable_10 lf6_36 (by first | assumption | decide) ?_
  refine j_cVVZ G cvX6_layAxis ml6_349 (c_X6_layAxis hi hS5 hW ha ho) dX6_layTable_13 ⟨by decide, by decide⟩ ⟨by decide, by decide⟩ rfl rfl (Nat.le_of_ble_eq_true rfl) (by first | assumption | decide) rfl rfl rfl (fun Z13 h13 => ?_)
  obtain ⟨hS13, hL13, hU13, hF13⟩ := h13
  have hL13' : LST Z13 0 (allL S 0) := hL5.of (by rw [hF13 16 0 (by omega)]) (by rw [hF13 17 0 (by omega)])
  have hl0 := hL13'.1
  have hl1 := hL13.1
  have h16 : ∀ i, 0 ≤ i → i < 2 → 0 ≤ Z13 16 i 1 ∧ Z13 16 i 1 ≤ 24 := by
    intro i i0 i1
    rcases (show i = 0 ∨ i = 1 by omega) with rfl | rfl <;> omega
  refine j_aload_n G dX6_layTable_16 rfl ?_
  refine j_cVVZ G cvX6_clearCells ml6_353 (c_X6_clearCells hi h16) dX6_layTable_17 ⟨by decide, by decide⟩ ⟨by decide, by decide⟩ rfl rfl (Nat.le_of_ble_eq_true rfl) (by first | assumption | decide) rfl rfl rfl (fun Z17 h17 => ?_)
  obtain ⟨hA17, hB17⟩ := h17
  have hLAY : LAY S Z17 0 := by
    refine ⟨⟨fun k hk => by rw [hA17 k (by rintro rfl; cases hk)]; exact hS13.1 k hk, fun i => by rw [hA17 15 (by decide)]; exact hS13.2 i⟩, ?_, ?_, fun r w r0 r1 w0 w1 => ?_, fun i j i0 i1 j0 j1 => ?_, fun j j0 j1 => ?_, fun j j0 j1 => ?_⟩
    · exact hL13'.of (by rw [hA17 16 (by decide)]) (by rw [hA17 17 (by decide)])
    · exact hL13.of (by rw [hA17 16 (by decide)]) (by rw [hA17 17 (by decide)])
    · exact hB17 r w r0 (by omega) w0 (by omega)
    · rw [hA17 18 (by decide)]
      rcases (show i = 0 ∨ i = 1 by omega) with rfl | rfl
      · rw [hF13 18 0 (by omega), hU5 j j0 j1]; exact Or.inl rfl
      · rw [hU13 j j0 j1]; exact Or.inl rfl
    · rw [hA17 18 (by decide), hF13 18 0 (by omega), hU5 j j0 (by omega)]
      refine ⟨fun q => by omega, ?_⟩
      rintro ⟨k, k0, k1, -⟩
      omega
    · rw [hA17 18 (by decide), hU13 j j0 (by omega)]
      refine ⟨fun q => by omega, ?_⟩
      rintro ⟨k, k0, k1, -⟩
      omega
  refine j_iconst G dX6_layTable_20 ?_
  refine j_istore_n G dX6_layTable_21 (by decide) rfl ?_
  have loop : ∀ (n : Nat) (a : Int) (Y : ZT), 0 ≤ a → a ≤ S 6 0 3 → (S 6 0 3 - a).toNat = n → LAY S Y a → JJ p_ l e_ { frames := 4, cells := 0, slots := 0, locals := 95 } s_ m_ args_ below_ meth_ c_ D cys ad A_ Q_ 2 0 0 L g X Y 22 [(0, .ref (ad 0 0)), (1, .int (iI a))] [] := by
    intro n
    induction n with
    | zero =>
      intro a Y h0 h1 h2 h3
      have hSY := h3.1
      have e63 : Y 6 0 3 = S 6 0 3 := by rw [hSY.1 6 rfl]
      have e08 : Y 0 0 8 = S 0 0 8 := by rw [hSY.1 0 rfl]
      have ea : a = S 6 0 3 := by omega
      subst ea
      obtain ⟨-, g2, g3, g4, g5, g6, g7⟩ := h3
      have hn0 := g2.1
      have hn1 := g3.1
      have b60 : 0 ≤ Y 16 0 1 ∧ Y 16 0 1 ≤ 24 := by omega
      have u60 : ∀ j, 0 ≤ j → j < Y 16 0 1 → Y 18 0 j = 0 ∨ Y 18 0 j = 1 := fun j j0 j1 => g5 0 j (by omega) (by omega) j0 (by omega)
      have hb60 : Y 0 0 8 = 0 ∨ Y 0 0 8 = 1 := by omega
      refine j_iload_n G dX6_layTable_22 rfl ?_
      refine j_aload_n G dX6_layTable_23 rfl ?_
      refine gf_0_1 G dX6_layTable_24 lf6_18 (by first | assumption | decide) ?_
      refine gf_6_3 G dX6_layTable_27 lf6_160 (by first | assumption | decide) ?_
      refine j_icmp_ge G 52 dX6_layTable_30 (by decide) (by omega) (by omega) (fun c30 => ?_) (fun c30 => ?_)
      · refine j_aload_n G dX6_layTable_52 rfl ?_
        refine gf_0_3 G dX6_layTable_53 lf6_32 (by first | assumption | decide) ?_
        refine j_aload_n G dX6_layTable_56 rfl ?_
        refine gf_0_8 G dX6_layTable_57 lf6_232 (by first | assumption | decide) ?_
        refine j_cVVZ G cvX0_showLines ml6_359 (c_X0_showLines hi (by decide) (by decide) hb60 b60 u60) dX6_layTable_60 ⟨by decide, by decide⟩ ⟨by decide, by decide⟩ rfl rfl (Nat.le_of_ble_eq_true rfl) (by first | assumption | decide) rfl rfl rfl (fun Z60 h60 => ?_)
        obtain ⟨p1, p2, p3, p4⟩ := h60
        have e0 : Z60 0 0 8 = Y 0 0 8 := by rw [p1 0 0 (by omega)]
        have e16 : Z60 16 1 1 = Y 16 1 1 := by rw [p1 16 1 (by omega)]
        have e18 : Z60 18 1 = Y 18 1 := p1 18 1 (by omega)
        have hb71 : Z60 0 0 8 = 0 ∨ Z60 0 0 8 = 1 := by omega
        have b71 : 0 ≤ Z60 16 1 1 ∧ Z60 16 1 1 ≤ 24 := by omega
        have u71 : ∀ j, 0 ≤ j → j < Z60 16 1 1 → Z60 18 1 j = 0 ∨ Z60 18 1 j = 1 := fun j j0 j1 => by rw [e18]; exact g5 1 j (by omega) (by omega) j0 (by omega)
        refine j_aload_n G dX6_layTable_63 rfl ?_
        refine gf_0_4 G dX6_layTable_64 lf6_36 (by first | assumption | decide) ?_
        refine j_aload_n G dX6_layTable_67 rfl ?_
        refine gf_0_8 G dX6_layTable_68 lf6_232 (by first | assumption | decide) ?_
        refine j_cVVZ G cvX0_showLines ml6_359 (c_X0_showLines hi (by decide) (by decide) hb71 b71 u71) dX6_layTable_71 ⟨by decide, by decide⟩ ⟨by decide, by decide⟩ rfl rfl (Nat.le_of_ble_eq_true rfl) (by first | assumption | decide) rfl rfl rfl (fun Z71 h71 => ?_)
        refine jr_VZ G hQ hr dX6_layTable_74 (by decide) (by decide) ?_
        obtain ⟨q1, q2, q3, q4⟩ := h71
        have hS71 : SP S Z71 := by
          refine ⟨fun k hk => ?_, fun i => ?_⟩
          · funext i
            rw [q1 k i (by rintro ⟨rfl | rfl, -⟩ <;> cases hk), p1 k i (by rintro ⟨rfl | rfl, -⟩ <;> cases hk)]
            exact congrFun (hSY.1 k hk) i
          · by_cases e : i = 1
            · subst e
              rw [q2 4 (by decide), q2 5 (by decide), p1 15 1 (by omega)]
              exact hSY.2 1
            · rw [q1 15 i (by omega)]
              by_cases e' : i = 0
              · subst e'
                rw [p2 4 (by decide), p2 5 (by decide)]
                exact hSY.2 0
              · rw [p1 15 i (by omega)]
                exact hSY.2 i
        have t0 : (Y 16 0 1).toNat = (allL S 0).length := by omega
        have t1 : (Z60 16 1 1).toNat = (allL S 1).length := by omega
        rw [t0] at p3 p4
        rw [t1, e18, e0] at q3 q4
        rw [e08] at p3 p4 q3 q4
        have s0 := shw_tab (W := allL S 0) (u := Y 18 0) (V := Z60 19 0) (b := S 0 0 8) (V3 := Z60 15 0 3) (fun m => S 0 0 8 = 0 ∨ usedP S 0 m) (fun j j0 j1 => by
          rw [g6 j j0 j1]
          exact ⟨fun z => z.elim Or.inr Or.inl, fun z => z.elim Or.inr Or.inl⟩) p3 p4
        have s1 := shw_tab (W := allL S 1) (u := Y 18 1) (V := Z71 19 1) (b := S 0 0 8) (V3 := Z71 15 1 3) (fun m => S 0 0 8 = 0 ∨ usedP S 1 m) (fun j j0 j1 => by
          rw [g7 j j0 j1]
          exact ⟨fun z => z.elim Or.inr Or.inl, fun z => z.elim Or.inr Or.inl⟩) q3 q4
        refine ⟨hS71, fun i i0 i1 => ?_, fun r w r0 r1 w0 w1 => ?_⟩
        · rcases (show i = 0 ∨ i = 1 by omega) with rfl | rfl
          · refine ⟨g2.of (by rw [q1 16 0 (by omega), p1 16 0 (by omega)]) (by rw [q1 17 0 (by omega), p1 17 0 (by omega)]), ?_⟩
            rw [q1 15 0 (by omega), q1 19 0 (by omega)]
            exact s0
          · exact ⟨g3.of (by rw [q1 16 1 (by omega), p1 16 1 (by omega)]) (by rw [q1 17 1 (by omega), p1 17 1 (by omega)]), s1⟩
        · rw [q1 23 r (by omega), p1 23 r (by omega)]
          exact g4 r w r0 r1 w0 w1
      · exfalso; omega
    | succ n ih =>
      intro a Y h0 h1 h2 h3
      have hSY := h3.1
      have e63 : Y 6 0 3 = S 6 0 3 := by rw [hSY.1 6 rfl]
      have hak : 0 ≤ a ∧ a < S 6 0 3 := by omega
      have hh1 : 0 ≤ a + 1 := by omega
      have hh2 : a + 1 ≤ S 6 0 3 := by omega
      have hh3 : (S 6 0 3 - (a + 1)).toNat = n := by omega
      refine j_iload_n G dX6_layTable_22 rfl ?_
      refine j_aload_n G dX6_layTable_23 rfl ?_
      refine gf_0_1 G dX6_layTable_24 lf6_18 (by first | assumption | decide) ?_
      refine gf_6_3 G dX6_layTable_27 lf6_160 (by first | assumption | decide) ?_
      refine j_icmp_ge G 52 dX6_layTable_30 (by decide) (by omega) (by omega) (fun c30 => ?_) (fun c30 => ?_)
      · exfalso; omega
      · refine j_aload_n G dX6_layTable_33 rfl ?_
        refine j_iload_n G dX6_layTable_34 rfl ?_
        refine j_cVI G cvX6_isSeen ml6_175 (c_X6_isSeen hi hSY hW hak) dX6_layTable_35 ⟨by decide, by decide⟩ ⟨by decide, by decide⟩ rfl rfl (Nat.le_of_ble_eq_true rfl) (by first | assumption | decide) rfl rfl rfl (fun r35 h35 => ?_)
        refine j_if_eq G 46 dX6_layTable_38 (by decide) (by omega) (fun c38 => ?_) (fun c38 => ?_)
        · refine j_iinc G dX6_layTable_46 rfl (by decide) rfl ?_
          refine j_goto G 22 dX6_layTable_49 (by decide) ?_
          first
          | (refine ih (a + 1) Y (by omega) (by omega) (by omega) (h3.none h0 (Or.inl ?_))
             rcases h35 with q | q
             · exfalso; omega
             · exact q.2)
          | (refine ih (a + 1) Z43 hh1 hh2 hh3 ?_
             rcases h43 with ⟨r, w, q1, q2, q3⟩ | ⟨q1, q2⟩
             · rw [q3]
               refine h3.some h0 ?_ ha0.2.1 ha1.2.1 q1 q2
               rcases h35 with q | q
               · exact q.2
               · exfalso; omega
             · rw [q1]
               exact h3.none h0 (Or.inr q2))
        · refine j_aload_n G dX6_layTable_41 rfl ?_
          refine j_iload_n G dX6_layTable_42 rfl ?_
          refine j_cVVZ G cvX6_putIntoCell ml6_356 (c_X6_putIntoCell hi hSY hW ha hak h3.2.1 h3.2.2.1) dX6_layTable_43 ⟨by decide, by decide⟩ ⟨by decide, by decide⟩ rfl rfl (Nat.le_of_ble_eq_true rfl) (by first | assumption | decide) rfl rfl rfl (fun Z43 h43 => ?_)
          refine j_iinc G dX6_layTable_46 rfl (by decide) rfl ?_
          refine j_goto G 22 dX6_layTable_49 (by decide) ?_
          first
          | (refine ih (a + 1) Y (by omega) (by omega) (by omega) (h3.none h0 (Or.inl ?_))
             rcases h35 with q | q
             · exfalso; omega
             · exact q.2)
          | (refine ih (a + 1) Z43 hh1 hh2 hh3 ?_
             rcases h43 with ⟨r, w, q1, q2, q3⟩ | ⟨q1, q2⟩
             · rw [q3]
               refine h3.some h0 ?_ ha0.2.1 ha1.2.1 q1 q2
               rcases h35 with q | q
               · exact q.2
               · exfalso; omega
             · rw [q1]
               exact h3.none h0 (Or.inr q2))
  exact loop _ 0 Z17 (by omega) (by omega) rfl hLAY
set_option maxRecDepth 100000 in
set_option maxHeartbeats 8000000 in
theorem c_X6_cellOfLines {l : Launch} {D : va_G} {cys : Nat → ClassId} {ad : Nat → Int → Nat} {L : List Nat} {g : Nat → va_E} {X : Int64} {Z : ZT} (hi : injA ad) {S : ZT} {q w : Int} (hT : TAB S Z) (hW : WF S) (ha : S 0 0 7 = 1) (hq : 0 ≤ q ∧ q < (LN S 0).length) (hw : 0 ≤ w ∧ w < (LN S 1).length) : CM l D cys ad yX6_cellOfLines cX6_cellOfLines 3 (some .int) 1 21 0 0 [.ref (ad 0 0), .int (iI q), .int (iI w)] L g X Z (PI L g X Z (fun r => r = tsum S ((LN S 0).getD q.toNat 0) ((LN S 1).getD w.toNat 0))) := by
  refine cm_start hi (by decide +kernel) (Nat.le_of_ble_eq_true rfl) ?_
  intro p_ e_ s_ m_ args_ below_ meth_ c_ A_ Q_ hQ G hr hin
  have ha0 := allL_ok hW ha (i := 0) (by omega) (by omega)
  have ha1 := allL_ok hW ha (i := 1) (by omega) (by omega)
  obtain ⟨hS, hI, hC⟩ := hT
  have h0 := hI 0 (by omega) (by omega)
  have h1 := hI 1 (by omega) (by omega)
  have b0 := h0.2.2 q hq.1 (by omega)
  have b1 := h1.2.2 w hw.1 (by omega)
  have hl0 : (LN S 0).length ≤ (allL S 0).length := by unfold LN; exact List.length_filter_le _ _
  have hl1 : (LN S 1).length ≤ (allL S 1).length := by unfold LN; exact List.length_filter_le _ _
  have e0 := h0.2.1
  have e1 := h1.2.1
  have hv23 : vd 23 (Z 19 0 q) := ⟨b0.1, show Z 19 0 q < 24 by omega⟩
  refine j_aload_n G dX6_cellOfLines_0 rfl ?_
  refine gf_0_3 G dX6_cellOfLines_1 lf6_32 (by first | assumption | decide) ?_
  refine j_iload_n G dX6_cellOfLines_4 rfl ?_
  refine j_cVI G cvX0_hasLine ml6_344 (c_X0_hasLine hi (by first | assumption | omega | decide) (by first | assumption | omega | decide) (by first | assumption | omega | decide)) dX6_cellOfLines_5 ⟨by decide, by decide⟩ ⟨by decide, by decide⟩ rfl rfl (Nat.le_of_ble_eq_true rfl) (by first | assumption | decide) rfl rfl rfl (fun r5 h5 => ?_)
  refine j_if_eq G 22 dX6_cellOfLines_8 (by decide) (by omega) (fun c8 => ?_) (fun c8 => ?_)
  · exfalso; omega
  · refine j_aload_n G dX6_cellOfLines_11 rfl ?_
    refine gf_0_4 G dX6_cellOfLines_12 lf6_36 (by first | assumption | decide) ?_
    refine j_iload_n G dX6_cellOfLines_15 rfl ?_
    refine j_cVI G cvX0_hasLine ml6_344 (c_X0_hasLine hi (by first | assumption | omega | decide) (by first | assumption | omega | decide) (by first | assumption | omega | decide)) dX6_cellOfLines_16 ⟨by decide, by decide⟩ ⟨by decide, by decide⟩ rfl rfl (Nat.le_of_ble_eq_true rfl) (by first | assumption | decide) rfl rfl rfl (fun r16 h16 => ?_)
    refine j_if_ne G 24 dX6_cellOfLines_19 (by decide) (by omega) (fun c19 => ?_) (fun c19 => ?_)
    · refine j_aload_n G dX6_cellOfLines_24 rfl ?_
      refine gf_0_11 G dX6_cellOfLines_25 lf6_55 (by first | assumption | decide) ?_
      refine j_aload_n G dX6_cellOfLines_28 rfl ?_
      refine gf_0_3 G dX6_cellOfLines_29 lf6_32 (by first | assumption | decide) ?_
      refine gf_15_2 G dX6_cellOfLines_32 lf6_374 (by first | assumption | decide) ?_
      refine j_iload_n G dX6_cellOfLines_35 rfl ?_
      refine al_19 G dX6_cellOfLines_36 (by first | assumption | decide) (by omega) (by omega) ?_
      refine al_22 G dX6_cellOfLines_37 (by first | assumption | decide) (by omega) (by omega) ?_
      refine j_aload_n G dX6_cellOfLines_38 rfl ?_
      refine gf_0_4 G dX6_cellOfLines_39 lf6_36 (by first | assumption | decide) ?_
      refine gf_15_2 G dX6_cellOfLines_42 lf6_374 (by first | assumption | decide) ?_
      refine j_iload_n G dX6_cellOfLines_45 rfl ?_
      refine al_19 G dX6_cellOfLines_46 (by first | assumption | decide) (by omega) (by omega) ?_
      refine al_23 G dX6_cellOfLines_47 (by first | assumption | decide) (by omega) (by omega) ?_
      refine jr_I G hQ hr dX6_cellOfLines_48 (by decide) (by decide) ?_
      rw [hC _ _ b0.1 b0.2.1 b1.1 b1.2.1, b0.2.2, b1.2.2]
    · exfalso; omega

