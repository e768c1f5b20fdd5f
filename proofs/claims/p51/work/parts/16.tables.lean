theorem dX6_layAxis_0 : decode cX6_layAxis 0 = .ok (.aload_n 0, 1) := by decide +kernel
theorem dX6_layAxis_1 : decode cX6_layAxis 1 = .ok (.getfield 11, 3) := by decide +kernel
theorem dX6_layAxis_4 : decode cX6_layAxis 4 = .ok (.aload_n 1, 1) := by decide +kernel
theorem dX6_layAxis_5 : decode cX6_layAxis 5 = .ok (.getfield 216, 3) := by decide +kernel
theorem dX6_layAxis_8 : decode cX6_layAxis 8 = .ok (.aaload, 1) := by decide +kernel
theorem dX6_layAxis_9 : decode cX6_layAxis 9 = .ok (.astore_n 2, 1) := by decide +kernel
theorem dX6_layAxis_10 : decode cX6_layAxis 10 = .ok (.aload_n 2, 1) := by decide +kernel
theorem dX6_layAxis_11 : decode cX6_layAxis 11 = .ok (.aload_n 2, 1) := by decide +kernel
theorem dX6_layAxis_12 : decode cX6_layAxis 12 = .ok (.getfield 150, 3) := by decide +kernel
theorem dX6_layAxis_15 : decode cX6_layAxis 15 = .ok (.aload_n 1, 1) := by decide +kernel
theorem dX6_layAxis_16 : decode cX6_layAxis 16 = .ok (.getfield 219, 3) := by decide +kernel
theorem dX6_layAxis_19 : decode cX6_layAxis 19 = .ok (.aload_n 1, 1) := by decide +kernel
theorem dX6_layAxis_20 : decode cX6_layAxis 20 = .ok (.getfield 363, 3) := by decide +kernel
theorem dX6_layAxis_23 : decode cX6_layAxis 23 = .ok (.invokevirtual 134, 3) := by decide +kernel
theorem dX6_layAxis_26 : decode cX6_layAxis 26 = .ok (.aload_n 1, 1) := by decide +kernel
theorem dX6_layAxis_27 : decode cX6_layAxis 27 = .ok (.invokevirtual 364, 3) := by decide +kernel
theorem dX6_layAxis_30 : decode cX6_layAxis 30 = .ok (.return_, 1) := by decide +kernel
theorem dX6_clearCells_0 : decode cX6_clearCells 0 = .ok (.iconst 0, 1) := by decide +kernel
theorem dX6_clearCells_1 : decode cX6_clearCells 1 = .ok (.istore_n 1, 1) := by decide +kernel
theorem dX6_clearCells_2 : decode cX6_clearCells 2 = .ok (.iload_n 1, 1) := by decide +kernel
theorem dX6_clearCells_3 : decode cX6_clearCells 3 = .ok (.aload_n 0, 1) := by decide +kernel
theorem dX6_clearCells_4 : decode cX6_clearCells 4 = .ok (.getfield 32, 3) := by decide +kernel
theorem dX6_clearCells_7 : decode cX6_clearCells 7 = .ok (.getfield 363, 3) := by decide +kernel
theorem dX6_clearCells_10 : decode cX6_clearCells 10 = .ok (.getfield 191, 3) := by decide +kernel
theorem dX6_clearCells_13 : decode cX6_clearCells 13 = .ok (.if_icmp .ge 40, 3) := by decide +kernel
theorem dX6_clearCells_16 : decode cX6_clearCells 16 = .ok (.iconst 0, 1) := by decide +kernel
theorem dX6_clearCells_17 : decode cX6_clearCells 17 = .ok (.istore_n 2, 1) := by decide +kernel
theorem dX6_clearCells_18 : decode cX6_clearCells 18 = .ok (.iload_n 2, 1) := by decide +kernel
theorem dX6_clearCells_19 : decode cX6_clearCells 19 = .ok (.aload_n 0, 1) := by decide +kernel
theorem dX6_clearCells_20 : decode cX6_clearCells 20 = .ok (.getfield 36, 3) := by decide +kernel
theorem dX6_clearCells_23 : decode cX6_clearCells 23 = .ok (.getfield 363, 3) := by decide +kernel
theorem dX6_clearCells_26 : decode cX6_clearCells 26 = .ok (.getfield 191, 3) := by decide +kernel
theorem dX6_clearCells_29 : decode cX6_clearCells 29 = .ok (.if_icmp .ge 18, 3) := by decide +kernel
theorem dX6_clearCells_32 : decode cX6_clearCells 32 = .ok (.aload_n 0, 1) := by decide +kernel
theorem dX6_clearCells_33 : decode cX6_clearCells 33 = .ok (.getfield 55, 3) := by decide +kernel
theorem dX6_clearCells_36 : decode cX6_clearCells 36 = .ok (.iload_n 1, 1) := by decide +kernel
theorem dX6_clearCells_37 : decode cX6_clearCells 37 = .ok (.aaload, 1) := by decide +kernel
theorem dX6_clearCells_38 : decode cX6_clearCells 38 = .ok (.iload_n 2, 1) := by decide +kernel
theorem dX6_clearCells_39 : decode cX6_clearCells 39 = .ok (.iconst 0, 1) := by decide +kernel
theorem dX6_clearCells_40 : decode cX6_clearCells 40 = .ok (.iastore, 1) := by decide +kernel
theorem dX6_clearCells_41 : decode cX6_clearCells 41 = .ok (.iinc 2 1, 3) := by decide +kernel
theorem dX6_clearCells_44 : decode cX6_clearCells 44 = .ok (.goto (-26), 3) := by decide +kernel
theorem dX6_clearCells_47 : decode cX6_clearCells 47 = .ok (.iinc 1 1, 3) := by decide +kernel
theorem dX6_clearCells_50 : decode cX6_clearCells 50 = .ok (.goto (-48), 3) := by decide +kernel
theorem dX6_clearCells_53 : decode cX6_clearCells 53 = .ok (.return_, 1) := by decide +kernel
theorem dX6_placeOnAxis_0 : decode cX6_placeOnAxis 0 = .ok (.aload_n 0, 1) := by decide +kernel
theorem dX6_placeOnAxis_1 : decode cX6_placeOnAxis 1 = .ok (.getfield 18, 3) := by decide +kernel
theorem dX6_placeOnAxis_4 : decode cX6_placeOnAxis 4 = .ok (.getfield 166, 3) := by decide +kernel
theorem dX6_placeOnAxis_7 : decode cX6_placeOnAxis 7 = .ok (.aload_n 2, 1) := by decide +kernel
theorem dX6_placeOnAxis_8 : decode cX6_placeOnAxis 8 = .ok (.getfield 216, 3) := by decide +kernel
theorem dX6_placeOnAxis_11 : decode cX6_placeOnAxis 11 = .ok (.aaload, 1) := by decide +kernel
theorem dX6_placeOnAxis_12 : decode cX6_placeOnAxis 12 = .ok (.iload_n 1, 1) := by decide +kernel
theorem dX6_placeOnAxis_13 : decode cX6_placeOnAxis 13 = .ok (.iaload, 1) := by decide +kernel
theorem dX6_placeOnAxis_14 : decode cX6_placeOnAxis 14 = .ok (.istore_n 3, 1) := by decide +kernel
theorem dX6_placeOnAxis_15 : decode cX6_placeOnAxis 15 = .ok (.aload_n 2, 1) := by decide +kernel
theorem dX6_placeOnAxis_16 : decode cX6_placeOnAxis 16 = .ok (.getfield 363, 3) := by decide +kernel
theorem dX6_placeOnAxis_19 : decode cX6_placeOnAxis 19 = .ok (.aload_n 0, 1) := by decide +kernel
theorem dX6_placeOnAxis_20 : decode cX6_placeOnAxis 20 = .ok (.getfield 11, 3) := by decide +kernel
theorem dX6_placeOnAxis_23 : decode cX6_placeOnAxis 23 = .ok (.aload_n 2, 1) := by decide +kernel
theorem dX6_placeOnAxis_24 : decode cX6_placeOnAxis 24 = .ok (.getfield 216, 3) := by decide +kernel
theorem dX6_placeOnAxis_27 : decode cX6_placeOnAxis 27 = .ok (.aaload, 1) := by decide +kernel
theorem dX6_placeOnAxis_28 : decode cX6_placeOnAxis 28 = .ok (.iload_n 3, 1) := by decide +kernel
theorem dX6_placeOnAxis_29 : decode cX6_placeOnAxis 29 = .ok (.aload_n 2, 1) := by decide +kernel
theorem dX6_placeOnAxis_30 : decode cX6_placeOnAxis 30 = .ok (.getfield 219, 3) := by decide +kernel
theorem dX6_placeOnAxis_33 : decode cX6_placeOnAxis 33 = .ok (.invokevirtual 334, 3) := by decide +kernel
theorem dX6_placeOnAxis_36 : decode cX6_placeOnAxis 36 = .ok (.invokevirtual 337, 3) := by decide +kernel
theorem dX6_placeOnAxis_39 : decode cX6_placeOnAxis 39 = .ok (.ireturn, 1) := by decide +kernel
theorem dX6_putIntoCell_0 : decode cX6_putIntoCell 0 = .ok (.aload_n 0, 1) := by decide +kernel
theorem dX6_putIntoCell_1 : decode cX6_putIntoCell 1 = .ok (.iload_n 1, 1) := by decide +kernel
theorem dX6_putIntoCell_2 : decode cX6_putIntoCell 2 = .ok (.aload_n 0, 1) := by decide +kernel
theorem dX6_putIntoCell_3 : decode cX6_putIntoCell 3 = .ok (.getfield 32, 3) := by decide +kernel
theorem dX6_putIntoCell_6 : decode cX6_putIntoCell 6 = .ok (.invokevirtual 367, 3) := by decide +kernel
theorem dX6_putIntoCell_9 : decode cX6_putIntoCell 9 = .ok (.istore_n 2, 1) := by decide +kernel
theorem dX6_putIntoCell_10 : decode cX6_putIntoCell 10 = .ok (.aload_n 0, 1) := by decide +kernel
theorem dX6_putIntoCell_11 : decode cX6_putIntoCell 11 = .ok (.iload_n 1, 1) := by decide +kernel
theorem dX6_putIntoCell_12 : decode cX6_putIntoCell 12 = .ok (.aload_n 0, 1) := by decide +kernel
theorem dX6_putIntoCell_13 : decode cX6_putIntoCell 13 = .ok (.getfield 36, 3) := by decide +kernel
theorem dX6_putIntoCell_16 : decode cX6_putIntoCell 16 = .ok (.invokevirtual 367, 3) := by decide +kernel
theorem dX6_putIntoCell_19 : decode cX6_putIntoCell 19 = .ok (.istore_n 3, 1) := by decide +kernel
theorem dX6_putIntoCell_20 : decode cX6_putIntoCell 20 = .ok (.aload_n 0, 1) := by decide +kernel
theorem dX6_putIntoCell_21 : decode cX6_putIntoCell 21 = .ok (.getfield 32, 3) := by decide +kernel
theorem dX6_putIntoCell_24 : decode cX6_putIntoCell 24 = .ok (.getfield 363, 3) := by decide +kernel
theorem dX6_putIntoCell_27 : decode cX6_putIntoCell 27 = .ok (.iload_n 2, 1) := by decide +kernel
theorem dX6_putIntoCell_28 : decode cX6_putIntoCell 28 = .ok (.invokevirtual 138, 3) := by decide +kernel
theorem dX6_putIntoCell_31 : decode cX6_putIntoCell 31 = .ok (.ifCond .eq 57, 3) := by decide +kernel
theorem dX6_putIntoCell_34 : decode cX6_putIntoCell 34 = .ok (.aload_n 0, 1) := by decide +kernel
theorem dX6_putIntoCell_35 : decode cX6_putIntoCell 35 = .ok (.getfield 36, 3) := by decide +kernel
theorem dX6_putIntoCell_38 : decode cX6_putIntoCell 38 = .ok (.getfield 363, 3) := by decide +kernel
theorem dX6_putIntoCell_41 : decode cX6_putIntoCell 41 = .ok (.iload_n 3, 1) := by decide +kernel
theorem dX6_putIntoCell_42 : decode cX6_putIntoCell 42 = .ok (.invokevirtual 138, 3) := by decide +kernel
theorem dX6_putIntoCell_45 : decode cX6_putIntoCell 45 = .ok (.ifCond .eq 43, 3) := by decide +kernel
theorem dX6_putIntoCell_48 : decode cX6_putIntoCell 48 = .ok (.aload_n 0, 1) := by decide +kernel
theorem dX6_putIntoCell_49 : decode cX6_putIntoCell 49 = .ok (.getfield 55, 3) := by decide +kernel
theorem dX6_putIntoCell_52 : decode cX6_putIntoCell 52 = .ok (.iload_n 2, 1) := by decide +kernel
theorem dX6_putIntoCell_53 : decode cX6_putIntoCell 53 = .ok (.aaload, 1) := by decide +kernel
theorem dX6_putIntoCell_54 : decode cX6_putIntoCell 54 = .ok (.iload_n 3, 1) := by decide +kernel
theorem dX6_putIntoCell_55 : decode cX6_putIntoCell 55 = .ok (.dup2, 1) := by decide +kernel
theorem dX6_putIntoCell_56 : decode cX6_putIntoCell 56 = .ok (.iaload, 1) := by decide +kernel
theorem dX6_putIntoCell_57 : decode cX6_putIntoCell 57 = .ok (.aload_n 0, 1) := by decide +kernel
theorem dX6_putIntoCell_58 : decode cX6_putIntoCell 58 = .ok (.getfield 18, 3) := by decide +kernel
theorem dX6_putIntoCell_61 : decode cX6_putIntoCell 61 = .ok (.getfield 163, 3) := by decide +kernel
theorem dX6_putIntoCell_64 : decode cX6_putIntoCell 64 = .ok (.iload_n 1, 1) := by decide +kernel
theorem dX6_putIntoCell_65 : decode cX6_putIntoCell 65 = .ok (.iaload, 1) := by decide +kernel
theorem dX6_putIntoCell_66 : decode cX6_putIntoCell 66 = .ok (.iadd, 1) := by decide +kernel
theorem dX6_putIntoCell_67 : decode cX6_putIntoCell 67 = .ok (.iastore, 1) := by decide +kernel
theorem dX6_putIntoCell_68 : decode cX6_putIntoCell 68 = .ok (.aload_n 0, 1) := by decide +kernel
theorem dX6_putIntoCell_69 : decode cX6_putIntoCell 69 = .ok (.getfield 32, 3) := by decide +kernel
theorem dX6_putIntoCell_72 : decode cX6_putIntoCell 72 = .ok (.getfield 371, 3) := by decide +kernel
theorem dX6_putIntoCell_75 : decode cX6_putIntoCell 75 = .ok (.iload_n 2, 1) := by decide +kernel
theorem dX6_putIntoCell_76 : decode cX6_putIntoCell 76 = .ok (.iconst 1, 1) := by decide +kernel
theorem dX6_putIntoCell_77 : decode cX6_putIntoCell 77 = .ok (.bastore, 1) := by decide +kernel
theorem dX6_putIntoCell_78 : decode cX6_putIntoCell 78 = .ok (.aload_n 0, 1) := by decide +kernel
theorem dX6_putIntoCell_79 : decode cX6_putIntoCell 79 = .ok (.getfield 36, 3) := by decide +kernel
theorem dX6_putIntoCell_82 : decode cX6_putIntoCell 82 = .ok (.getfield 371, 3) := by decide +kernel
theorem dX6_putIntoCell_85 : decode cX6_putIntoCell 85 = .ok (.iload_n 3, 1) := by decide +kernel
theorem dX6_putIntoCell_86 : decode cX6_putIntoCell 86 = .ok (.iconst 1, 1) := by decide +kernel
theorem dX6_putIntoCell_87 : decode cX6_putIntoCell 87 = .ok (.bastore, 1) := by decide +kernel
theorem dX6_putIntoCell_88 : decode cX6_putIntoCell 88 = .ok (.return_, 1) := by decide +kernel
/-! by program: wip/whole/gen.py out of wip/whole/src/16.tables.eb -/
/-! EbbTable: tables -/
set_option maxRecDepth 100000 in
set_option maxHeartbeats 8000000 in
theorem c_X6_layAxis {l : Launch} {D : va_G} {cys : Nat → ClassId} {ad : Nat → Int → Nat} {L : List Nat} {g : Nat → va_E} {X : Int64} {Z : ZT} (hi : injA ad) {S : ZT} {i : Int} (hS : SP S Z) (hW : WF S) (ha : S 0 0 7 = 1) (hi2 : 0 ≤ i ∧ i < 2) : CM l D cys ad yX6_layAxis cX6_layAxis 3 none 3 73 0 0 [.ref (ad 0 0), .ref (ad 15 i)] L g X Z (PVZ L g X Z (fun Z' => SP S Z' ∧ LST Z' i (allL S i) ∧ (∀ j, 0 ≤ j → j < 24 → Z' 18 i j = 0) ∧ (∀ k i', ¬ (i' = i ∧ (k = 16 ∨ k = 17 ∨ k = 18)) → Z' k i' = Z k i'))) := by
  refine cm_start hi (by decide +kernel) (Nat.le_of_ble_eq_true rfl) ?_
  intro p_ e_ s_ m_ args_ below_ meth_ c_ A_ Q_ hQ G hr hin
  have hn := hW.n
  have hai := hW.ai ha hi2.1 hi2.2
  have ht := hW.t hai.1 hai.2.1
  have ht1 := ht.1
  have hte := TE.of hS (S 15 i 4)
  have hTZ := hte.ok ht
  have e2 : Z 2 = S 2 := hS.1 2 rfl
  have e154 : Z 15 i 4 = S 15 i 4 := (hS.2 i).1
  have e155 : Z 15 i 5 = S 15 i 5 := (hS.2 i).2
  have hv15 : vd 15 i := ⟨hi2.1, show i < 2 by omega⟩
  have hv16 : vd 16 i := ⟨hi2.1, show i < 4 by omega⟩
  have hv2 : vd 2 (S 15 i 4) := ⟨hai.1, show S 15 i 4 < 4 by omega⟩
  have htz : 0 ≤ Z 2 (S 15 i 4) 5 ∧ Z 2 (S 15 i 4) 5 < Z 2 (S 15 i 4) 4 := by rw [e2]; omega
  have hlv : inR (S 15 i 5) := by omega
  refine j_aload_n G dX6_layAxis_0 rfl ?_
  refine gf_0_0 G dX6_layAxis_1 lf6_11 (by first | assumption | decide) ?_
  refine j_aload_n G dX6_layAxis_4 rfl ?_
  refine gf_15_4 G dX6_layAxis_5 lf6_216 (by first | assumption | decide) ?_
  rw [e154]
  refine al_1 G dX6_layAxis_8 (by first | assumption | decide) (by omega) (by omega) ?_
  refine j_astore_n G dX6_layAxis_9 (by decide) rfl ?_
  refine j_aload_n G dX6_layAxis_10 rfl ?_
  refine j_aload_n G dX6_layAxis_11 rfl ?_
  refine gf_2_5 G dX6_layAxis_12 lf6_150 (by first | assumption | decide) ?_
  refine j_aload_n G dX6_layAxis_15 rfl ?_
  refine gf_15_5 G dX6_layAxis_16 lf6_219 (by first | assumption | decide) ?_
  refine j_aload_n G dX6_layAxis_19 rfl ?_
  refine gf_15_0 G dX6_layAxis_20 lf6_363 (by first | assumption | decide) ?_
  rw [e155]
  refine j_cVVZ G cvX4_listBeneath ml6_134 (c_X4_listBeneath hi hv2 hv16 hTZ htz hlv) dX6_layAxis_23 ⟨by decide, by decide⟩ ⟨by decide, by decide⟩ rfl rfl (Nat.le_of_ble_eq_true rfl) (by first | assumption | decide) rfl rfl rfl (fun Z23 h23 => ?_)
  obtain ⟨hL, hA, hB⟩ := h23
  rw [hte.e_wk, e2] at hL
  have hL : LST Z23 i (allL S i) := hL
  have hS23 : SP S Z23 := ⟨fun k hk => by rw [hA k (by rintro rfl; cases hk) (by rintro rfl; cases hk)]; exact hS.1 k hk, fun i => by rw [hA 15 (by decide) (by decide)]; exact hS.2 i⟩
  refine j_aload_n G dX6_layAxis_26 rfl ?_
  refine j_cVVZ G cvX0_forgetUse ml6_364 (c_X0_forgetUse hi (by first | assumption | omega | decide)) dX6_layAxis_27 ⟨by decide, by decide⟩ ⟨by decide, by decide⟩ rfl rfl (Nat.le_of_ble_eq_true rfl) (by first | assumption | decide) rfl rfl rfl (fun Z27 h27 => ?_)
  refine jr_VZ G hQ hr dX6_layAxis_30 (by decide) (by decide) ?_
  obtain ⟨hA2, hB2⟩ := h27
  refine ⟨⟨fun k hk => ?_, fun i' => ?_⟩, ?_, hB2, fun k i' hk => ?_⟩
  · funext i'
    rw [hA2 k i' (by rintro ⟨rfl, -⟩; cases hk)]
    exact congrFun (hS23.1 k hk) i'
  · rw [hA2 15 i' (by omega)]; exact hS23.2 i'
  · exact hL.of (by rw [hA2 16 i (by omega)]) (by rw [hA2 17 i (by omega)])
  · rw [hA2 k i' (by omega)]
    by_cases e : i' = i
    · rw [hA k (by omega) (by omega)]
    · exact hB k i' e
set_option maxRecDepth 100000 in
set_option maxHeartbeats 8000000 in
theorem c_X6_clearCells {l : Launch} {D : va_G} {cys : Nat → ClassId} {ad : Nat → Int → Nat} {L : List Nat} {g : Nat → va_E} {X : Int64} {Z : ZT} (hi : injA ad)  (h16 : ∀ i, 0 ≤ i → i < 2 → 0 ≤ Z 16 i 1 ∧ Z 16 i 1 ≤ 24) : CM l D cys ad yX6_clearCells cX6_clearCells 3 none 0 0 0 0 [.ref (ad 0 0)] L g X Z (PVZ L g X Z (fun Z' => (∀ k, k ≠ 23 → Z' k = Z k) ∧ ∀ r w : Int, 0 ≤ r → r < Z 16 0 1 → 0 ≤ w → w < Z 16 1 1 → Z' 23 r w = 0)) := by
  refine cm_start hi (by decide +kernel) (Nat.le_of_ble_eq_true rfl) ?_
  intro p_ e_ s_ m_ args_ below_ meth_ c_ A_ Q_ hQ G hr hin
  have hrr := h16 0 (by omega) (by omega)
  have hcc := h16 1 (by omega) (by omega)
  have loop : ∀ (n : Nat) (a : Int) (Y : ZT), 0 ≤ a → a ≤ Z 16 0 1 → (Z 16 0 1 - a).toNat = n → (∀ k, k ≠ 23 → Y k = Z k) → (∀ r w, 0 ≤ r → r < a → 0 ≤ w → w < Z 16 1 1 → Y 23 r w = 0) → JJ p_ l e_ { frames := 0, cells := 0, slots := 0, locals := 0 } s_ m_ args_ below_ meth_ c_ D cys ad A_ Q_ 3 0 0 L g X Y 2 [(0, .ref (ad 0 0)), (1, .int (iI a))] [] := by
    intro n
    induction n with
    | zero =>
      intro a Y h0 h1 h2 h3 h4
      have e : Y 16 0 1 = Z 16 0 1 := by rw [h3 16 (by decide)]
      refine j_iload_n G dX6_clearCells_2 rfl ?_
      refine j_aload_n G dX6_clearCells_3 rfl ?_
      refine gf_0_3 G dX6_clearCells_4 lf6_32 (by first | assumption | decide) ?_
      refine gf_15_0 G dX6_clearCells_7 lf6_363 (by first | assumption | decide) ?_
      refine gf_16_1 G dX6_clearCells_10 lf6_191 (by first | assumption | decide) ?_
      refine j_icmp_ge G 53 dX6_clearCells_13 (by decide) (by omega) (by omega) (fun c13 => ?_) (fun c13 => ?_)
      · refine jr_VZ G hQ hr dX6_clearCells_53 (by decide) (by decide) ?_
        exact ⟨h3, fun r w r0 r1 => h4 r w r0 (by omega)⟩
      · exfalso; omega
    | succ n ih =>
      intro a Y h0 h1 h2 h3 h4
      have e : Y 16 0 1 = Z 16 0 1 := by rw [h3 16 (by decide)]
      refine j_iload_n G dX6_clearCells_2 rfl ?_
      refine j_aload_n G dX6_clearCells_3 rfl ?_
      refine gf_0_3 G dX6_clearCells_4 lf6_32 (by first | assumption | decide) ?_
      refine gf_15_0 G dX6_clearCells_7 lf6_363 (by first | assumption | decide) ?_
      refine gf_16_1 G dX6_clearCells_10 lf6_191 (by first | assumption | decide) ?_
      refine j_icmp_ge G 53 dX6_clearCells_13 (by decide) (by omega) (by omega) (fun c13 => ?_) (fun c13 => ?_)
      · exfalso; omega
      · refine j_iconst G dX6_clearCells_16 ?_
        refine j_istore_n G dX6_clearCells_17 (by decide) rfl ?_
        have hv23 : vd 23 a := ⟨h0, show a < 24 by omega⟩
        have inner : ∀ (n : Nat) (b : Int) (V : ZT), 0 ≤ b → b ≤ Z 16 1 1 → (Z 16 1 1 - b).toNat = n → (∀ k, k ≠ 23 → V k = Z k) → (∀ r w, 0 ≤ r → r < a → 0 ≤ w → w < Z 16 1 1 → V 23 r w = 0) → (∀ w, 0 ≤ w → w < b → V 23 a w = 0) → JJ p_ l e_ { frames := 0, cells := 0, slots := 0, locals := 0 } s_ m_ args_ below_ meth_ c_ D cys ad A_ Q_ 3 0 0 L g X V 18 [(0, .ref (ad 0 0)), (1, .int (iI a)), (2, .int (iI b))] [] := by
          intro n2
          induction n2 with
          | zero =>
            intro b V g0 g1 g2 g3 g4 g5
            have e1 : V 16 1 1 = Z 16 1 1 := by rw [g3 16 (by decide)]
            refine j_iload_n G dX6_clearCells_18 rfl ?_
            refine j_aload_n G dX6_clearCells_19 rfl ?_
            refine gf_0_4 G dX6_clearCells_20 lf6_36 (by first | assumption | decide) ?_
            refine gf_15_0 G dX6_clearCells_23 lf6_363 (by first | assumption | decide) ?_
            refine gf_16_1 G dX6_clearCells_26 lf6_191 (by first | assumption | decide) ?_
            refine j_icmp_ge G 47 dX6_clearCells_29 (by decide) (by omega) (by omega) (fun c29 => ?_) (fun c29 => ?_)
            · refine j_iinc G dX6_clearCells_47 rfl (by decide) rfl ?_
              refine j_goto G 2 dX6_clearCells_50 (by decide) ?_
              refine j_keep [0, 1] ?_
              refine ih (a + 1) V (by omega) (by omega) (by omega) g3 (fun r w r0 r1 w0 w1 => ?_)
              by_cases e : r = a
              · subst e; exact g5 w w0 (by omega)
              · exact g4 r w r0 (by omega) w0 w1
            · exfalso; omega
          | succ n2 ih2 =>
            intro b V g0 g1 g2 g3 g4 g5
            have e1 : V 16 1 1 = Z 16 1 1 := by rw [g3 16 (by decide)]
            refine j_iload_n G dX6_clearCells_18 rfl ?_
            refine j_aload_n G dX6_clearCells_19 rfl ?_
            refine gf_0_4 G dX6_clearCells_20 lf6_36 (by first | assumption | decide) ?_
            refine gf_15_0 G dX6_clearCells_23 lf6_363 (by first | assumption | decide) ?_
            refine gf_16_1 G dX6_clearCells_26 lf6_191 (by first | assumption | decide) ?_
            refine j_icmp_ge G 47 dX6_clearCells_29 (by decide) (by omega) (by omega) (fun c29 => ?_) (fun c29 => ?_)
            · exfalso; omega
            · refine j_aload_n G dX6_clearCells_32 rfl ?_
              refine gf_0_11 G dX6_clearCells_33 lf6_55 (by first | assumption | decide) ?_
              refine j_iload_n G dX6_clearCells_36 rfl ?_
              refine al_22 G dX6_clearCells_37 (by first | assumption | decide) (by omega) (by omega) ?_
              refine j_iload_n G dX6_clearCells_38 rfl ?_
              refine j_iconst G dX6_clearCells_39 ?_
              refine as_23 G dX6_clearCells_40 (by first | assumption | decide) (by omega) (by omega) ?_
              refine j_iinc G dX6_clearCells_41 rfl (by decide) rfl ?_
              refine j_goto G 18 dX6_clearCells_44 (by decide) ?_
              refine ih2 (b + 1) _ (by omega) (by omega) (by omega) (fun k hk => ?_) (fun r w r0 r1 w0 w1 => ?_) (fun w w0 w1 => ?_)
              · rw [zS_k hk]; exact g3 k hk
              · rw [zS_o (by omega)]; exact g4 r w r0 r1 w0 w1
              · rw [zS_v]
                split
                · rfl
                · exact g5 w w0 (by omega)
        exact inner _ 0 Y (by omega) (by omega) rfl h3 h4 (fun w w0 w1 => by omega)
  refine j_iconst G dX6_clearCells_0 ?_
  refine j_istore_n G dX6_clearCells_1 (by decide) rfl ?_
  exact loop _ 0 Z (by omega) (by omega) rfl (fun _ _ => rfl) (fun r w a b => by omega)
set_option maxRecDepth 100000 in
set_option maxHeartbeats 8000000 in
theorem c_X6_placeOnAxis {l : Launch} {D : va_G} {cys : Nat → ClassId} {ad : Nat → Int → Nat} {L : List Nat} {g : Nat → va_E} {X : Int64} {Z : ZT} (hi : injA ad) {S : ZT} {i k : Int} (hS : SP S Z) (hW : WF S) (ha : S 0 0 7 = 1) (hi2 : 0 ≤ i ∧ i < 2) (hk : 0 ≤ k ∧ k < S 6 0 3) (hL : LST Z i (allL S i)) : CM l D cys ad yX6_placeOnAxis cX6_placeOnAxis 4 (some .int) 2 45 0 0 [.ref (ad 0 0), .int (iI k), .ref (ad 15 i)] L g X Z (PI L g X Z (fun r => (0 ≤ r ∧ r < (allL S i).length ∧ bel S (S 15 i 4) (S 8 (S 15 i 4) k) ((allL S i).getD r.toNat 0) ∧ ∀ w ∈ allL S i, bel S (S 15 i 4) (S 8 (S 15 i 4) k) w → w = (allL S i).getD r.toNat 0) ∨ (r = -1 ∧ ∀ w ∈ allL S i, ¬ bel S (S 15 i 4) (S 8 (S 15 i 4) k) w))) := by
  refine cm_start hi (by decide +kernel) (Nat.le_of_ble_eq_true rfl) ?_
  intro p_ e_ s_ m_ args_ below_ meth_ c_ A_ Q_ hQ G hr hin
  have hn := hW.n
  have hf := hW.f
  have hai := hW.ai ha hi2.1 hi2.2
  have ht := hW.t hai.1 hai.2.1
  have ht1 := ht.1
  have hte := TE.of hS (S 15 i 4)
  have hTZ := hte.ok ht
  have hal := allL_ok hW ha hi2.1 hi2.2
  have e154 : Z 15 i 4 = S 15 i 4 := (hS.2 i).1
  have e155 : Z 15 i 5 = S 15 i 5 := (hS.2 i).2
  have hv15 : vd 15 i := ⟨hi2.1, show i < 2 by omega⟩
  have hv16 : vd 16 i := ⟨hi2.1, show i < 4 by omega⟩
  have hv2 : vd 2 (S 15 i 4) := ⟨hai.1, show S 15 i 4 < 4 by omega⟩
  have hv8 : vd 8 (S 15 i 4) := ⟨hai.1, show S 15 i 4 < 4 by omega⟩
  have hl := (hW.fk hk.1 hk.2).1 _ hai.1 hai.2.1
  have e8 : Z 8 (S 15 i 4) k = S 8 (S 15 i 4) k := by rw [hS.1 8 rfl]
  have e24 : Z 2 (S 15 i 4) 4 = S 2 (S 15 i 4) 4 := by rw [hS.1 2 rfl]
  have hlz : 0 ≤ Z 8 (S 15 i 4) k ∧ Z 8 (S 15 i 4) k < Z 2 (S 15 i 4) 4 := by omega
  have hlen := hL.1
  have h16 : 0 ≤ Z 16 i 1 ∧ Z 16 i 1 ≤ 24 := by omega
  have hvals : ∀ j, 0 ≤ j → j < Z 16 i 1 → inR (Z 17 i j) := fun j j0 j1 => by
    have := (hal.2.2 _ (hL.at j0 (by omega)).2.1).1
    omega
  have hbel : ∀ w ∈ allL S i, bel S (S 15 i 4) (S 8 (S 15 i 4) k) w ↔ abv S (S 15 i 4) (S 8 (S 15 i 4) k) (S 15 i 5) = w := fun w hw => by
    have := hal.2.2 w hw
    exact bel_abv this.2 (by omega)
  refine j_aload_n G dX6_placeOnAxis_0 rfl ?_
  refine gf_0_1 G dX6_placeOnAxis_1 lf6_18 (by first | assumption | decide) ?_
  refine gf_6_0 G dX6_placeOnAxis_4 lf6_166 (by first | assumption | decide) ?_
  refine j_aload_n G dX6_placeOnAxis_7 rfl ?_
  refine gf_15_4 G dX6_placeOnAxis_8 lf6_216 (by first | assumption | decide) ?_
  rw [e154]
  refine al_7 G dX6_placeOnAxis_11 (by first | assumption | decide) (by omega) (by omega) ?_
  refine j_iload_n G dX6_placeOnAxis_12 rfl ?_
  refine al_8 G dX6_placeOnAxis_13 (by first | assumption | decide) (by omega) (by omega) ?_
  refine j_istore_n G dX6_placeOnAxis_14 (by decide) rfl ?_
  refine j_aload_n G dX6_placeOnAxis_15 rfl ?_
  refine gf_15_0 G dX6_placeOnAxis_16 lf6_363 (by first | assumption | decide) ?_
  refine j_aload_n G dX6_placeOnAxis_19 rfl ?_
  refine gf_0_0 G dX6_placeOnAxis_20 lf6_11 (by first | assumption | decide) ?_
  refine j_aload_n G dX6_placeOnAxis_23 rfl ?_
  refine gf_15_4 G dX6_placeOnAxis_24 lf6_216 (by first | assumption | decide) ?_
  rw [e154]
  refine al_1 G dX6_placeOnAxis_27 (by first | assumption | decide) (by omega) (by omega) ?_
  refine j_iload_n G dX6_placeOnAxis_28 rfl ?_
  refine j_aload_n G dX6_placeOnAxis_29 rfl ?_
  refine gf_15_5 G dX6_placeOnAxis_30 lf6_219 (by first | assumption | decide) ?_
  rw [e155]
  refine j_cVI G cvX4_aboveOn ml6_334 (c_X4_aboveOn hi hv2 hTZ hlz (by omega)) dX6_placeOnAxis_33 ⟨by decide, by decide⟩ ⟨by decide, by decide⟩ rfl rfl (Nat.le_of_ble_eq_true rfl) (by first | assumption | decide) rfl rfl rfl (fun r33 h33 => ?_)
  rw [hte.e_abv, e8] at h33
  have hir : inR r33 := by
    have := abv_ok ht hl.1 hl.2.1 hai.2.2.1
    omega
  refine j_cVI G cvX3_placeOf ml6_337 (c_X3_placeOf hi hv16 h16 hir hvals) dX6_placeOnAxis_36 ⟨by decide, by decide⟩ ⟨by decide, by decide⟩ rfl rfl (Nat.le_of_ble_eq_true rfl) (by first | assumption | decide) rfl rfl rfl (fun r36 h36 => ?_)
  refine jr_I G hQ hr dX6_placeOnAxis_39 (by decide) (by decide) ?_
  have hfd := hL.found h36
  rw [h33] at hfd
  rcases hfd with q | q
  · refine Or.inl ⟨q.1, q.2.1, ?_, fun w hw hb => ?_⟩
    · rw [q.2.2.1]; exact (hbel _ q.2.2.2).mpr rfl
    · rw [q.2.2.1]; exact ((hbel w hw).mp hb).symm
  · exact Or.inr ⟨q.1, fun w hw hb => q.2 ((hbel w hw).mp hb ▸ hw)⟩
set_option maxRecDepth 100000 in
set_option maxHeartbeats 8000000 in
theorem c_X6_putIntoCell {l : Launch} {D : va_G} {cys : Nat → ClassId} {ad : Nat → Int → Nat} {L : List Nat} {g : Nat → va_E} {X : Int64} {Z : ZT} (hi : injA ad) {S : ZT} {k : Int} (hS : SP S Z) (hW : WF S) (ha : S 0 0 7 = 1) (hk : 0 ≤ k ∧ k < S 6 0 3) (hL0 : LST Z 0 (allL S 0)) (hL1 : LST Z 1 (allL S 1)) : CM l D cys ad yX6_putIntoCell cX6_putIntoCell 4 none 3 68 0 0 [.ref (ad 0 0), .int (iI k)] L g X Z (PVZ L g X Z (fun Z' => (∃ r w : Int, (0 ≤ r ∧ r < (allL S 0).length ∧ bel S (S 15 0 4) (S 8 (S 15 0 4) k) ((allL S 0).getD r.toNat 0) ∧ ∀ m ∈ allL S 0, bel S (S 15 0 4) (S 8 (S 15 0 4) k) m → m = (allL S 0).getD r.toNat 0) ∧ (0 ≤ w ∧ w < (allL S 1).length ∧ bel S (S 15 1 4) (S 8 (S 15 1 4) k) ((allL S 1).getD w.toNat 0) ∧ ∀ m ∈ allL S 1, bel S (S 15 1 4) (S 8 (S 15 1 4) k) m → m = (allL S 1).getD w.toNat 0) ∧ Z' = zS (zS (zS Z 23 r w (Z 23 r w + S 9 0 k)) 18 0 r 1) 18 1 w 1) ∨ (Z' = Z ∧ ((∀ m ∈ allL S 0, ¬ bel S (S 15 0 4) (S 8 (S 15 0 4) k) m) ∨ (∀ m ∈ allL S 1, ¬ bel S (S 15 1 4) (S 8 (S 15 1 4) k) m))))) := by
  refine cm_start hi (by decide +kernel) (Nat.le_of_ble_eq_true rfl) ?_
  intro p_ e_ s_ m_ args_ below_ meth_ c_ A_ Q_ hQ G hr hin
  have hf := hW.f
  have ha0 := allL_ok hW ha (i := 0) (by omega) (by omega)
  have ha1 := allL_ok hW ha (i := 1) (by omega) (by omega)
  have hl0 := hL0.1
  have hl1 := hL1.1
  have e9 : Z 9 0 k = S 9 0 k := by rw [hS.1 9 rfl]
  have hz : (0 : Int) ≤ 0 ∧ (0 : Int) < 2 := by omega
  have ho : (0 : Int) ≤ 1 ∧ (1 : Int) < 2 := by omega
  have hi0 : inR (Z 16 0 1) := by omega
  have hi1 : inR (Z 16 1 1) := by omega
  refine j_aload_n G dX6_putIntoCell_0 rfl ?_
  refine j_iload_n G dX6_putIntoCell_1 rfl ?_
  refine j_aload_n G dX6_putIntoCell_2 rfl ?_
  refine gf_0_3 G dX6_putIntoCell_3 lf6_32 (by first | assumption | decide) ?_
  refine j_cVI G cvX6_placeOnAxis ml6_367 (c_X6_placeOnAxis hi hS hW ha hz hk hL0) dX6_putIntoCell_6 ⟨by decide, by decide⟩ ⟨by decide, by decide⟩ rfl rfl (Nat.le_of_ble_eq_true rfl) (by first | assumption | decide) rfl rfl rfl (fun r6 h6 => ?_)
  have hr6 : inR r6 := by omega
  refine j_istore_n G dX6_putIntoCell_9 (by decide) rfl ?_
  refine j_aload_n G dX6_putIntoCell_10 rfl ?_
  refine j_iload_n G dX6_putIntoCell_11 rfl ?_
  refine j_aload_n G dX6_putIntoCell_12 rfl ?_
  refine gf_0_4 G dX6_putIntoCell_13 lf6_36 (by first | assumption | decide) ?_
  refine j_cVI G cvX6_placeOnAxis ml6_367 (c_X6_placeOnAxis hi hS hW ha ho hk hL1) dX6_putIntoCell_16 ⟨by decide, by decide⟩ ⟨by decide, by decide⟩ rfl rfl (Nat.le_of_ble_eq_true rfl) (by first | assumption | decide) rfl rfl rfl (fun r16 h16 => ?_)
  have hr16 : inR r16 := by omega
  refine j_istore_n G dX6_putIntoCell_19 (by decide) rfl ?_
  refine j_aload_n G dX6_putIntoCell_20 rfl ?_
  refine gf_0_3 G dX6_putIntoCell_21 lf6_32 (by first | assumption | decide) ?_
  refine gf_15_0 G dX6_putIntoCell_24 lf6_363 (by first | assumption | decide) ?_
  refine j_iload_n G dX6_putIntoCell_27 rfl ?_
  refine j_cVI G cvX3_hasPlace ml6_138 (c_X3_hasPlace hi (by first | assumption | omega | decide) (by first | assumption | omega | decide) (by first | assumption | omega | decide)) dX6_putIntoCell_28 ⟨by decide, by decide⟩ ⟨by decide, by decide⟩ rfl rfl (Nat.le_of_ble_eq_true rfl) (by first | assumption | decide) rfl rfl rfl (fun r28 h28 => ?_)
  refine j_if_eq G 88 dX6_putIntoCell_31 (by decide) (by omega) (fun c31 => ?_) (fun c31 => ?_)
  · refine jr_VZ G hQ hr dX6_putIntoCell_88 (by decide) (by decide) ?_
    first
    | (refine Or.inl ⟨r6, r16, ?_, ?_, by rw [e9]⟩
       · rcases h6 with q | q
         · exact q
         · exfalso; omega
       · rcases h16 with q | q
         · exact q
         · exfalso; omega)
    | (refine Or.inr ⟨rfl, ?_⟩
       rcases h6 with q | q
       · rcases h16 with q2 | q2
         · exfalso; omega
         · exact Or.inr q2.2
       · exact Or.inl q.2)
  · refine j_aload_n G dX6_putIntoCell_34 rfl ?_
    refine gf_0_4 G dX6_putIntoCell_35 lf6_36 (by first | assumption | decide) ?_
    refine gf_15_0 G dX6_putIntoCell_38 lf6_363 (by first | assumption | decide) ?_
    refine j_iload_n G dX6_putIntoCell_41 rfl ?_
    refine j_cVI G cvX3_hasPlace ml6_138 (c_X3_hasPlace hi (by first | assumption | omega | decide) (by first | assumption | omega | decide) (by first | assumption | omega | decide)) dX6_putIntoCell_42 ⟨by decide, by decide⟩ ⟨by decide, by decide⟩ rfl rfl (Nat.le_of_ble_eq_true rfl) (by first | assumption | decide) rfl rfl rfl (fun r42 h42 => ?_)
    refine j_if_eq G 88 dX6_putIntoCell_45 (by decide) (by omega) (fun c45 => ?_) (fun c45 => ?_)
    · refine jr_VZ G hQ hr dX6_putIntoCell_88 (by decide) (by decide) ?_
      first
      | (refine Or.inl ⟨r6, r16, ?_, ?_, by rw [e9]⟩
         · rcases h6 with q | q
           · exact q
           · exfalso; omega
         · rcases h16 with q | q
           · exact q
           · exfalso; omega)
      | (refine Or.inr ⟨rfl, ?_⟩
         rcases h6 with q | q
         · rcases h16 with q2 | q2
           · exfalso; omega
           · exact Or.inr q2.2
         · exact Or.inl q.2)
    · have h6' : 0 ≤ r6 ∧ r6 < 24 := by omega
      have h16' : 0 ≤ r16 ∧ r16 < 24 := by omega
      have hv23 : vd 23 r6 := ⟨h6'.1, show r6 < 24 by omega⟩
      refine j_aload_n G dX6_putIntoCell_48 rfl ?_
      refine gf_0_11 G dX6_putIntoCell_49 lf6_55 (by first | assumption | decide) ?_
      refine j_iload_n G dX6_putIntoCell_52 rfl ?_
      refine al_22 G dX6_putIntoCell_53 (by first | assumption | decide) (by omega) (by omega) ?_
      refine j_iload_n G dX6_putIntoCell_54 rfl ?_
      refine j_dup2 G dX6_putIntoCell_55 rfl rfl ?_
      refine al_23 G dX6_putIntoCell_56 (by first | assumption | decide) (by omega) (by omega) ?_
      refine j_aload_n G dX6_putIntoCell_57 rfl ?_
      refine gf_0_1 G dX6_putIntoCell_58 lf6_18 (by first | assumption | decide) ?_
      refine gf_6_1 G dX6_putIntoCell_61 lf6_163 (by first | assumption | decide) ?_
      refine j_iload_n G dX6_putIntoCell_64 rfl ?_
      refine al_9 G dX6_putIntoCell_65 (by first | assumption | decide) (by omega) (by omega) ?_
      refine j_iadd G dX6_putIntoCell_66 ?_
      refine as_23 G dX6_putIntoCell_67 (by first | assumption | decide) (by omega) (by omega) ?_
      refine j_aload_n G dX6_putIntoCell_68 rfl ?_
      refine gf_0_3 G dX6_putIntoCell_69 lf6_32 (by first | assumption | decide) ?_
      refine gf_15_1 G dX6_putIntoCell_72 lf6_371 (by first | assumption | decide) ?_
      refine j_iload_n G dX6_putIntoCell_75 rfl ?_
      refine j_iconst G dX6_putIntoCell_76 ?_
      refine as_18 G dX6_putIntoCell_77 (by first | assumption | decide) (by omega) (by omega) (by omega) ?_
      refine j_aload_n G dX6_putIntoCell_78 rfl ?_
      refine gf_0_4 G dX6_putIntoCell_79 lf6_36 (by first | assumption | decide) ?_
      refine gf_15_1 G dX6_putIntoCell_82 lf6_371 (by first | assumption | decide) ?_
      refine j_iload_n G dX6_putIntoCell_85 rfl ?_
      refine j_iconst G dX6_putIntoCell_86 ?_
      refine as_18 G dX6_putIntoCell_87 (by first | assumption | decide) (by omega) (by omega) (by omega) ?_
      refine jr_VZ G hQ hr dX6_putIntoCell_88 (by decide) (by decide) ?_
      try simp (config := { decide := true }) only [zS_k, zS_s, zS_j, ne_eq]
      first
      | (refine Or.inl ⟨r6, r16, ?_, ?_, by rw [e9]⟩
         · rcases h6 with q | q
           · exact q
           · exfalso; omega
         · rcases h16 with q | q
           · exact q
           · exfalso; omega)
      | (refine Or.inr ⟨rfl, ?_⟩
         rcases h6 with q | q
         · rcases h16 with q2 | q2
           · exfalso; omega
           · exact Or.inr q2.2
         · exact Or.inl q.2)

