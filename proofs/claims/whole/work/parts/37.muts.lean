theorem dJ7_fill_49daa_0 : decode cJ7_fill_49daa 0 = .ok (.iconst 0, 1) := by decide +kernel
theorem dJ7_fill_49daa_1 : decode cJ7_fill_49daa 1 = .ok (.istore_n 2, 1) := by decide +kernel
theorem dJ7_fill_49daa_2 : decode cJ7_fill_49daa 2 = .ok (.aload_n 0, 1) := by decide +kernel
theorem dJ7_fill_49daa_3 : decode cJ7_fill_49daa 3 = .ok (.arraylength, 1) := by decide +kernel
theorem dJ7_fill_49daa_4 : decode cJ7_fill_49daa 4 = .ok (.istore_n 3, 1) := by decide +kernel
theorem dJ7_fill_49daa_5 : decode cJ7_fill_49daa 5 = .ok (.iload_n 2, 1) := by decide +kernel
theorem dJ7_fill_49daa_6 : decode cJ7_fill_49daa 6 = .ok (.iload_n 3, 1) := by decide +kernel
theorem dJ7_fill_49daa_7 : decode cJ7_fill_49daa 7 = .ok (.if_icmp .ge 13, 3) := by decide +kernel
theorem dJ7_fill_49daa_10 : decode cJ7_fill_49daa 10 = .ok (.aload_n 0, 1) := by decide +kernel
theorem dJ7_fill_49daa_11 : decode cJ7_fill_49daa 11 = .ok (.iload_n 2, 1) := by decide +kernel
theorem dJ7_fill_49daa_12 : decode cJ7_fill_49daa 12 = .ok (.iload_n 1, 1) := by decide +kernel
theorem dJ7_fill_49daa_13 : decode cJ7_fill_49daa 13 = .ok (.bastore, 1) := by decide +kernel
theorem dJ7_fill_49daa_14 : decode cJ7_fill_49daa 14 = .ok (.iinc 2 1, 3) := by decide +kernel
theorem dJ7_fill_49daa_17 : decode cJ7_fill_49daa 17 = .ok (.goto (-12), 3) := by decide +kernel
theorem dJ7_fill_49daa_20 : decode cJ7_fill_49daa 20 = .ok (.return_, 1) := by decide +kernel
theorem dX7_stale_0 : decode cX7_stale 0 = .ok (.aload_n 0, 1) := by decide +kernel
theorem dX7_stale_1 : decode cX7_stale 1 = .ok (.getfield 48, 3) := by decide +kernel
theorem dX7_stale_4 : decode cX7_stale 4 = .ok (.iconst 1, 1) := by decide +kernel
theorem dX7_stale_5 : decode cX7_stale 5 = .ok (.invokestatic 81, 3) := by decide +kernel
theorem dX7_stale_8 : decode cX7_stale 8 = .ok (.return_, 1) := by decide +kernel
theorem dX7_goTo_0 : decode cX7_goTo 0 = .ok (.aload_n 0, 1) := by decide +kernel
theorem dX7_goTo_1 : decode cX7_goTo 1 = .ok (.iconst 0, 1) := by decide +kernel
theorem dX7_goTo_2 : decode cX7_goTo 2 = .ok (.putfield 52, 3) := by decide +kernel
theorem dX7_goTo_5 : decode cX7_goTo 5 = .ok (.aload_n 0, 1) := by decide +kernel
theorem dX7_goTo_6 : decode cX7_goTo 6 = .ok (.iload_n 1, 1) := by decide +kernel
theorem dX7_goTo_7 : decode cX7_goTo 7 = .ok (.iload_n 2, 1) := by decide +kernel
theorem dX7_goTo_8 : decode cX7_goTo 8 = .ok (.invokevirtual 99, 3) := by decide +kernel
theorem dX7_goTo_11 : decode cX7_goTo 11 = .ok (.ifCond .ne 9, 3) := by decide +kernel
theorem dX7_goTo_14 : decode cX7_goTo 14 = .ok (.aload_n 0, 1) := by decide +kernel
theorem dX7_goTo_15 : decode cX7_goTo 15 = .ok (.iconst 1, 1) := by decide +kernel
theorem dX7_goTo_16 : decode cX7_goTo 16 = .ok (.invokevirtual 85, 3) := by decide +kernel
theorem dX7_goTo_19 : decode cX7_goTo 19 = .ok (.ireturn, 1) := by decide +kernel
theorem dX7_goTo_20 : decode cX7_goTo 20 = .ok (.aload_n 0, 1) := by decide +kernel
theorem dX7_goTo_21 : decode cX7_goTo 21 = .ok (.getfield 26, 3) := by decide +kernel
theorem dX7_goTo_24 : decode cX7_goTo 24 = .ok (.iload_n 1, 1) := by decide +kernel
theorem dX7_goTo_25 : decode cX7_goTo 25 = .ok (.iaload, 1) := by decide +kernel
theorem dX7_goTo_26 : decode cX7_goTo 26 = .ok (.istore_n 3, 1) := by decide +kernel
theorem dX7_goTo_27 : decode cX7_goTo 27 = .ok (.aload_n 0, 1) := by decide +kernel
theorem dX7_goTo_28 : decode cX7_goTo 28 = .ok (.getfield 26, 3) := by decide +kernel
theorem dX7_goTo_31 : decode cX7_goTo 31 = .ok (.iload_n 1, 1) := by decide +kernel
theorem dX7_goTo_32 : decode cX7_goTo 32 = .ok (.iload_n 2, 1) := by decide +kernel
theorem dX7_goTo_33 : decode cX7_goTo 33 = .ok (.iastore, 1) := by decide +kernel
theorem dX7_goTo_34 : decode cX7_goTo 34 = .ok (.iload_n 3, 1) := by decide +kernel
theorem dX7_goTo_35 : decode cX7_goTo 35 = .ok (.ireturn, 1) := by decide +kernel
theorem dX7_goUp_0 : decode cX7_goUp 0 = .ok (.aload_n 0, 1) := by decide +kernel
theorem dX7_goUp_1 : decode cX7_goUp 1 = .ok (.iconst 0, 1) := by decide +kernel
theorem dX7_goUp_2 : decode cX7_goUp 2 = .ok (.putfield 52, 3) := by decide +kernel
theorem dX7_goUp_5 : decode cX7_goUp 5 = .ok (.aload_n 0, 1) := by decide +kernel
theorem dX7_goUp_6 : decode cX7_goUp 6 = .ok (.iload_n 1, 1) := by decide +kernel
theorem dX7_goUp_7 : decode cX7_goUp 7 = .ok (.invokevirtual 63, 3) := by decide +kernel
theorem dX7_goUp_10 : decode cX7_goUp 10 = .ok (.ifCond .ne 9, 3) := by decide +kernel
theorem dX7_goUp_13 : decode cX7_goUp 13 = .ok (.aload_n 0, 1) := by decide +kernel
theorem dX7_goUp_14 : decode cX7_goUp 14 = .ok (.iconst 1, 1) := by decide +kernel
theorem dX7_goUp_15 : decode cX7_goUp 15 = .ok (.invokevirtual 85, 3) := by decide +kernel
theorem dX7_goUp_18 : decode cX7_goUp 18 = .ok (.ireturn, 1) := by decide +kernel
theorem dX7_goUp_19 : decode cX7_goUp 19 = .ok (.aload_n 0, 1) := by decide +kernel
theorem dX7_goUp_20 : decode cX7_goUp 20 = .ok (.getfield 26, 3) := by decide +kernel
theorem dX7_goUp_23 : decode cX7_goUp 23 = .ok (.iload_n 1, 1) := by decide +kernel
theorem dX7_goUp_24 : decode cX7_goUp 24 = .ok (.iaload, 1) := by decide +kernel
theorem dX7_goUp_25 : decode cX7_goUp 25 = .ok (.ifCond .ne 5, 3) := by decide +kernel
theorem dX7_goUp_28 : decode cX7_goUp 28 = .ok (.iconst (-1), 1) := by decide +kernel
theorem dX7_goUp_29 : decode cX7_goUp 29 = .ok (.ireturn, 1) := by decide +kernel
theorem dX7_goUp_30 : decode cX7_goUp 30 = .ok (.aload_n 0, 1) := by decide +kernel
theorem dX7_goUp_31 : decode cX7_goUp 31 = .ok (.getfield 26, 3) := by decide +kernel
theorem dX7_goUp_34 : decode cX7_goUp 34 = .ok (.iload_n 1, 1) := by decide +kernel
theorem dX7_goUp_35 : decode cX7_goUp 35 = .ok (.aload_n 0, 1) := by decide +kernel
theorem dX7_goUp_36 : decode cX7_goUp 36 = .ok (.getfield 18, 3) := by decide +kernel
theorem dX7_goUp_39 : decode cX7_goUp 39 = .ok (.iload_n 1, 1) := by decide +kernel
theorem dX7_goUp_40 : decode cX7_goUp 40 = .ok (.aaload, 1) := by decide +kernel
theorem dX7_goUp_41 : decode cX7_goUp 41 = .ok (.aload_n 0, 1) := by decide +kernel
theorem dX7_goUp_42 : decode cX7_goUp 42 = .ok (.getfield 26, 3) := by decide +kernel
theorem dX7_goUp_45 : decode cX7_goUp 45 = .ok (.iload_n 1, 1) := by decide +kernel
theorem dX7_goUp_46 : decode cX7_goUp 46 = .ok (.iaload, 1) := by decide +kernel
theorem dX7_goUp_47 : decode cX7_goUp 47 = .ok (.iaload, 1) := by decide +kernel
theorem dX7_goUp_48 : decode cX7_goUp 48 = .ok (.iastore, 1) := by decide +kernel
theorem dX7_goUp_49 : decode cX7_goUp 49 = .ok (.aload_n 0, 1) := by decide +kernel
theorem dX7_goUp_50 : decode cX7_goUp 50 = .ok (.getfield 26, 3) := by decide +kernel
theorem dX7_goUp_53 : decode cX7_goUp 53 = .ok (.iload_n 1, 1) := by decide +kernel
theorem dX7_goUp_54 : decode cX7_goUp 54 = .ok (.iaload, 1) := by decide +kernel
theorem dX7_goUp_55 : decode cX7_goUp 55 = .ok (.ireturn, 1) := by decide +kernel
theorem dX7_leaveOut_0 : decode cX7_leaveOut 0 = .ok (.aload_n 0, 1) := by decide +kernel
theorem dX7_leaveOut_1 : decode cX7_leaveOut 1 = .ok (.aload_n 0, 1) := by decide +kernel
theorem dX7_leaveOut_2 : decode cX7_leaveOut 2 = .ok (.iload_n 1, 1) := by decide +kernel
theorem dX7_leaveOut_3 : decode cX7_leaveOut 3 = .ok (.iload_n 2, 1) := by decide +kernel
theorem dX7_leaveOut_4 : decode cX7_leaveOut 4 = .ok (.invokevirtual 99, 3) := by decide +kernel
theorem dX7_leaveOut_7 : decode cX7_leaveOut 7 = .ok (.ifCond .eq 7, 3) := by decide +kernel
theorem dX7_leaveOut_10 : decode cX7_leaveOut 10 = .ok (.iconst 0, 1) := by decide +kernel
theorem dX7_leaveOut_11 : decode cX7_leaveOut 11 = .ok (.goto 4, 3) := by decide +kernel
theorem dX7_leaveOut_14 : decode cX7_leaveOut 14 = .ok (.iconst 1, 1) := by decide +kernel
theorem dX7_leaveOut_15 : decode cX7_leaveOut 15 = .ok (.putfield 52, 3) := by decide +kernel
theorem dX7_leaveOut_18 : decode cX7_leaveOut 18 = .ok (.aload_n 0, 1) := by decide +kernel
theorem dX7_leaveOut_19 : decode cX7_leaveOut 19 = .ok (.getfield 52, 3) := by decide +kernel
theorem dX7_leaveOut_22 : decode cX7_leaveOut 22 = .ok (.ifCond .le 5, 3) := by decide +kernel
theorem dX7_leaveOut_25 : decode cX7_leaveOut 25 = .ok (.iconst 0, 1) := by decide +kernel
theorem dX7_leaveOut_26 : decode cX7_leaveOut 26 = .ok (.ireturn, 1) := by decide +kernel
theorem dX7_leaveOut_27 : decode cX7_leaveOut 27 = .ok (.aload_n 0, 1) := by decide +kernel
theorem dX7_leaveOut_28 : decode cX7_leaveOut 28 = .ok (.getfield 23, 3) := by decide +kernel
theorem dX7_leaveOut_31 : decode cX7_leaveOut 31 = .ok (.iload_n 1, 1) := by decide +kernel
theorem dX7_leaveOut_32 : decode cX7_leaveOut 32 = .ok (.aaload, 1) := by decide +kernel
theorem dX7_leaveOut_33 : decode cX7_leaveOut 33 = .ok (.iload_n 2, 1) := by decide +kernel
theorem dX7_leaveOut_34 : decode cX7_leaveOut 34 = .ok (.baload, 1) := by decide +kernel
theorem dX7_leaveOut_35 : decode cX7_leaveOut 35 = .ok (.istore 4, 2) := by decide +kernel
theorem dX7_leaveOut_37 : decode cX7_leaveOut 37 = .ok (.aload_n 0, 1) := by decide +kernel
theorem dX7_leaveOut_38 : decode cX7_leaveOut 38 = .ok (.getfield 23, 3) := by decide +kernel
theorem dX7_leaveOut_41 : decode cX7_leaveOut 41 = .ok (.iload_n 1, 1) := by decide +kernel
theorem dX7_leaveOut_42 : decode cX7_leaveOut 42 = .ok (.aaload, 1) := by decide +kernel
theorem dX7_leaveOut_43 : decode cX7_leaveOut 43 = .ok (.iload_n 2, 1) := by decide +kernel
theorem dX7_leaveOut_44 : decode cX7_leaveOut 44 = .ok (.iload_n 3, 1) := by decide +kernel
theorem dX7_leaveOut_45 : decode cX7_leaveOut 45 = .ok (.bastore, 1) := by decide +kernel
theorem dX7_leaveOut_46 : decode cX7_leaveOut 46 = .ok (.iload 4, 2) := by decide +kernel
theorem dX7_leaveOut_48 : decode cX7_leaveOut 48 = .ok (.ireturn, 1) := by decide +kernel
/-! by program: wip/whole/gen.py out of wip/whole/src/37.muts.eb -/
/-! Arrays.fill over a row of booleans; EbbTableModel: the calls that change it -/
set_option maxRecDepth 100000 in
set_option maxHeartbeats 8000000 in
theorem c_J7_fill_49daa {l : Launch} {D : va_G} {cys : Nat → ClassId} {ad : Nat → Int → Nat} {L : List Nat} {g : Nat → va_E} {X : Int64} {Z : ZT} (hi : injA ad) {k : Nat} {i b : Int} {N : Nat} (hcc : ∀ (X : Int64) (z : Int → Int), cC cys ad k i X z = eI (cys 1) N z) (hN : N ≤ 1000) (hvv : vd k i) (hb : b = 0 ∨ b = 1) : CM l D cys ad yJ7_fill_49daa cJ7_fill_49daa 4 none 0 0 0 0 [.ref (ad k i), .int (iI b)] L g X Z (PVZ L g X Z (fun Z' => (∀ k' i', ¬ (k' = k ∧ i' = i) → Z' k' i' = Z k' i') ∧ ∀ j, Z' k i j = if 0 ≤ j ∧ j < N then b else Z k i j)) := by
  refine cm_start hi (by decide +kernel) (Nat.le_of_ble_eq_true rfl) ?_
  intro p_ e_ s_ m_ args_ below_ meth_ c_ A_ Q_ hQ G hr hin
  have loop : ∀ (n : Nat) (a : Int) (Y : ZT), 0 ≤ a → a ≤ N → (N - a).toNat = n → (∀ k' i', ¬ (k' = k ∧ i' = i) → Y k' i' = Z k' i') → (∀ j, Y k i j = if 0 ≤ j ∧ j < a then b else Z k i j) → JJ p_ l e_ { frames := 0, cells := 0, slots := 0, locals := 0 } s_ m_ args_ below_ meth_ c_ D cys ad A_ Q_ 4 0 0 L g X Y 5 [(0, .ref (ad k i)), (1, .int (iI b)), (2, .int (iI a)), (3, .int (iI N))] [] := by
    intro n
    induction n with
    | zero =>
      intro a Y h0 h1 h2 h3 h4
      have ea : a = N := by omega
      subst ea
      refine j_iload_n G dJ7_fill_49daa_5 rfl ?_
      refine j_iload_n G dJ7_fill_49daa_6 rfl ?_
      refine j_icmp_ge G 20 dJ7_fill_49daa_7 (by decide) (by omega) (by omega) (fun c7 => ?_) (fun c7 => ?_)
      · refine jr_VZ G hQ hr dJ7_fill_49daa_20 (by decide) (by decide) ?_
        exact ⟨h3, h4⟩
      · exfalso; omega
    | succ n ih =>
      intro a Y h0 h1 h2 h3 h4
      refine j_iload_n G dJ7_fill_49daa_5 rfl ?_
      refine j_iload_n G dJ7_fill_49daa_6 rfl ?_
      refine j_icmp_ge G 20 dJ7_fill_49daa_7 (by decide) (by omega) (by omega) (fun c7 => ?_) (fun c7 => ?_)
      · exfalso; omega
      · refine j_aload_n G dJ7_fill_49daa_10 rfl ?_
        refine j_iload_n G dJ7_fill_49daa_11 rfl ?_
        refine j_iload_n G dJ7_fill_49daa_12 rfl ?_
        refine j_zast G _ _ dJ7_fill_49daa_13 (hcc X) (by omega) hvv (by omega) (by omega) (by omega) ?_
        refine j_iinc G dJ7_fill_49daa_14 rfl (by decide) rfl ?_
        refine j_goto G 5 dJ7_fill_49daa_17 (by decide) ?_
        refine ih (a + 1) _ (by omega) (by omega) (by omega) (fun k' i' hne => by rw [zS_ki hne]; exact h3 k' i' hne) (fun j => ?_)
        rw [zS_v, h4]
        by_cases e : j = a
        · rw [if_pos e, if_pos (by omega)]
        · rw [if_neg e]
          by_cases e2 : 0 ≤ j ∧ j < a
          · rw [if_pos e2, if_pos (by omega)]
          · rw [if_neg e2, if_neg (by omega)]
  refine j_iconst G dJ7_fill_49daa_0 ?_
  refine j_istore_n G dJ7_fill_49daa_1 (by decide) rfl ?_
  refine j_aload_n G dJ7_fill_49daa_2 rfl ?_
  refine j_slenZ G _ _ dJ7_fill_49daa_3 (hcc X) hvv ?_
  refine j_istore_n G dJ7_fill_49daa_4 (by decide) rfl ?_
  exact loop _ 0 Z (by omega) (by omega) rfl (fun _ _ _ => rfl) (fun j => by rw [if_neg (by omega)])
set_option maxRecDepth 100000 in
set_option maxHeartbeats 8000000 in
theorem c_X7_stale {l : Launch} {D : va_G} {cys : Nat → ClassId} {ad : Nat → Int → Nat} {L : List Nat} {g : Nat → va_E} {X : Int64} {Z : ZT} (hi : injA ad)   : CM l D cys ad yX7_stale cX7_stale 1 none 1 23 0 0 [.ref (ad 24 0)] L g X Z (PVZ L g X Z (fun Z' => (∀ k' i', ¬ (k' = 38 ∧ i' = 0) → Z' k' i' = Z k' i') ∧ ∀ j, Z' 38 0 j = if 0 ≤ j ∧ j < (6 : Nat) then 1 else Z 38 0 j)) := by
  refine cm_start hi (by decide +kernel) (Nat.le_of_ble_eq_true rfl) ?_
  intro p_ e_ s_ m_ args_ below_ meth_ c_ A_ Q_ hQ G hr hin
  have hcc : ∀ (X : Int64) (z : Int → Int), cC cys ad 38 0 X z = eI (cys 1) 6 z := fun _ _ => rfl
  have h6 : 6 ≤ 1000 := by decide
  have hvv : vd 38 0 := by decide
  have hb : (1 : Int) = 0 ∨ (1 : Int) = 1 := Or.inr rfl
  refine j_aload_n G dX7_stale_0 rfl ?_
  refine gf_24_17 G dX7_stale_1 lf7_48 (by first | assumption | decide) ?_
  refine j_iconst G dX7_stale_4 ?_
  refine j_cTVZ G csJ7_fill_49daa ml7_81 (c_J7_fill_49daa hi hcc h6 hvv hb) dX7_stale_5 ⟨by decide, by decide⟩ (by first | exact ⟨by decide, by decide⟩ | (constructor <;> dsimp only <;> omega)) rfl rfl (Nat.le_of_ble_eq_true rfl) (fun Z5 h5 => ?_)
  refine jr_VZ G hQ hr dX7_stale_8 (by decide) (by decide) ?_
  exact h5
set_option maxRecDepth 100000 in
set_option maxHeartbeats 8000000 in
theorem c_X7_goTo {l : Launch} {D : va_G} {cys : Nat → ClassId} {ad : Nat → Int → Nat} {L : List Nat} {g : Nat → va_E} {X : Int64} {Z : ZT} (hi : injA ad) {S : ZT} {d q : Int} (hS : RMZ S Z) (hW : WF S) (hd : inR d) (hq : inR q) : CM l D cys ad yX7_goTo cX7_goTo 4 (some .int) 3 65 0 0 [.ref (ad 24 0), .int (iI d), .int (iI q)] L g X Z (PIZ L g X Z (fun r Z' => ((0 ≤ d ∧ d < S 0 0 5 ∧ 0 ≤ q ∧ q < S 2 d 4) ∧ r = S 2 d 5 ∧ Z' = zS (zS Z 24 0 0 0) 31 0 d q) ∨ (¬ (0 ≤ d ∧ d < S 0 0 5 ∧ 0 ≤ q ∧ q < S 2 d 4) ∧ r = 0 ∧ MTH 1 Z Z'))) := by
  refine cm_start hi (by decide +kernel) (Nat.le_of_ble_eq_true rfl) ?_
  intro p_ e_ s_ m_ args_ below_ meth_ c_ A_ Q_ hQ G hr hin
  have hn := hW.n
  have hS1 := hS.th 0
  refine j_aload_n G dX7_goTo_0 rfl ?_
  refine j_iconst G dX7_goTo_1 ?_
  refine pf_24_0 G dX7_goTo_2 lf7_52 (by first | assumption | decide) ?_
  refine j_aload_n G dX7_goTo_5 rfl ?_
  refine j_iload_n G dX7_goTo_6 rfl ?_
  refine j_iload_n G dX7_goTo_7 rfl ?_
  refine j_cVI G cvX7_isMember ml7_99 (c_X7_isMember hi hS1 hW hd hq) dX7_goTo_8 ⟨by decide, by decide⟩ ⟨by decide, by decide⟩ rfl rfl (Nat.le_of_ble_eq_true rfl) (by first | assumption | decide) rfl rfl rfl (fun r8 h8 => ?_)
  refine j_if_ne G 20 dX7_goTo_11 (by decide) (by omega) (fun c11 => ?_) (fun c11 => ?_)
  · have hdq : 0 ≤ d ∧ d < S 0 0 5 ∧ 0 ≤ q ∧ q < S 2 d 4 := by omega
    have e31 := (hS.d hdq.1 (by omega)).2.2.1
    refine j_aload_n G dX7_goTo_20 rfl ?_
    refine gf_24_6 G dX7_goTo_21 lf7_26 (by first | assumption | decide) ?_
    refine j_iload_n G dX7_goTo_24 rfl ?_
    refine al_31 G dX7_goTo_25 (by first | assumption | decide) (by omega) (by omega) ?_
    try simp (config := { decide := true }) only [zS_k, zS_s, zS_j, ne_eq]
    refine j_istore_n G dX7_goTo_26 (by decide) rfl ?_
    refine j_aload_n G dX7_goTo_27 rfl ?_
    refine gf_24_6 G dX7_goTo_28 lf7_26 (by first | assumption | decide) ?_
    refine j_iload_n G dX7_goTo_31 rfl ?_
    refine j_iload_n G dX7_goTo_32 rfl ?_
    refine as_31 G dX7_goTo_33 (by first | assumption | decide) (by omega) (by omega) ?_
    refine j_iload_n G dX7_goTo_34 rfl ?_
    refine jr_IZ G hQ hr dX7_goTo_35 (by decide) (by decide) ?_
    try simp (config := { decide := true }) only [zS_k, zS_s, zS_j, ne_eq]
    exact Or.inl ⟨hdq, e31, by first | rfl | trivial⟩
  · refine j_aload_n G dX7_goTo_14 rfl ?_
    refine j_iconst G dX7_goTo_15 ?_
    refine j_cVIZ G cvX7_refuse ml7_85 (c_X7_refuse hi ) dX7_goTo_16 ⟨by decide, by decide⟩ ⟨by decide, by decide⟩ rfl rfl (Nat.le_of_ble_eq_true rfl) (by first | assumption | decide) rfl rfl rfl (fun r16 Z16 h16 => ?_)
    refine jr_IZ G hQ hr dX7_goTo_19 (by decide) (by decide) ?_
    try simp (config := { decide := true }) only [zS_k, zS_s, zS_j, ne_eq]
    exact Or.inr ⟨by omega, h16.1, MTH.up h16.2⟩
set_option maxRecDepth 100000 in
set_option maxHeartbeats 8000000 in
theorem c_X7_goUp {l : Launch} {D : va_G} {cys : Nat → ClassId} {ad : Nat → Int → Nat} {L : List Nat} {g : Nat → va_E} {X : Int64} {Z : ZT} (hi : injA ad) {S : ZT} {d : Int} (hS : RMZ S Z) (hW : WF S) (hd : inR d) : CM l D cys ad yX7_goUp cX7_goUp 2 (some .int) 2 43 0 0 [.ref (ad 24 0), .int (iI d)] L g X Z (PIZ L g X Z (fun r Z' => ((0 ≤ d ∧ d < S 0 0 5) ∧ ((S 2 d 5 = 0 ∧ r = -1 ∧ MTH 0 Z Z') ∨ (S 2 d 5 ≠ 0 ∧ r = S 3 d (S 2 d 5) ∧ Z' = zS (zS Z 24 0 0 0) 31 0 d (S 3 d (S 2 d 5))))) ∨ (¬ (0 ≤ d ∧ d < S 0 0 5) ∧ r = 0 ∧ MTH 1 Z Z'))) := by
  refine cm_start hi (by decide +kernel) (Nat.le_of_ble_eq_true rfl) ?_
  intro p_ e_ s_ m_ args_ below_ meth_ c_ A_ Q_ hQ G hr hin
  have hn := hW.n
  have hS1 := hS.th 0
  refine j_aload_n G dX7_goUp_0 rfl ?_
  refine j_iconst G dX7_goUp_1 ?_
  refine pf_24_0 G dX7_goUp_2 lf7_52 (by first | assumption | decide) ?_
  refine j_aload_n G dX7_goUp_5 rfl ?_
  refine j_iload_n G dX7_goUp_6 rfl ?_
  refine j_cVI G cvX7_isDimension ml7_63 (c_X7_isDimension hi hS1 hW hd) dX7_goUp_7 ⟨by decide, by decide⟩ ⟨by decide, by decide⟩ rfl rfl (Nat.le_of_ble_eq_true rfl) (by first | assumption | decide) rfl rfl rfl (fun r7 h7 => ?_)
  refine j_if_ne G 19 dX7_goUp_10 (by decide) (by omega) (fun c10 => ?_) (fun c10 => ?_)
  · have hdq : 0 ≤ d ∧ d < S 0 0 5 := by omega
    have ht := (hW.t hdq.1 hdq.2).1
    have e31 := (hS.d hdq.1 (by omega)).2.2.1
    have hv28 : vd 28 d := ⟨hdq.1, show d < 4 by omega⟩
    refine j_aload_n G dX7_goUp_19 rfl ?_
    refine gf_24_6 G dX7_goUp_20 lf7_26 (by first | assumption | decide) ?_
    refine j_iload_n G dX7_goUp_23 rfl ?_
    refine al_31 G dX7_goUp_24 (by first | assumption | decide) (by omega) (by omega) ?_
    try simp (config := { decide := true }) only [zS_k, zS_s, zS_j, ne_eq]
    refine j_if_ne G 30 dX7_goUp_25 (by decide) (by omega) (fun c25 => ?_) (fun c25 => ?_)
    · refine j_aload_n G dX7_goUp_30 rfl ?_
      refine gf_24_6 G dX7_goUp_31 lf7_26 (by first | assumption | decide) ?_
      refine j_iload_n G dX7_goUp_34 rfl ?_
      refine j_aload_n G dX7_goUp_35 rfl ?_
      refine gf_24_4 G dX7_goUp_36 lf7_18 (by first | assumption | decide) ?_
      refine j_iload_n G dX7_goUp_39 rfl ?_
      refine al_27 G dX7_goUp_40 (by first | assumption | decide) (by omega) (by omega) ?_
      refine j_aload_n G dX7_goUp_41 rfl ?_
      refine gf_24_6 G dX7_goUp_42 lf7_26 (by first | assumption | decide) ?_
      refine j_iload_n G dX7_goUp_45 rfl ?_
      refine al_31 G dX7_goUp_46 (by first | assumption | decide) (by omega) (by omega) ?_
      try simp (config := { decide := true }) only [zS_k, zS_s, zS_j, ne_eq]
      refine al_28 G dX7_goUp_47 (by first | assumption | decide) (by omega) (by omega) ?_
      try simp (config := { decide := true }) only [zS_k, zS_s, zS_j, ne_eq]
      refine as_31 G dX7_goUp_48 (by first | assumption | decide) (by omega) (by omega) ?_
      refine j_aload_n G dX7_goUp_49 rfl ?_
      refine gf_24_6 G dX7_goUp_50 lf7_26 (by first | assumption | decide) ?_
      refine j_iload_n G dX7_goUp_53 rfl ?_
      refine al_31 G dX7_goUp_54 (by first | assumption | decide) (by omega) (by omega) ?_
      try simp (config := { decide := true }) only [zS_k, zS_s, zS_j, ne_eq]
      refine jr_IZ G hQ hr dX7_goUp_55 (by decide) (by decide) ?_
      try simp (config := { decide := true }) only [zS_k, zS_s, zS_j, ne_eq]
      have ep := hS.p hdq.1 hdq.2 (by omega : 0 < S 2 d 5) (by omega)
      refine Or.inl ⟨hdq, Or.inr ⟨by omega, ?_, ?_⟩⟩
      · rw [e31, ep]
      · rw [e31, ep]
    · refine j_iconst G dX7_goUp_28 ?_
      refine jr_IZ G hQ hr dX7_goUp_29 (by decide) (by decide) ?_
      try simp (config := { decide := true }) only [zS_k, zS_s, zS_j, ne_eq]
      exact Or.inl ⟨hdq, Or.inl ⟨by omega, by first | rfl | trivial, rfl⟩⟩
  · refine j_aload_n G dX7_goUp_13 rfl ?_
    refine j_iconst G dX7_goUp_14 ?_
    refine j_cVIZ G cvX7_refuse ml7_85 (c_X7_refuse hi ) dX7_goUp_15 ⟨by decide, by decide⟩ ⟨by decide, by decide⟩ rfl rfl (Nat.le_of_ble_eq_true rfl) (by first | assumption | decide) rfl rfl rfl (fun r15 Z15 h15 => ?_)
    refine jr_IZ G hQ hr dX7_goUp_18 (by decide) (by decide) ?_
    try simp (config := { decide := true }) only [zS_k, zS_s, zS_j, ne_eq]
    exact Or.inr ⟨by omega, h15.1, MTH.up h15.2⟩
set_option maxRecDepth 100000 in
set_option maxHeartbeats 8000000 in
theorem c_X7_leaveOut {l : Launch} {D : va_G} {cys : Nat → ClassId} {ad : Nat → Int → Nat} {L : List Nat} {g : Nat → va_E} {X : Int64} {Z : ZT} (hi : injA ad) {S : ZT} {d q b : Int} (hS : RMZ S Z) (hW : WF S) (hd : inR d) (hq : inR q) (hb : b = 0 ∨ b = 1) : CM l D cys ad yX7_leaveOut cX7_leaveOut 5 (some .boolean) 3 65 0 0 [.ref (ad 24 0), .int (iI d), .int (iI q), .int (iI b)] L g X Z (PIZ L g X Z (fun r Z' => ((0 ≤ d ∧ d < S 0 0 5 ∧ 0 ≤ q ∧ q < S 2 d 4) ∧ r = S 5 d q ∧ Z' = zS (zS Z 24 0 0 0) 30 d q b) ∨ (¬ (0 ≤ d ∧ d < S 0 0 5 ∧ 0 ≤ q ∧ q < S 2 d 4) ∧ r = 0 ∧ MTH 1 Z Z'))) := by
  refine cm_start hi (by decide +kernel) (Nat.le_of_ble_eq_true rfl) ?_
  intro p_ e_ s_ m_ args_ below_ meth_ c_ A_ Q_ hQ G hr hin
  have hn := hW.n
  refine j_aload_n G dX7_leaveOut_0 rfl ?_
  refine j_aload_n G dX7_leaveOut_1 rfl ?_
  refine j_iload_n G dX7_leaveOut_2 rfl ?_
  refine j_iload_n G dX7_leaveOut_3 rfl ?_
  refine j_cVI G cvX7_isMember ml7_99 (c_X7_isMember hi hS hW hd hq) dX7_leaveOut_4 ⟨by decide, by decide⟩ ⟨by decide, by decide⟩ rfl rfl (Nat.le_of_ble_eq_true rfl) (by first | assumption | decide) rfl rfl rfl (fun r4 h4 => ?_)
  refine j_if_eq G 14 dX7_leaveOut_7 (by decide) (by omega) (fun c7 => ?_) (fun c7 => ?_)
  · refine j_iconst G dX7_leaveOut_14 ?_
    refine pf_24_0 G dX7_leaveOut_15 lf7_52 (by first | assumption | decide) ?_
    refine j_aload_n G dX7_leaveOut_18 rfl ?_
    refine gf_24_0 G dX7_leaveOut_19 lf7_52 (by first | assumption | decide) ?_
    try simp (config := { decide := true }) only [zS_k, zS_s, zS_j, ne_eq]
    refine j_if_le G 27 dX7_leaveOut_22 (by decide) (by omega) (fun c22 => ?_) (fun c22 => ?_)
    · have hdq : 0 ≤ d ∧ d < S 0 0 5 ∧ 0 ≤ q ∧ q < S 2 d 4 := by omega
      have ht := hW.t hdq.1 hdq.2.1
      have ht1 := ht.1
      have h01 := ht.2.2 q hdq.2.2.1 (by omega)
      have e30 := hS.o hdq.1 hdq.2.1 hdq.2.2.1 (by omega)
      have hv30 : vd 30 d := ⟨hdq.1, show d < 4 by omega⟩
      have hv29 : 0 ≤ d ∧ d < 4 := by omega
      refine j_aload_n G dX7_leaveOut_27 rfl ?_
      refine gf_24_5 G dX7_leaveOut_28 lf7_23 (by first | assumption | decide) ?_
      refine j_iload_n G dX7_leaveOut_31 rfl ?_
      refine al_29 G dX7_leaveOut_32 (by first | assumption | decide) (by omega) (by omega) ?_
      refine j_iload_n G dX7_leaveOut_33 rfl ?_
      refine al_30 G dX7_leaveOut_34 (by first | assumption | decide) (by omega) (by omega) ?_
      try simp (config := { decide := true }) only [zS_k, zS_s, zS_j, ne_eq]
      refine j_istore G dX7_leaveOut_35 (by decide) rfl ?_
      refine j_aload_n G dX7_leaveOut_37 rfl ?_
      refine gf_24_5 G dX7_leaveOut_38 lf7_23 (by first | assumption | decide) ?_
      refine j_iload_n G dX7_leaveOut_41 rfl ?_
      refine al_29 G dX7_leaveOut_42 (by first | assumption | decide) (by omega) (by omega) ?_
      refine j_iload_n G dX7_leaveOut_43 rfl ?_
      refine j_iload_n G dX7_leaveOut_44 rfl ?_
      refine as_30 G dX7_leaveOut_45 (by first | assumption | decide) (by omega) (by omega) (by omega) ?_
      refine j_iload G dX7_leaveOut_46 rfl ?_
      refine jr_BZ G hQ hr dX7_leaveOut_48 (by decide) (by decide) (by omega) ?_
      try simp (config := { decide := true }) only [zS_k, zS_s, zS_j, ne_eq]
      exact Or.inl ⟨hdq, e30, by first | rfl | trivial⟩
    · refine j_iconst G dX7_leaveOut_25 ?_
      refine jr_BZ G hQ hr dX7_leaveOut_26 (by decide) (by decide) (by omega) ?_
      try simp (config := { decide := true }) only [zS_k, zS_s, zS_j, ne_eq]
      first
      | exact Or.inr ⟨by omega, by first | rfl | trivial, rfl⟩
      | (exfalso; omega)
  · refine j_iconst G dX7_leaveOut_10 ?_
    refine j_goto G 15 dX7_leaveOut_11 (by decide) ?_
    refine pf_24_0 G dX7_leaveOut_15 lf7_52 (by first | assumption | decide) ?_
    refine j_aload_n G dX7_leaveOut_18 rfl ?_
    refine gf_24_0 G dX7_leaveOut_19 lf7_52 (by first | assumption | decide) ?_
    try simp (config := { decide := true }) only [zS_k, zS_s, zS_j, ne_eq]
    refine j_if_le G 27 dX7_leaveOut_22 (by decide) (by omega) (fun c22 => ?_) (fun c22 => ?_)
    · have hdq : 0 ≤ d ∧ d < S 0 0 5 ∧ 0 ≤ q ∧ q < S 2 d 4 := by omega
      have ht := hW.t hdq.1 hdq.2.1
      have ht1 := ht.1
      have h01 := ht.2.2 q hdq.2.2.1 (by omega)
      have e30 := hS.o hdq.1 hdq.2.1 hdq.2.2.1 (by omega)
      have hv30 : vd 30 d := ⟨hdq.1, show d < 4 by omega⟩
      have hv29 : 0 ≤ d ∧ d < 4 := by omega
      refine j_aload_n G dX7_leaveOut_27 rfl ?_
      refine gf_24_5 G dX7_leaveOut_28 lf7_23 (by first | assumption | decide) ?_
      refine j_iload_n G dX7_leaveOut_31 rfl ?_
      refine al_29 G dX7_leaveOut_32 (by first | assumption | decide) (by omega) (by omega) ?_
      refine j_iload_n G dX7_leaveOut_33 rfl ?_
      refine al_30 G dX7_leaveOut_34 (by first | assumption | decide) (by omega) (by omega) ?_
      try simp (config := { decide := true }) only [zS_k, zS_s, zS_j, ne_eq]
      refine j_istore G dX7_leaveOut_35 (by decide) rfl ?_
      refine j_aload_n G dX7_leaveOut_37 rfl ?_
      refine gf_24_5 G dX7_leaveOut_38 lf7_23 (by first | assumption | decide) ?_
      refine j_iload_n G dX7_leaveOut_41 rfl ?_
      refine al_29 G dX7_leaveOut_42 (by first | assumption | decide) (by omega) (by omega) ?_
      refine j_iload_n G dX7_leaveOut_43 rfl ?_
      refine j_iload_n G dX7_leaveOut_44 rfl ?_
      refine as_30 G dX7_leaveOut_45 (by first | assumption | decide) (by omega) (by omega) (by omega) ?_
      refine j_iload G dX7_leaveOut_46 rfl ?_
      refine jr_BZ G hQ hr dX7_leaveOut_48 (by decide) (by decide) (by omega) ?_
      try simp (config := { decide := true }) only [zS_k, zS_s, zS_j, ne_eq]
      exact Or.inl ⟨hdq, e30, by first | rfl | trivial⟩
    · refine j_iconst G dX7_leaveOut_25 ?_
      refine jr_BZ G hQ hr dX7_leaveOut_26 (by decide) (by decide) (by omega) ?_
      try simp (config := { decide := true }) only [zS_k, zS_s, zS_j, ne_eq]
      first
      | exact Or.inr ⟨by omega, by first | rfl | trivial, rfl⟩
      | (exfalso; omega)

