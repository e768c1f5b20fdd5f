theorem dX7_setLevel_0 : decode cX7_setLevel 0 = .ok (.aload_n 0, 1) := by decide +kernel
theorem dX7_setLevel_1 : decode cX7_setLevel 1 = .ok (.iconst 0, 1) := by decide +kernel
theorem dX7_setLevel_2 : decode cX7_setLevel 2 = .ok (.putfield 52, 3) := by decide +kernel
theorem dX7_setLevel_5 : decode cX7_setLevel 5 = .ok (.aload_n 0, 1) := by decide +kernel
theorem dX7_setLevel_6 : decode cX7_setLevel 6 = .ok (.iload_n 1, 1) := by decide +kernel
theorem dX7_setLevel_7 : decode cX7_setLevel 7 = .ok (.iload_n 2, 1) := by decide +kernel
theorem dX7_setLevel_8 : decode cX7_setLevel 8 = .ok (.invokevirtual 109, 3) := by decide +kernel
theorem dX7_setLevel_11 : decode cX7_setLevel 11 = .ok (.ifCond .ne 9, 3) := by decide +kernel
theorem dX7_setLevel_14 : decode cX7_setLevel 14 = .ok (.aload_n 0, 1) := by decide +kernel
theorem dX7_setLevel_15 : decode cX7_setLevel 15 = .ok (.iconst 1, 1) := by decide +kernel
theorem dX7_setLevel_16 : decode cX7_setLevel 16 = .ok (.invokevirtual 85, 3) := by decide +kernel
theorem dX7_setLevel_19 : decode cX7_setLevel 19 = .ok (.ireturn, 1) := by decide +kernel
theorem dX7_setLevel_20 : decode cX7_setLevel 20 = .ok (.aload_n 0, 1) := by decide +kernel
theorem dX7_setLevel_21 : decode cX7_setLevel 21 = .ok (.getfield 29, 3) := by decide +kernel
theorem dX7_setLevel_24 : decode cX7_setLevel 24 = .ok (.iload_n 1, 1) := by decide +kernel
theorem dX7_setLevel_25 : decode cX7_setLevel 25 = .ok (.iaload, 1) := by decide +kernel
theorem dX7_setLevel_26 : decode cX7_setLevel 26 = .ok (.istore_n 3, 1) := by decide +kernel
theorem dX7_setLevel_27 : decode cX7_setLevel 27 = .ok (.aload_n 0, 1) := by decide +kernel
theorem dX7_setLevel_28 : decode cX7_setLevel 28 = .ok (.getfield 29, 3) := by decide +kernel
theorem dX7_setLevel_31 : decode cX7_setLevel 31 = .ok (.iload_n 1, 1) := by decide +kernel
theorem dX7_setLevel_32 : decode cX7_setLevel 32 = .ok (.iload_n 2, 1) := by decide +kernel
theorem dX7_setLevel_33 : decode cX7_setLevel 33 = .ok (.iastore, 1) := by decide +kernel
theorem dX7_setLevel_34 : decode cX7_setLevel 34 = .ok (.iload_n 3, 1) := by decide +kernel
theorem dX7_setLevel_35 : decode cX7_setLevel 35 = .ok (.ireturn, 1) := by decide +kernel
theorem dX7_move_0 : decode cX7_move 0 = .ok (.aload_n 0, 1) := by decide +kernel
theorem dX7_move_1 : decode cX7_move 1 = .ok (.iconst 0, 1) := by decide +kernel
theorem dX7_move_2 : decode cX7_move 2 = .ok (.putfield 52, 3) := by decide +kernel
theorem dX7_move_5 : decode cX7_move 5 = .ok (.aload_n 0, 1) := by decide +kernel
theorem dX7_move_6 : decode cX7_move 6 = .ok (.iload_n 1, 1) := by decide +kernel
theorem dX7_move_7 : decode cX7_move 7 = .ok (.iload_n 2, 1) := by decide +kernel
theorem dX7_move_8 : decode cX7_move 8 = .ok (.invokevirtual 99, 3) := by decide +kernel
theorem dX7_move_11 : decode cX7_move 11 = .ok (.ifCond .eq 12, 3) := by decide +kernel
theorem dX7_move_14 : decode cX7_move 14 = .ok (.aload_n 0, 1) := by decide +kernel
theorem dX7_move_15 : decode cX7_move 15 = .ok (.iload_n 1, 1) := by decide +kernel
theorem dX7_move_16 : decode cX7_move 16 = .ok (.iload_n 3, 1) := by decide +kernel
theorem dX7_move_17 : decode cX7_move 17 = .ok (.invokevirtual 99, 3) := by decide +kernel
theorem dX7_move_20 : decode cX7_move 20 = .ok (.ifCond .ne 9, 3) := by decide +kernel
theorem dX7_move_23 : decode cX7_move 23 = .ok (.aload_n 0, 1) := by decide +kernel
theorem dX7_move_24 : decode cX7_move 24 = .ok (.iconst 1, 1) := by decide +kernel
theorem dX7_move_25 : decode cX7_move 25 = .ok (.invokevirtual 85, 3) := by decide +kernel
theorem dX7_move_28 : decode cX7_move 28 = .ok (.ireturn, 1) := by decide +kernel
theorem dX7_move_29 : decode cX7_move 29 = .ok (.iload_n 2, 1) := by decide +kernel
theorem dX7_move_30 : decode cX7_move 30 = .ok (.ifCond .eq 20, 3) := by decide +kernel
theorem dX7_move_33 : decode cX7_move 33 = .ok (.aload_n 0, 1) := by decide +kernel
theorem dX7_move_34 : decode cX7_move 34 = .ok (.iload_n 1, 1) := by decide +kernel
theorem dX7_move_35 : decode cX7_move 35 = .ok (.iload_n 3, 1) := by decide +kernel
theorem dX7_move_36 : decode cX7_move 36 = .ok (.invokevirtual 67, 3) := by decide +kernel
theorem dX7_move_39 : decode cX7_move 39 = .ok (.aload_n 0, 1) := by decide +kernel
theorem dX7_move_40 : decode cX7_move 40 = .ok (.iload_n 1, 1) := by decide +kernel
theorem dX7_move_41 : decode cX7_move 41 = .ok (.iload_n 2, 1) := by decide +kernel
theorem dX7_move_42 : decode cX7_move 42 = .ok (.invokevirtual 67, 3) := by decide +kernel
theorem dX7_move_45 : decode cX7_move 45 = .ok (.iconst 1, 1) := by decide +kernel
theorem dX7_move_46 : decode cX7_move 46 = .ok (.isub, 1) := by decide +kernel
theorem dX7_move_47 : decode cX7_move 47 = .ok (.if_icmp .eq 9, 3) := by decide +kernel
theorem dX7_move_50 : decode cX7_move 50 = .ok (.aload_n 0, 1) := by decide +kernel
theorem dX7_move_51 : decode cX7_move 51 = .ok (.iconst 2, 1) := by decide +kernel
theorem dX7_move_52 : decode cX7_move 52 = .ok (.invokevirtual 85, 3) := by decide +kernel
theorem dX7_move_55 : decode cX7_move 55 = .ok (.ireturn, 1) := by decide +kernel
theorem dX7_move_56 : decode cX7_move 56 = .ok (.aload_n 0, 1) := by decide +kernel
theorem dX7_move_57 : decode cX7_move 57 = .ok (.getfield 18, 3) := by decide +kernel
theorem dX7_move_60 : decode cX7_move 60 = .ok (.iload_n 1, 1) := by decide +kernel
theorem dX7_move_61 : decode cX7_move 61 = .ok (.aaload, 1) := by decide +kernel
theorem dX7_move_62 : decode cX7_move 62 = .ok (.iload_n 2, 1) := by decide +kernel
theorem dX7_move_63 : decode cX7_move 63 = .ok (.iaload, 1) := by decide +kernel
theorem dX7_move_64 : decode cX7_move 64 = .ok (.istore 4, 2) := by decide +kernel
theorem dX7_move_66 : decode cX7_move 66 = .ok (.aload_n 0, 1) := by decide +kernel
theorem dX7_move_67 : decode cX7_move 67 = .ok (.getfield 18, 3) := by decide +kernel
theorem dX7_move_70 : decode cX7_move 70 = .ok (.iload_n 1, 1) := by decide +kernel
theorem dX7_move_71 : decode cX7_move 71 = .ok (.aaload, 1) := by decide +kernel
theorem dX7_move_72 : decode cX7_move 72 = .ok (.iload_n 2, 1) := by decide +kernel
theorem dX7_move_73 : decode cX7_move 73 = .ok (.iload_n 3, 1) := by decide +kernel
theorem dX7_move_74 : decode cX7_move 74 = .ok (.iastore, 1) := by decide +kernel
theorem dX7_move_75 : decode cX7_move 75 = .ok (.aload_n 0, 1) := by decide +kernel
theorem dX7_move_76 : decode cX7_move 76 = .ok (.invokevirtual 103, 3) := by decide +kernel
theorem dX7_move_79 : decode cX7_move 79 = .ok (.iload 4, 2) := by decide +kernel
theorem dX7_move_81 : decode cX7_move 81 = .ok (.ireturn, 1) := by decide +kernel
theorem dX7_keep_0 : decode cX7_keep 0 = .ok (.aload_n 0, 1) := by decide +kernel
theorem dX7_keep_1 : decode cX7_keep 1 = .ok (.iconst 0, 1) := by decide +kernel
theorem dX7_keep_2 : decode cX7_keep 2 = .ok (.putfield 52, 3) := by decide +kernel
theorem dX7_keep_5 : decode cX7_keep 5 = .ok (.aload_n 0, 1) := by decide +kernel
theorem dX7_keep_6 : decode cX7_keep 6 = .ok (.getfield 92, 3) := by decide +kernel
theorem dX7_keep_9 : decode cX7_keep 9 = .ok (.bipush 6, 2) := by decide +kernel
theorem dX7_keep_11 : decode cX7_keep 11 = .ok (.if_icmp .ne 9, 3) := by decide +kernel
theorem dX7_keep_14 : decode cX7_keep 14 = .ok (.aload_n 0, 1) := by decide +kernel
theorem dX7_keep_15 : decode cX7_keep 15 = .ok (.iconst 1, 1) := by decide +kernel
theorem dX7_keep_16 : decode cX7_keep 16 = .ok (.invokevirtual 85, 3) := by decide +kernel
theorem dX7_keep_19 : decode cX7_keep 19 = .ok (.ireturn, 1) := by decide +kernel
theorem dX7_keep_20 : decode cX7_keep 20 = .ok (.aload_n 0, 1) := by decide +kernel
theorem dX7_keep_21 : decode cX7_keep 21 = .ok (.getfield 42, 3) := by decide +kernel
theorem dX7_keep_24 : decode cX7_keep 24 = .ok (.aload_n 0, 1) := by decide +kernel
theorem dX7_keep_25 : decode cX7_keep 25 = .ok (.getfield 92, 3) := by decide +kernel
theorem dX7_keep_28 : decode cX7_keep 28 = .ok (.aload_n 0, 1) := by decide +kernel
theorem dX7_keep_29 : decode cX7_keep 29 = .ok (.invokevirtual 220, 3) := by decide +kernel
theorem dX7_keep_32 : decode cX7_keep 32 = .ok (.iastore, 1) := by decide +kernel
theorem dX7_keep_33 : decode cX7_keep 33 = .ok (.aload_n 0, 1) := by decide +kernel
theorem dX7_keep_34 : decode cX7_keep 34 = .ok (.getfield 45, 3) := by decide +kernel
theorem dX7_keep_37 : decode cX7_keep 37 = .ok (.aload_n 0, 1) := by decide +kernel
theorem dX7_keep_38 : decode cX7_keep 38 = .ok (.getfield 92, 3) := by decide +kernel
theorem dX7_keep_41 : decode cX7_keep 41 = .ok (.aload_n 0, 1) := by decide +kernel
theorem dX7_keep_42 : decode cX7_keep 42 = .ok (.aload_n 0, 1) := by decide +kernel
theorem dX7_keep_43 : decode cX7_keep 43 = .ok (.invokevirtual 220, 3) := by decide +kernel
theorem dX7_keep_46 : decode cX7_keep 46 = .ok (.invokevirtual 206, 3) := by decide +kernel
theorem dX7_keep_49 : decode cX7_keep 49 = .ok (.iastore, 1) := by decide +kernel
theorem dX7_keep_50 : decode cX7_keep 50 = .ok (.aload_n 0, 1) := by decide +kernel
theorem dX7_keep_51 : decode cX7_keep 51 = .ok (.getfield 48, 3) := by decide +kernel
theorem dX7_keep_54 : decode cX7_keep 54 = .ok (.aload_n 0, 1) := by decide +kernel
theorem dX7_keep_55 : decode cX7_keep 55 = .ok (.getfield 92, 3) := by decide +kernel
theorem dX7_keep_58 : decode cX7_keep 58 = .ok (.iconst 0, 1) := by decide +kernel
theorem dX7_keep_59 : decode cX7_keep 59 = .ok (.bastore, 1) := by decide +kernel
theorem dX7_keep_60 : decode cX7_keep 60 = .ok (.aload_n 0, 1) := by decide +kernel
theorem dX7_keep_61 : decode cX7_keep 61 = .ok (.dup, 1) := by decide +kernel
theorem dX7_keep_62 : decode cX7_keep 62 = .ok (.getfield 92, 3) := by decide +kernel
theorem dX7_keep_65 : decode cX7_keep 65 = .ok (.iconst 1, 1) := by decide +kernel
theorem dX7_keep_66 : decode cX7_keep 66 = .ok (.iadd, 1) := by decide +kernel
theorem dX7_keep_67 : decode cX7_keep 67 = .ok (.putfield 92, 3) := by decide +kernel
theorem dX7_keep_70 : decode cX7_keep 70 = .ok (.aload_n 0, 1) := by decide +kernel
theorem dX7_keep_71 : decode cX7_keep 71 = .ok (.getfield 92, 3) := by decide +kernel
theorem dX7_keep_74 : decode cX7_keep 74 = .ok (.iconst 1, 1) := by decide +kernel
theorem dX7_keep_75 : decode cX7_keep 75 = .ok (.isub, 1) := by decide +kernel
theorem dX7_keep_76 : decode cX7_keep 76 = .ok (.ireturn, 1) := by decide +kernel
theorem dX7_refresh_0 : decode cX7_refresh 0 = .ok (.aload_n 0, 1) := by decide +kernel
theorem dX7_refresh_1 : decode cX7_refresh 1 = .ok (.iload_n 1, 1) := by decide +kernel
theorem dX7_refresh_2 : decode cX7_refresh 2 = .ok (.invokevirtual 223, 3) := by decide +kernel
theorem dX7_refresh_5 : decode cX7_refresh 5 = .ok (.ifCond .ne 5, 3) := by decide +kernel
theorem dX7_refresh_8 : decode cX7_refresh 8 = .ok (.iconst 0, 1) := by decide +kernel
theorem dX7_refresh_9 : decode cX7_refresh 9 = .ok (.ireturn, 1) := by decide +kernel
theorem dX7_refresh_10 : decode cX7_refresh 10 = .ok (.aload_n 0, 1) := by decide +kernel
theorem dX7_refresh_11 : decode cX7_refresh 11 = .ok (.getfield 45, 3) := by decide +kernel
theorem dX7_refresh_14 : decode cX7_refresh 14 = .ok (.iload_n 1, 1) := by decide +kernel
theorem dX7_refresh_15 : decode cX7_refresh 15 = .ok (.aload_n 0, 1) := by decide +kernel
theorem dX7_refresh_16 : decode cX7_refresh 16 = .ok (.aload_n 0, 1) := by decide +kernel
theorem dX7_refresh_17 : decode cX7_refresh 17 = .ok (.getfield 42, 3) := by decide +kernel
theorem dX7_refresh_20 : decode cX7_refresh 20 = .ok (.iload_n 1, 1) := by decide +kernel
theorem dX7_refresh_21 : decode cX7_refresh 21 = .ok (.iaload, 1) := by decide +kernel
theorem dX7_refresh_22 : decode cX7_refresh 22 = .ok (.invokevirtual 206, 3) := by decide +kernel
theorem dX7_refresh_25 : decode cX7_refresh 25 = .ok (.iastore, 1) := by decide +kernel
theorem dX7_refresh_26 : decode cX7_refresh 26 = .ok (.aload_n 0, 1) := by decide +kernel
theorem dX7_refresh_27 : decode cX7_refresh 27 = .ok (.getfield 48, 3) := by decide +kernel
theorem dX7_refresh_30 : decode cX7_refresh 30 = .ok (.iload_n 1, 1) := by decide +kernel
theorem dX7_refresh_31 : decode cX7_refresh 31 = .ok (.iconst 0, 1) := by decide +kernel
theorem dX7_refresh_32 : decode cX7_refresh 32 = .ok (.bastore, 1) := by decide +kernel
theorem dX7_refresh_33 : decode cX7_refresh 33 = .ok (.aload_n 0, 1) := by decide +kernel
theorem dX7_refresh_34 : decode cX7_refresh 34 = .ok (.getfield 45, 3) := by decide +kernel
theorem dX7_refresh_37 : decode cX7_refresh 37 = .ok (.iload_n 1, 1) := by decide +kernel
theorem dX7_refresh_38 : decode cX7_refresh 38 = .ok (.iaload, 1) := by decide +kernel
theorem dX7_refresh_39 : decode cX7_refresh 39 = .ok (.ireturn, 1) := by decide +kernel
/-! by program: wip/whole/gen.py out of wip/whole/src/38.muts.eb -/
/-! EbbTableModel: more calls that change it -/
set_option maxRecDepth 100000 in
set_option maxHeartbeats 8000000 in
theorem c_X7_setLevel {l : Launch} {D : va_G} {cys : Nat → ClassId} {ad : Nat → Int → Nat} {L : List Nat} {g : Nat → va_E} {X : Int64} {Z : ZT} (hi : injA ad) {S : ZT} {d q : Int} (hS : RMZ S Z) (hW : WF S) (hd : inR d) (hq : inR q) : CM l D cys ad yX7_setLevel cX7_setLevel 4 (some .int) 3 65 0 0 [.ref (ad 24 0), .int (iI d), .int (iI q)] L g X Z (PIZ L g X Z (fun r Z' => ((0 ≤ d ∧ d < S 0 0 5 ∧ 0 ≤ q ∧ q ≤ S 2 d 3) ∧ r = lvl (S 0 0 6) d ∧ Z' = zS (zS Z 24 0 0 0) 32 0 d q) ∨ (¬ (0 ≤ d ∧ d < S 0 0 5 ∧ 0 ≤ q ∧ q ≤ S 2 d 3) ∧ r = 0 ∧ MTH 1 Z Z'))) := by
  refine cm_start hi (by decide +kernel) (Nat.le_of_ble_eq_true rfl) ?_
  intro p_ e_ s_ m_ args_ below_ meth_ c_ A_ Q_ hQ G hr hin
  have hn := hW.n
  have hS1 := hS.th 0
  refine j_aload_n G dX7_setLevel_0 rfl ?_
  refine j_iconst G dX7_setLevel_1 ?_
  refine pf_24_0 G dX7_setLevel_2 lf7_52 (by first | assumption | decide) ?_
  refine j_aload_n G dX7_setLevel_5 rfl ?_
  refine j_iload_n G dX7_setLevel_6 rfl ?_
  refine j_iload_n G dX7_setLevel_7 rfl ?_
  refine j_cVI G cvX7_isLevel ml7_109 (c_X7_isLevel hi hS1 hW hd hq) dX7_setLevel_8 ⟨by decide, by decide⟩ ⟨by decide, by decide⟩ rfl rfl (Nat.le_of_ble_eq_true rfl) (by first | assumption | decide) rfl rfl rfl (fun r8 h8 => ?_)
  refine j_if_ne G 20 dX7_setLevel_11 (by decide) (by omega) (fun c11 => ?_) (fun c11 => ?_)
  · have hdq : 0 ≤ d ∧ d < S 0 0 5 ∧ 0 ≤ q ∧ q ≤ S 2 d 3 := by omega
    have e32 := (hS.d hdq.1 (by omega)).2.2.2
    refine j_aload_n G dX7_setLevel_20 rfl ?_
    refine gf_24_7 G dX7_setLevel_21 lf7_29 (by first | assumption | decide) ?_
    refine j_iload_n G dX7_setLevel_24 rfl ?_
    refine al_32 G dX7_setLevel_25 (by first | assumption | decide) (by omega) (by omega) ?_
    try simp (config := { decide := true }) only [zS_k, zS_s, zS_j, ne_eq]
    refine j_istore_n G dX7_setLevel_26 (by decide) rfl ?_
    refine j_aload_n G dX7_setLevel_27 rfl ?_
    refine gf_24_7 G dX7_setLevel_28 lf7_29 (by first | assumption | decide) ?_
    refine j_iload_n G dX7_setLevel_31 rfl ?_
    refine j_iload_n G dX7_setLevel_32 rfl ?_
    refine as_32 G dX7_setLevel_33 (by first | assumption | decide) (by omega) (by omega) ?_
    refine j_iload_n G dX7_setLevel_34 rfl ?_
    refine jr_IZ G hQ hr dX7_setLevel_35 (by decide) (by decide) ?_
    try simp (config := { decide := true }) only [zS_k, zS_s, zS_j, ne_eq]
    exact Or.inl ⟨hdq, e32, by first | rfl | trivial⟩
  · refine j_aload_n G dX7_setLevel_14 rfl ?_
    refine j_iconst G dX7_setLevel_15 ?_
    refine j_cVIZ G cvX7_refuse ml7_85 (c_X7_refuse hi ) dX7_setLevel_16 ⟨by decide, by decide⟩ ⟨by decide, by decide⟩ rfl rfl (Nat.le_of_ble_eq_true rfl) (by first | assumption | decide) rfl rfl rfl (fun r16 Z16 h16 => ?_)
    refine jr_IZ G hQ hr dX7_setLevel_19 (by decide) (by decide) ?_
    try simp (config := { decide := true }) only [zS_k, zS_s, zS_j, ne_eq]
    exact Or.inr ⟨by omega, h16.1, MTH.up h16.2⟩
set_option maxRecDepth 100000 in
set_option maxHeartbeats 8000000 in
theorem c_X7_move {l : Launch} {D : va_G} {cys : Nat → ClassId} {ad : Nat → Int → Nat} {L : List Nat} {g : Nat → va_E} {X : Int64} {Z : ZT} (hi : injA ad) {S : ZT} {d q w : Int} (hS : RMZ S Z) (hW : WF S) (hd : inR d) (hq : inR q) (hw : inR w) : CM l D cys ad yX7_move cX7_move 5 (some .int) 3 65 0 0 [.ref (ad 24 0), .int (iI d), .int (iI q), .int (iI w)] L g X Z (PIZ L g X Z (fun r Z' => ((0 ≤ d ∧ d < S 0 0 5 ∧ 0 ≤ q ∧ q < S 2 d 4 ∧ 0 ≤ w ∧ w < S 2 d 4) ∧ (q ≠ 0 ∧ S 4 d w = S 4 d q - 1) ∧ r = S 3 d q ∧ (∀ k' i', ¬ (k' = 38 ∧ i' = 0) → Z' k' i' = zS (zS Z 24 0 0 0) 28 d q w k' i') ∧ ∀ j, Z' 38 0 j = if 0 ≤ j ∧ j < (6 : Nat) then 1 else Z 38 0 j) ∨ (¬ (0 ≤ d ∧ d < S 0 0 5 ∧ 0 ≤ q ∧ q < S 2 d 4 ∧ 0 ≤ w ∧ w < S 2 d 4) ∧ r = 0 ∧ MTH 1 Z Z') ∨ ((0 ≤ d ∧ d < S 0 0 5 ∧ 0 ≤ q ∧ q < S 2 d 4 ∧ 0 ≤ w ∧ w < S 2 d 4) ∧ ¬ (q ≠ 0 ∧ S 4 d w = S 4 d q - 1) ∧ r = 0 ∧ MTH 2 Z Z'))) := by
  refine cm_start hi (by decide +kernel) (Nat.le_of_ble_eq_true rfl) ?_
  intro p_ e_ s_ m_ args_ below_ meth_ c_ A_ Q_ hQ G hr hin
  have hn := hW.n
  have hS1 := hS.th 0
  refine j_aload_n G dX7_move_0 rfl ?_
  refine j_iconst G dX7_move_1 ?_
  refine pf_24_0 G dX7_move_2 lf7_52 (by first | assumption | decide) ?_
  refine j_aload_n G dX7_move_5 rfl ?_
  refine j_iload_n G dX7_move_6 rfl ?_
  refine j_iload_n G dX7_move_7 rfl ?_
  refine j_cVI G cvX7_isMember ml7_99 (c_X7_isMember hi hS1 hW hd hq) dX7_move_8 ⟨by decide, by decide⟩ ⟨by decide, by decide⟩ rfl rfl (Nat.le_of_ble_eq_true rfl) (by first | assumption | decide) rfl rfl rfl (fun r8 h8 => ?_)
  refine j_if_eq G 23 dX7_move_11 (by decide) (by omega) (fun c11 => ?_) (fun c11 => ?_)
  · refine j_aload_n G dX7_move_23 rfl ?_
    refine j_iconst G dX7_move_24 ?_
    refine j_cVIZ G cvX7_refuse ml7_85 (c_X7_refuse hi ) dX7_move_25 ⟨by decide, by decide⟩ ⟨by decide, by decide⟩ rfl rfl (Nat.le_of_ble_eq_true rfl) (by first | assumption | decide) rfl rfl rfl (fun r25 Z25 h25 => ?_)
    refine jr_IZ G hQ hr dX7_move_28 (by decide) (by decide) ?_
    try simp (config := { decide := true }) only [zS_k, zS_s, zS_j, ne_eq]
    first
    | exact Or.inr (Or.inl ⟨by omega, h25.1, MTH.up h25.2⟩)
  · refine j_aload_n G dX7_move_14 rfl ?_
    refine j_iload_n G dX7_move_15 rfl ?_
    refine j_iload_n G dX7_move_16 rfl ?_
    refine j_cVI G cvX7_isMember ml7_99 (c_X7_isMember hi hS1 hW hd hw) dX7_move_17 ⟨by decide, by decide⟩ ⟨by decide, by decide⟩ rfl rfl (Nat.le_of_ble_eq_true rfl) (by first | assumption | decide) rfl rfl rfl (fun r17 h17 => ?_)
    refine j_if_ne G 29 dX7_move_20 (by decide) (by omega) (fun c20 => ?_) (fun c20 => ?_)
    · have hdq : 0 ≤ d ∧ d < S 0 0 5 ∧ 0 ≤ q ∧ q < S 2 d 4 ∧ 0 ≤ w ∧ w < S 2 d 4 := by omega
      have hd0 : 0 ≤ d ∧ d < S 0 0 5 := by omega
      have hq0 : 0 ≤ q ∧ q < S 2 d 4 := by omega
      have hw0 : 0 ≤ w ∧ w < S 2 d 4 := by omega
      have ht := hW.t hd0.1 hd0.2
      have ht1 := ht.1
      have hmq := ht.at hq0.1 hq0.2
      have hmw := ht.at hw0.1 hw0.2
      unfold MOK at hmq hmw
      have hv27 : 0 ≤ d ∧ d < 4 := by omega
      have hv28 : vd 28 d := ⟨hd0.1, show d < 4 by omega⟩
      refine j_iload_n G dX7_move_29 rfl ?_
      refine j_if_eq G 50 dX7_move_30 (by decide) (by omega) (fun c30 => ?_) (fun c30 => ?_)
      · refine j_aload_n G dX7_move_50 rfl ?_
        refine j_iconst G dX7_move_51 ?_
        refine j_cVIZ G cvX7_refuse ml7_85 (c_X7_refuse hi ) dX7_move_52 ⟨by decide, by decide⟩ ⟨by decide, by decide⟩ rfl rfl (Nat.le_of_ble_eq_true rfl) (by first | assumption | decide) rfl rfl rfl (fun r52 Z52 h52 => ?_)
        refine jr_IZ G hQ hr dX7_move_55 (by decide) (by decide) ?_
        try simp (config := { decide := true }) only [zS_k, zS_s, zS_j, ne_eq]
        first
        | exact Or.inr (Or.inr ⟨hdq, by omega, h52.1, MTH.up h52.2⟩)
      · refine j_aload_n G dX7_move_33 rfl ?_
        refine j_iload_n G dX7_move_34 rfl ?_
        refine j_iload_n G dX7_move_35 rfl ?_
        refine j_cVI G cvX7_depth ml7_67 (c_X7_depth hi hS1 hW hd0 hw0) dX7_move_36 ⟨by decide, by decide⟩ ⟨by decide, by decide⟩ rfl rfl (Nat.le_of_ble_eq_true rfl) (by first | assumption | decide) rfl rfl rfl (fun r36 h36 => ?_)
        refine j_aload_n G dX7_move_39 rfl ?_
        refine j_iload_n G dX7_move_40 rfl ?_
        refine j_iload_n G dX7_move_41 rfl ?_
        refine j_cVI G cvX7_depth ml7_67 (c_X7_depth hi hS1 hW hd0 hq0) dX7_move_42 ⟨by decide, by decide⟩ ⟨by decide, by decide⟩ rfl rfl (Nat.le_of_ble_eq_true rfl) (by first | assumption | decide) rfl rfl rfl (fun r42 h42 => ?_)
        refine j_iconst G dX7_move_45 ?_
        refine j_isub G dX7_move_46 ?_
        refine j_icmp_eq G 56 dX7_move_47 (by decide) (by omega) (by omega) (fun c47 => ?_) (fun c47 => ?_)
        · refine j_aload_n G dX7_move_56 rfl ?_
          refine gf_24_4 G dX7_move_57 lf7_18 (by first | assumption | decide) ?_
          refine j_iload_n G dX7_move_60 rfl ?_
          refine al_27 G dX7_move_61 (by first | assumption | decide) (by omega) (by omega) ?_
          refine j_iload_n G dX7_move_62 rfl ?_
          refine al_28 G dX7_move_63 (by first | assumption | decide) (by omega) (by omega) ?_
          try simp (config := { decide := true }) only [zS_k, zS_s, zS_j, ne_eq]
          refine j_istore G dX7_move_64 (by decide) rfl ?_
          refine j_aload_n G dX7_move_66 rfl ?_
          refine gf_24_4 G dX7_move_67 lf7_18 (by first | assumption | decide) ?_
          refine j_iload_n G dX7_move_70 rfl ?_
          refine al_27 G dX7_move_71 (by first | assumption | decide) (by omega) (by omega) ?_
          refine j_iload_n G dX7_move_72 rfl ?_
          refine j_iload_n G dX7_move_73 rfl ?_
          refine as_28 G dX7_move_74 (by first | assumption | decide) (by omega) (by omega) ?_
          refine j_aload_n G dX7_move_75 rfl ?_
          refine j_cVVZ G cvX7_stale ml7_103 (c_X7_stale hi ) dX7_move_76 ⟨by decide, by decide⟩ ⟨by decide, by decide⟩ rfl rfl (Nat.le_of_ble_eq_true rfl) (by first | assumption | decide) rfl rfl rfl (fun Z76 h76 => ?_)
          refine j_iload G dX7_move_79 rfl ?_
          refine jr_IZ G hQ hr dX7_move_81 (by decide) (by decide) ?_
          try simp (config := { decide := true }) only [zS_k, zS_s, zS_j, ne_eq]
          have ep := hS.p hd0.1 hd0.2 (by omega : 0 < q) hq0.2
          refine Or.inl ⟨hdq, by omega, ep, h76.1, fun j => ?_⟩
          rw [h76.2, zS_k (by decide), zS_k (by decide)]
        · refine j_aload_n G dX7_move_50 rfl ?_
          refine j_iconst G dX7_move_51 ?_
          refine j_cVIZ G cvX7_refuse ml7_85 (c_X7_refuse hi ) dX7_move_52 ⟨by decide, by decide⟩ ⟨by decide, by decide⟩ rfl rfl (Nat.le_of_ble_eq_true rfl) (by first | assumption | decide) rfl rfl rfl (fun r52 Z52 h52 => ?_)
          refine jr_IZ G hQ hr dX7_move_55 (by decide) (by decide) ?_
          try simp (config := { decide := true }) only [zS_k, zS_s, zS_j, ne_eq]
          first
          | exact Or.inr (Or.inr ⟨hdq, by omega, h52.1, MTH.up h52.2⟩)
    · refine j_aload_n G dX7_move_23 rfl ?_
      refine j_iconst G dX7_move_24 ?_
      refine j_cVIZ G cvX7_refuse ml7_85 (c_X7_refuse hi ) dX7_move_25 ⟨by decide, by decide⟩ ⟨by decide, by decide⟩ rfl rfl (Nat.le_of_ble_eq_true rfl) (by first | assumption | decide) rfl rfl rfl (fun r25 Z25 h25 => ?_)
      refine jr_IZ G hQ hr dX7_move_28 (by decide) (by decide) ?_
      try simp (config := { decide := true }) only [zS_k, zS_s, zS_j, ne_eq]
      first
      | exact Or.inr (Or.inl ⟨by omega, h25.1, MTH.up h25.2⟩)
set_option maxRecDepth 100000 in
set_option maxHeartbeats 8000000 in
theorem c_X7_keep {l : Launch} {D : va_G} {cys : Nat → ClassId} {ad : Nat → Int → Nat} {L : List Nat} {g : Nat → va_E} {X : Int64} {Z : ZT} (hi : injA ad) {S : ZT} (hS : RMZ S Z) (hRL : RML cys ad S L g) (hW : WF S) : CM l D cys ad yX7_keep cX7_keep 1 (some .int) 4 98 0 0 [.ref (ad 24 0)] L g X Z (PIZ L g X Z (fun r Z' => (S 11 0 3 < 6 ∧ r = S 11 0 3 ∧ ∃ q, LV (S 0 0 5) q = S 0 0 6 ∧ Z' = zS (zS (zS (zS (zS Z 24 0 0 0) 36 0 (S 11 0 3) q) 37 0 (S 11 0 3) (CELLS S (S 0 0 6))) 38 0 (S 11 0 3) 0) 24 0 14 (S 11 0 3 + 1)) ∨ (¬ S 11 0 3 < 6 ∧ r = 0 ∧ MTH 1 Z Z'))) := by
  refine cm_start hi (by decide +kernel) (Nat.le_of_ble_eq_true rfl) ?_
  intro p_ e_ s_ m_ args_ below_ meth_ c_ A_ Q_ hQ G hr hin
  have hv := hW.v
  have hS1 := hS.th 0
  have e14 := hS.a.2.2.2.2
  refine j_aload_n G dX7_keep_0 rfl ?_
  refine j_iconst G dX7_keep_1 ?_
  refine pf_24_0 G dX7_keep_2 lf7_52 (by first | assumption | decide) ?_
  refine j_aload_n G dX7_keep_5 rfl ?_
  refine gf_24_14 G dX7_keep_6 lf7_92 (by first | assumption | decide) ?_
  try simp (config := { decide := true }) only [zS_k, zS_s, zS_j, ne_eq]
  refine j_bipush G dX7_keep_9 (by decide +kernel) ?_
  refine j_icmp_ne G 20 dX7_keep_11 (by decide) (by omega) (by omega) (fun c11 => ?_) (fun c11 => ?_)
  · refine j_aload_n G dX7_keep_20 rfl ?_
    refine gf_24_15 G dX7_keep_21 lf7_42 (by first | assumption | decide) ?_
    refine j_aload_n G dX7_keep_24 rfl ?_
    refine gf_24_14 G dX7_keep_25 lf7_92 (by first | assumption | decide) ?_
    try simp (config := { decide := true }) only [zS_k, zS_s, zS_j, ne_eq]
    refine j_aload_n G dX7_keep_28 rfl ?_
    refine j_cVI G cvX7_levelsNow ml7_220 (c_X7_levelsNow hi hS1 hW) dX7_keep_29 ⟨by decide, by decide⟩ ⟨by decide, by decide⟩ rfl rfl (Nat.le_of_ble_eq_true rfl) (by first | assumption | decide) rfl rfl rfl (fun r29 h29 => ?_)
    rw [e14]
    refine as_36 G dX7_keep_32 (by first | assumption | decide) (by omega) (by omega) ?_
    obtain ⟨q1, q2⟩ := h29
    have hS2 := hS1.vx (k := 36) (Or.inl rfl) (Int.le_refl (S 11 0 3)) r29
    refine j_aload_n G dX7_keep_33 rfl ?_
    refine gf_24_16 G dX7_keep_34 lf7_45 (by first | assumption | decide) ?_
    refine j_aload_n G dX7_keep_37 rfl ?_
    refine gf_24_14 G dX7_keep_38 lf7_92 (by first | assumption | decide) ?_
    try simp (config := { decide := true }) only [zS_k, zS_s, zS_j, ne_eq]
    refine j_aload_n G dX7_keep_41 rfl ?_
    refine j_aload_n G dX7_keep_42 rfl ?_
    rw [e14]
    refine j_cVI G cvX7_levelsNow ml7_220 (c_X7_levelsNow hi hS2 hW) dX7_keep_43 ⟨by decide, by decide⟩ ⟨by decide, by decide⟩ rfl rfl (Nat.le_of_ble_eq_true rfl) (by first | assumption | decide) rfl rfl rfl (fun r43 h43 => ?_)
    obtain ⟨s1, s2⟩ := h43
    have er : r43 = r29 := LV_inj hW.n.1 hW.n.2 (s1.trans q1.symm)
    refine j_cVI G cvX7_cells ml7_206 (c_X7_cells hi hS2 hRL hW s2) dX7_keep_46 ⟨by decide, by decide⟩ ⟨by decide, by decide⟩ rfl rfl (Nat.le_of_ble_eq_true rfl) (by first | assumption | decide) rfl rfl rfl (fun r46 h46 => ?_)
    rw [s1] at h46
    subst h46
    refine as_37 G dX7_keep_49 (by first | assumption | decide) (by omega) (by omega) ?_
    refine j_aload_n G dX7_keep_50 rfl ?_
    refine gf_24_17 G dX7_keep_51 lf7_48 (by first | assumption | decide) ?_
    refine j_aload_n G dX7_keep_54 rfl ?_
    refine gf_24_14 G dX7_keep_55 lf7_92 (by first | assumption | decide) ?_
    try simp (config := { decide := true }) only [zS_k, zS_s, zS_j, ne_eq]
    rw [e14]
    refine j_iconst G dX7_keep_58 ?_
    refine as_38 G dX7_keep_59 (by first | assumption | decide) (by omega) (by omega) (by omega) ?_
    refine j_aload_n G dX7_keep_60 rfl ?_
    refine j_dup G dX7_keep_61 rfl ?_
    refine gf_24_14 G dX7_keep_62 lf7_92 (by first | assumption | decide) ?_
    try simp (config := { decide := true }) only [zS_k, zS_s, zS_j, ne_eq]
    refine j_iconst G dX7_keep_65 ?_
    refine j_iadd G dX7_keep_66 ?_
    refine pf_24_14 G dX7_keep_67 lf7_92 (by first | assumption | decide) ?_
    rw [e14]
    refine j_aload_n G dX7_keep_70 rfl ?_
    refine gf_24_14 G dX7_keep_71 lf7_92 (by first | assumption | decide) ?_
    try simp (config := { decide := true }) only [zS_k, zS_s, zS_j, ne_eq]
    refine j_iconst G dX7_keep_74 ?_
    refine j_isub G dX7_keep_75 ?_
    refine jr_IZ G hQ hr dX7_keep_76 (by decide) (by decide) ?_
    try simp (config := { decide := true }) only [zS_k, zS_s, zS_j, ne_eq]
    exact Or.inl ⟨by omega, by omega, r29, q1, by first | rfl | trivial⟩
  · refine j_aload_n G dX7_keep_14 rfl ?_
    refine j_iconst G dX7_keep_15 ?_
    refine j_cVIZ G cvX7_refuse ml7_85 (c_X7_refuse hi ) dX7_keep_16 ⟨by decide, by decide⟩ ⟨by decide, by decide⟩ rfl rfl (Nat.le_of_ble_eq_true rfl) (by first | assumption | decide) rfl rfl rfl (fun r16 Z16 h16 => ?_)
    refine jr_IZ G hQ hr dX7_keep_19 (by decide) (by decide) ?_
    try simp (config := { decide := true }) only [zS_k, zS_s, zS_j, ne_eq]
    exact Or.inr ⟨by omega, h16.1, MTH.up h16.2⟩
set_option maxRecDepth 100000 in
set_option maxHeartbeats 8000000 in
theorem c_X7_refresh {l : Launch} {D : va_G} {cys : Nat → ClassId} {ad : Nat → Int → Nat} {L : List Nat} {g : Nat → va_E} {X : Int64} {Z : ZT} (hi : injA ad) {S : ZT} {q : Int} (hS : RMZ S Z) (hRL : RML cys ad S L g) (hW : WF S) (hq : inR q) : CM l D cys ad yX7_refresh cX7_refresh 2 (some .int) 4 98 0 0 [.ref (ad 24 0), .int (iI q)] L g X Z (PIZ L g X Z (fun r Z' => ((0 ≤ q ∧ q < S 11 0 3) ∧ r = CELLS S (S 12 0 q) ∧ Z' = zS (zS (zS Z 24 0 0 0) 37 0 q (CELLS S (S 12 0 q))) 38 0 q 0) ∨ (¬ (0 ≤ q ∧ q < S 11 0 3) ∧ r = 0 ∧ MTH 1 Z Z'))) := by
  refine cm_start hi (by decide +kernel) (Nat.le_of_ble_eq_true rfl) ?_
  intro p_ e_ s_ m_ args_ below_ meth_ c_ A_ Q_ hQ G hr hin
  have hv := hW.v
  have hn := hW.n
  have hS1 := hS.th 0
  refine j_aload_n G dX7_refresh_0 rfl ?_
  refine j_iload_n G dX7_refresh_1 rfl ?_
  refine j_cVIZ G cvX7_isView ml7_223 (c_X7_isView hi hS hW hq) dX7_refresh_2 ⟨by decide, by decide⟩ ⟨by decide, by decide⟩ rfl rfl (Nat.le_of_ble_eq_true rfl) (by first | assumption | decide) rfl rfl rfl (fun r2 Z2 h2 => ?_)
  have h2r : (r2 = 1 ∧ (0 ≤ q ∧ q < S 11 0 3) ∧ Z2 = zS Z 24 0 0 0) ∨ (r2 = 0 ∧ ¬ (0 ≤ q ∧ q < S 11 0 3) ∧ Z2 = zS Z 24 0 0 1) := by
    rcases h2 with z | z
    · exact Or.inl ⟨z.2.1, z.1, z.2.2⟩
    · exact Or.inr ⟨z.2.1, z.1, z.2.2⟩
  clear h2
  refine j_if_ne G 10 dX7_refresh_5 (by decide) (by omega) (fun c5 => ?_) (fun c5 => ?_)
  · have hq0 : 0 ≤ q ∧ q < S 11 0 3 := by omega
    have hm : Z2 = zS Z 24 0 0 0 := h2r.elim (fun z => z.2.2) (fun z => absurd hq0 z.2.1)
    subst hm
    have hww := hS.w hq0.1 hq0.2
    have hwv := (hW.vw hq0.1 hq0.2).1
    have e12 : LV (S 0 0 5) (Z 36 0 q) = S 12 0 q := hww.1.symm
    have hzq : 0 ≤ zS Z 24 0 0 0 36 0 q ∧ zS Z 24 0 0 0 36 0 q < 256 := by
      rw [zS_k (by decide)]
      exact LV_in hn.1 hn.2 (by rw [e12]; exact hwv.1) (by rw [e12]; exact hwv.2.1)
    refine j_aload_n G dX7_refresh_10 rfl ?_
    refine gf_24_16 G dX7_refresh_11 lf7_45 (by first | assumption | decide) ?_
    refine j_iload_n G dX7_refresh_14 rfl ?_
    refine j_aload_n G dX7_refresh_15 rfl ?_
    refine j_aload_n G dX7_refresh_16 rfl ?_
    refine gf_24_15 G dX7_refresh_17 lf7_42 (by first | assumption | decide) ?_
    refine j_iload_n G dX7_refresh_20 rfl ?_
    refine al_36 G dX7_refresh_21 (by first | assumption | decide) (by omega) (by omega) ?_
    refine j_cVI G cvX7_cells ml7_206 (c_X7_cells hi hS1 hRL hW hzq) dX7_refresh_22 ⟨by decide, by decide⟩ ⟨by decide, by decide⟩ rfl rfl (Nat.le_of_ble_eq_true rfl) (by first | assumption | decide) rfl rfl rfl (fun r22 h22 => ?_)
    rw [zS_k (by decide), e12] at h22
    subst h22
    refine as_37 G dX7_refresh_25 (by first | assumption | decide) (by omega) (by omega) ?_
    refine j_aload_n G dX7_refresh_26 rfl ?_
    refine gf_24_17 G dX7_refresh_27 lf7_48 (by first | assumption | decide) ?_
    refine j_iload_n G dX7_refresh_30 rfl ?_
    refine j_iconst G dX7_refresh_31 ?_
    refine as_38 G dX7_refresh_32 (by first | assumption | decide) (by omega) (by omega) (by omega) ?_
    refine j_aload_n G dX7_refresh_33 rfl ?_
    refine gf_24_16 G dX7_refresh_34 lf7_45 (by first | assumption | decide) ?_
    refine j_iload_n G dX7_refresh_37 rfl ?_
    refine al_37 G dX7_refresh_38 (by first | assumption | decide) (by omega) (by omega) ?_
    try simp (config := { decide := true }) only [zS_k, zS_s, zS_j, ne_eq]
    refine jr_IZ G hQ hr dX7_refresh_39 (by decide) (by decide) ?_
    try simp (config := { decide := true }) only [zS_k, zS_s, zS_j, ne_eq]
    first
    | exact Or.inl ⟨hq0, rfl, rfl⟩
    | exact Or.inl ⟨hq0, trivial⟩
    | exact Or.inl hq0
    | exact Or.inl ⟨hq0, trivial, trivial⟩
  · refine j_iconst G dX7_refresh_8 ?_
    refine jr_IZ G hQ hr dX7_refresh_9 (by decide) (by decide) ?_
    rcases h2r with z | z
    · exfalso; omega
    · exact Or.inr ⟨z.2.1, by first | rfl | trivial, z.2.2⟩

