theorem dX6_treeOf_0 : decode cX6_treeOf 0 = .ok (.iload_n 1, 1) := by decide +kernel
theorem dX6_treeOf_1 : decode cX6_treeOf 1 = .ok (.ifCond .lt 11, 3) := by decide +kernel
theorem dX6_treeOf_4 : decode cX6_treeOf 4 = .ok (.iload_n 1, 1) := by decide +kernel
theorem dX6_treeOf_5 : decode cX6_treeOf 5 = .ok (.aload_n 0, 1) := by decide +kernel
theorem dX6_treeOf_6 : decode cX6_treeOf 6 = .ok (.getfield 66, 3) := by decide +kernel
theorem dX6_treeOf_9 : decode cX6_treeOf 9 = .ok (.if_icmp .lt 14, 3) := by decide +kernel
theorem dX6_treeOf_12 : decode cX6_treeOf 12 = .ok (.new 105, 3) := by decide +kernel
theorem dX6_treeOf_15 : decode cX6_treeOf 15 = .ok (.dup, 1) := by decide +kernel
theorem dX6_treeOf_16 : decode cX6_treeOf 16 = .ok (.ldc_w 318, 3) := by decide +kernel
theorem dX6_treeOf_19 : decode cX6_treeOf 19 = .ok (.invokespecial 109, 3) := by decide +kernel
theorem dX6_treeOf_22 : decode cX6_treeOf 22 = .ok (.athrow, 1) := by decide +kernel
theorem dX6_treeOf_23 : decode cX6_treeOf 23 = .ok (.aload_n 0, 1) := by decide +kernel
theorem dX6_treeOf_24 : decode cX6_treeOf 24 = .ok (.getfield 11, 3) := by decide +kernel
theorem dX6_treeOf_27 : decode cX6_treeOf 27 = .ok (.iload_n 1, 1) := by decide +kernel
theorem dX6_treeOf_28 : decode cX6_treeOf 28 = .ok (.aaload, 1) := by decide +kernel
theorem dX6_treeOf_29 : decode cX6_treeOf 29 = .ok (.areturn, 1) := by decide +kernel
theorem dX6_treeWith_0 : decode cX6_treeWith 0 = .ok (.aload_n 0, 1) := by decide +kernel
theorem dX6_treeWith_1 : decode cX6_treeWith 1 = .ok (.iload_n 1, 1) := by decide +kernel
theorem dX6_treeWith_2 : decode cX6_treeWith 2 = .ok (.invokevirtual 124, 3) := by decide +kernel
theorem dX6_treeWith_5 : decode cX6_treeWith 5 = .ok (.astore_n 3, 1) := by decide +kernel
theorem dX6_treeWith_6 : decode cX6_treeWith 6 = .ok (.aload_n 3, 1) := by decide +kernel
theorem dX6_treeWith_7 : decode cX6_treeWith 7 = .ok (.iload_n 2, 1) := by decide +kernel
theorem dX6_treeWith_8 : decode cX6_treeWith 8 = .ok (.invokevirtual 102, 3) := by decide +kernel
theorem dX6_treeWith_11 : decode cX6_treeWith 11 = .ok (.ifCond .ne 14, 3) := by decide +kernel
theorem dX6_treeWith_14 : decode cX6_treeWith 14 = .ok (.new 105, 3) := by decide +kernel
theorem dX6_treeWith_17 : decode cX6_treeWith 17 = .ok (.dup, 1) := by decide +kernel
theorem dX6_treeWith_18 : decode cX6_treeWith 18 = .ok (.ldc_w 320, 3) := by decide +kernel
theorem dX6_treeWith_21 : decode cX6_treeWith 21 = .ok (.invokespecial 109, 3) := by decide +kernel
theorem dX6_treeWith_24 : decode cX6_treeWith 24 = .ok (.athrow, 1) := by decide +kernel
theorem dX6_treeWith_25 : decode cX6_treeWith 25 = .ok (.aload_n 3, 1) := by decide +kernel
theorem dX6_treeWith_26 : decode cX6_treeWith 26 = .ok (.areturn, 1) := by decide +kernel
theorem dX6_treeWithLevel_0 : decode cX6_treeWithLevel 0 = .ok (.aload_n 0, 1) := by decide +kernel
theorem dX6_treeWithLevel_1 : decode cX6_treeWithLevel 1 = .ok (.iload_n 1, 1) := by decide +kernel
theorem dX6_treeWithLevel_2 : decode cX6_treeWithLevel 2 = .ok (.invokevirtual 124, 3) := by decide +kernel
theorem dX6_treeWithLevel_5 : decode cX6_treeWithLevel 5 = .ok (.astore_n 3, 1) := by decide +kernel
theorem dX6_treeWithLevel_6 : decode cX6_treeWithLevel 6 = .ok (.iload_n 2, 1) := by decide +kernel
theorem dX6_treeWithLevel_7 : decode cX6_treeWithLevel 7 = .ok (.ifCond .lt 11, 3) := by decide +kernel
theorem dX6_treeWithLevel_10 : decode cX6_treeWithLevel 10 = .ok (.iload_n 2, 1) := by decide +kernel
theorem dX6_treeWithLevel_11 : decode cX6_treeWithLevel 11 = .ok (.aload_n 3, 1) := by decide +kernel
theorem dX6_treeWithLevel_12 : decode cX6_treeWithLevel 12 = .ok (.getfield 322, 3) := by decide +kernel
theorem dX6_treeWithLevel_15 : decode cX6_treeWithLevel 15 = .ok (.if_icmp .le 14, 3) := by decide +kernel
theorem dX6_treeWithLevel_18 : decode cX6_treeWithLevel 18 = .ok (.new 105, 3) := by decide +kernel
theorem dX6_treeWithLevel_21 : decode cX6_treeWithLevel 21 = .ok (.dup, 1) := by decide +kernel
theorem dX6_treeWithLevel_22 : decode cX6_treeWithLevel 22 = .ok (.ldc_w 325, 3) := by decide +kernel
theorem dX6_treeWithLevel_25 : decode cX6_treeWithLevel 25 = .ok (.invokespecial 109, 3) := by decide +kernel
theorem dX6_treeWithLevel_28 : decode cX6_treeWithLevel 28 = .ok (.athrow, 1) := by decide +kernel
theorem dX6_treeWithLevel_29 : decode cX6_treeWithLevel 29 = .ok (.aload_n 3, 1) := by decide +kernel
theorem dX6_treeWithLevel_30 : decode cX6_treeWithLevel 30 = .ok (.areturn, 1) := by decide +kernel
theorem dX6_requireLevel_0 : decode cX6_requireLevel 0 = .ok (.aload_n 0, 1) := by decide +kernel
theorem dX6_requireLevel_1 : decode cX6_requireLevel 1 = .ok (.iload_n 1, 1) := by decide +kernel
theorem dX6_requireLevel_2 : decode cX6_requireLevel 2 = .ok (.iload_n 2, 1) := by decide +kernel
theorem dX6_requireLevel_3 : decode cX6_requireLevel 3 = .ok (.invokevirtual 131, 3) := by decide +kernel
theorem dX6_requireLevel_6 : decode cX6_requireLevel 6 = .ok (.pop, 1) := by decide +kernel
theorem dX6_requireLevel_7 : decode cX6_requireLevel 7 = .ok (.return_, 1) := by decide +kernel
theorem dX6_lineUpWith_0 : decode cX6_lineUpWith 0 = .ok (.aload_n 0, 1) := by decide +kernel
theorem dX6_lineUpWith_1 : decode cX6_lineUpWith 1 = .ok (.iload_n 1, 1) := by decide +kernel
theorem dX6_lineUpWith_2 : decode cX6_lineUpWith 2 = .ok (.aload_n 0, 1) := by decide +kernel
theorem dX6_lineUpWith_3 : decode cX6_lineUpWith 3 = .ok (.iload_n 1, 1) := by decide +kernel
theorem dX6_lineUpWith_4 : decode cX6_lineUpWith 4 = .ok (.invokevirtual 124, 3) := by decide +kernel
theorem dX6_lineUpWith_7 : decode cX6_lineUpWith 7 = .ok (.invokevirtual 204, 3) := by decide +kernel
theorem dX6_lineUpWith_10 : decode cX6_lineUpWith 10 = .ok (.aload_n 0, 1) := by decide +kernel
theorem dX6_lineUpWith_11 : decode cX6_lineUpWith 11 = .ok (.getfield 49, 3) := by decide +kernel
theorem dX6_lineUpWith_14 : decode cX6_lineUpWith 14 = .ok (.getfield 188, 3) := by decide +kernel
theorem dX6_lineUpWith_17 : decode cX6_lineUpWith 17 = .ok (.iload_n 2, 1) := by decide +kernel
theorem dX6_lineUpWith_18 : decode cX6_lineUpWith 18 = .ok (.invokevirtual 138, 3) := by decide +kernel
theorem dX6_lineUpWith_21 : decode cX6_lineUpWith 21 = .ok (.ifCond .ne 14, 3) := by decide +kernel
theorem dX6_lineUpWith_24 : decode cX6_lineUpWith 24 = .ok (.new 105, 3) := by decide +kernel
theorem dX6_lineUpWith_27 : decode cX6_lineUpWith 27 = .ok (.dup, 1) := by decide +kernel
theorem dX6_lineUpWith_28 : decode cX6_lineUpWith 28 = .ok (.ldc_w 340, 3) := by decide +kernel
theorem dX6_lineUpWith_31 : decode cX6_lineUpWith 31 = .ok (.invokespecial 109, 3) := by decide +kernel
theorem dX6_lineUpWith_34 : decode cX6_lineUpWith 34 = .ok (.athrow, 1) := by decide +kernel
theorem dX6_lineUpWith_35 : decode cX6_lineUpWith 35 = .ok (.return_, 1) := by decide +kernel
theorem dX6_layTableOfAxes_0 : decode cX6_layTableOfAxes 0 = .ok (.aload_n 0, 1) := by decide +kernel
theorem dX6_layTableOfAxes_1 : decode cX6_layTableOfAxes 1 = .ok (.getfield 222, 3) := by decide +kernel
theorem dX6_layTableOfAxes_4 : decode cX6_layTableOfAxes 4 = .ok (.ifCond .ne 14, 3) := by decide +kernel
theorem dX6_layTableOfAxes_7 : decode cX6_layTableOfAxes 7 = .ok (.new 70, 3) := by decide +kernel
theorem dX6_layTableOfAxes_10 : decode cX6_layTableOfAxes 10 = .ok (.dup, 1) := by decide +kernel
theorem dX6_layTableOfAxes_11 : decode cX6_layTableOfAxes 11 = .ok (.ldc_w 342, 3) := by decide +kernel
theorem dX6_layTableOfAxes_14 : decode cX6_layTableOfAxes 14 = .ok (.invokespecial 74, 3) := by decide +kernel
theorem dX6_layTableOfAxes_17 : decode cX6_layTableOfAxes 17 = .ok (.athrow, 1) := by decide +kernel
theorem dX6_layTableOfAxes_18 : decode cX6_layTableOfAxes 18 = .ok (.aload_n 0, 1) := by decide +kernel
theorem dX6_layTableOfAxes_19 : decode cX6_layTableOfAxes 19 = .ok (.invokevirtual 226, 3) := by decide +kernel
theorem dX6_layTableOfAxes_22 : decode cX6_layTableOfAxes 22 = .ok (.return_, 1) := by decide +kernel
theorem dX6_requireLine_0 : decode cX6_requireLine 0 = .ok (.aload_n 1, 1) := by decide +kernel
theorem dX6_requireLine_1 : decode cX6_requireLine 1 = .ok (.iload_n 2, 1) := by decide +kernel
theorem dX6_requireLine_2 : decode cX6_requireLine 2 = .ok (.invokevirtual 344, 3) := by decide +kernel
theorem dX6_requireLine_5 : decode cX6_requireLine 5 = .ok (.ifCond .ne 14, 3) := by decide +kernel
theorem dX6_requireLine_8 : decode cX6_requireLine 8 = .ok (.new 105, 3) := by decide +kernel
theorem dX6_requireLine_11 : decode cX6_requireLine 11 = .ok (.dup, 1) := by decide +kernel
theorem dX6_requireLine_12 : decode cX6_requireLine 12 = .ok (.ldc_w 347, 3) := by decide +kernel
theorem dX6_requireLine_15 : decode cX6_requireLine 15 = .ok (.invokespecial 109, 3) := by decide +kernel
theorem dX6_requireLine_18 : decode cX6_requireLine 18 = .ok (.athrow, 1) := by decide +kernel
theorem dX6_requireLine_19 : decode cX6_requireLine 19 = .ok (.return_, 1) := by decide +kernel
theorem dX6_requireView_0 : decode cX6_requireView 0 = .ok (.aload_n 0, 1) := by decide +kernel
theorem dX6_requireView_1 : decode cX6_requireView 1 = .ok (.getfield 25, 3) := by decide +kernel
theorem dX6_requireView_4 : decode cX6_requireView 4 = .ok (.iload_n 1, 1) := by decide +kernel
theorem dX6_requireView_5 : decode cX6_requireView 5 = .ok (.invokevirtual 386, 3) := by decide +kernel
theorem dX6_requireView_8 : decode cX6_requireView 8 = .ok (.ifCond .ne 14, 3) := by decide +kernel
theorem dX6_requireView_11 : decode cX6_requireView 11 = .ok (.new 105, 3) := by decide +kernel
theorem dX6_requireView_14 : decode cX6_requireView 14 = .ok (.dup, 1) := by decide +kernel
theorem dX6_requireView_15 : decode cX6_requireView 15 = .ok (.ldc_w 387, 3) := by decide +kernel
theorem dX6_requireView_18 : decode cX6_requireView 18 = .ok (.invokespecial 109, 3) := by decide +kernel
theorem dX6_requireView_21 : decode cX6_requireView 21 = .ok (.athrow, 1) := by decide +kernel
theorem dX6_requireView_22 : decode cX6_requireView 22 = .ok (.return_, 1) := by decide +kernel
/-! by program: wip/whole/gen.py out of wip/whole/src/20.throws.eb -/
/-! EbbTable: what throws -/
theorem SP.st {S Z : ZT} (h : SP S Z) {k : Nat} (hk : scr k = false) (i j v : Int) : SP (zS S k i j v) (zS Z k i j v) := by
  refine ⟨fun k' hk' => ?_, fun i' => ?_⟩
  · by_cases e : k' = k
    · subst e
      unfold zS
      funext i2
      unfold zR
      by_cases e2 : i2 = i
      · subst e2
        rw [if_pos ⟨rfl, rfl⟩, if_pos ⟨rfl, rfl⟩, h.1 k' hk]
      · rw [if_neg (fun q => e2 q.2), if_neg (fun q => e2 q.2), h.1 k' hk]
    · rw [zS_k e, zS_k e]; exact h.1 k' hk'
  · rw [zS_k (by rintro rfl; cases hk), zS_k (by rintro rfl; cases hk)]
    exact h.2 i'
theorem SP.sc {S Z : ZT} (h : SP S Z) {k : Nat} (hk : scr k = true) (hk2 : k ≠ 15) (i j v : Int) : SP S (zS Z k i j v) :=
  ⟨fun k' hk' => by rw [zS_k (by rintro rfl; rw [hk] at hk'; cases hk')]; exact h.1 k' hk', fun i' => by rw [zS_k (by omega)]; exact h.2 i'⟩
set_option maxRecDepth 100000 in
set_option maxHeartbeats 8000000 in
theorem c_X6_treeOf {l : Launch} {D : va_G} {cys : Nat → ClassId} {ad : Nat → Int → Nat} {L : List Nat} {g : Nat → va_E} {X : Int64} {Z : ZT} (hi : injA ad) (hst : l.stackTraces = false) {S : ZT} {d : Int} (hS : SP S Z) (hW : WF S) (hd : inR d) : CX l D cys ad yX6_treeOf cX6_treeOf 2 (some (.object "EbbTable$Tree")) 6 90 1 6 [.ref (ad 0 0), .int (iI d)] L g X Z (PR L g X Z (fun r => r = ad 2 d ∧ 0 ≤ d ∧ d < S 0 0 5)) (PXZ L g X (fun E Z' => E = exI ∧ ¬ (0 ≤ d ∧ d < S 0 0 5) ∧ Z' = Z)) := by
  refine cx_start hi (by decide +kernel) (Nat.le_of_ble_eq_true rfl) ?_
  intro p_ e_ s_ m_ args_ below_ meth_ c_ A_ Q_ hQX hE G hr
  have hQ := vq_of hQX
  have hn := hW.n
  have e05 : Z 0 0 5 = S 0 0 5 := by rw [hS.1 0 rfl]
  refine j_iload_n G dX6_treeOf_0 rfl ?_
  refine j_if_lt G 12 dX6_treeOf_1 (by decide) (by omega) (fun c1 => ?_) (fun c1 => ?_)
  · refine j_throwW G hQX hE hst (E := exI) (names := xNm) (by decide +kernel) (by decide +kernel) xkI xiI (List.mem_of_getElem? (i := 0) rfl) xt1I xt2I xt3I dX6_treeOf_12 dX6_treeOf_15 dX6_treeOf_16 dX6_treeOf_19 dX6_treeOf_22 ⟨by decide, Nat.le_of_ble_eq_true rfl, by decide, by decide⟩ (by decide) (by decide) ?_
    exact ⟨⟨rfl, by omega, rfl⟩, rfl, rfl, rfl⟩
  · refine j_iload_n G dX6_treeOf_4 rfl ?_
    refine j_aload_n G dX6_treeOf_5 rfl ?_
    refine gf_0_5 G dX6_treeOf_6 lf6_66 (by first | assumption | decide) ?_
    refine j_icmp_lt G 23 dX6_treeOf_9 (by decide) (by omega) (by omega) (fun c9 => ?_) (fun c9 => ?_)
    · refine j_aload_n G dX6_treeOf_23 rfl ?_
      refine gf_0_0 G dX6_treeOf_24 lf6_11 (by first | assumption | decide) ?_
      refine j_iload_n G dX6_treeOf_27 rfl ?_
      refine al_1 G dX6_treeOf_28 (by first | assumption | decide) (by omega) (by omega) ?_
      refine jr_R G hQ hr (Or.inl ⟨_, rfl⟩) dX6_treeOf_29 (by decide) (by decide) ?_
      exact ⟨rfl, by omega, by omega⟩
    · refine j_throwW G hQX hE hst (E := exI) (names := xNm) (by decide +kernel) (by decide +kernel) xkI xiI (List.mem_of_getElem? (i := 0) rfl) xt1I xt2I xt3I dX6_treeOf_12 dX6_treeOf_15 dX6_treeOf_16 dX6_treeOf_19 dX6_treeOf_22 ⟨by decide, Nat.le_of_ble_eq_true rfl, by decide, by decide⟩ (by decide) (by decide) ?_
      exact ⟨⟨rfl, by omega, rfl⟩, rfl, rfl, rfl⟩
set_option maxRecDepth 100000 in
set_option maxHeartbeats 8000000 in
theorem c_X6_treeWith {l : Launch} {D : va_G} {cys : Nat → ClassId} {ad : Nat → Int → Nat} {L : List Nat} {g : Nat → va_E} {X : Int64} {Z : ZT} (hi : injA ad) (hst : l.stackTraces = false) {S : ZT} {d q : Int} (hS : SP S Z) (hW : WF S) (hd : inR d) (hq : inR q) : CX l D cys ad yX6_treeWith cX6_treeWith 4 (some (.object "EbbTable$Tree")) 7 111 2 12 [.ref (ad 0 0), .int (iI d), .int (iI q)] L g X Z (PR L g X Z (fun r => r = ad 2 d ∧ (0 ≤ d ∧ d < S 0 0 5) ∧ 0 ≤ q ∧ q < S 2 d 4)) (PXZ L g X (fun E Z' => E = exI ∧ ¬ (0 ≤ d ∧ d < S 0 0 5 ∧ 0 ≤ q ∧ q < S 2 d 4) ∧ Z' = Z)) := by
  refine cx_start hi (by decide +kernel) (Nat.le_of_ble_eq_true rfl) ?_
  intro p_ e_ s_ m_ args_ below_ meth_ c_ A_ Q_ hQX hE G hr
  have hQ := vq_of hQX
  have hn := hW.n
  refine j_aload_n G dX6_treeWith_0 rfl ?_
  refine j_iload_n G dX6_treeWith_1 rfl ?_
  refine j_cVXR G hQX hE cvX6_treeOf ml6_124 (c_X6_treeOf hi hst (by first | assumption | omega | decide) (by first | assumption | omega | decide) (by first | assumption | omega | decide)) dX6_treeWith_2 ⟨by decide, by decide⟩ ⟨by decide, by decide⟩ (by decide) (by decide) rfl rfl (Nat.le_of_ble_eq_true rfl) (by first | assumption | decide) rfl rfl rfl (fun E Z1 h => ⟨h.1, fun z => h.2.1 ⟨z.1, z.2.1⟩, h.2.2⟩) (fun r2 h2 => ?_)
  obtain ⟨rfl, hd0, hd1⟩ := h2
  have hv2 : vd 2 d := ⟨hd0, show d < 4 by omega⟩
  have e24 : Z 2 d 4 = S 2 d 4 := by rw [hS.1 2 rfl]
  have ht := (hW.t hd0 hd1).1
  have hsz : inR (Z 2 d 4) := by omega
  refine j_astore_n G dX6_treeWith_5 (by decide) rfl ?_
  refine j_aload_n G dX6_treeWith_6 rfl ?_
  refine j_iload_n G dX6_treeWith_7 rfl ?_
  refine j_cVI G cvX4_has ml6_102 (c_X4_has hi (by first | assumption | omega | decide) (by first | assumption | omega | decide) (by first | assumption | omega | decide)) dX6_treeWith_8 ⟨by decide, by decide⟩ ⟨by decide, by decide⟩ rfl rfl (Nat.le_of_ble_eq_true rfl) (by first | assumption | decide) rfl rfl rfl (fun r8 h8 => ?_)
  refine j_if_ne G 25 dX6_treeWith_11 (by decide) (by omega) (fun c11 => ?_) (fun c11 => ?_)
  · refine j_aload_n G dX6_treeWith_25 rfl ?_
    refine jr_R G hQ hr (Or.inl ⟨_, rfl⟩) dX6_treeWith_26 (by decide) (by decide) ?_
    exact ⟨rfl, ⟨hd0, hd1⟩, by omega, by omega⟩
  · refine j_throwW G hQX hE hst (E := exI) (names := xNm) (by decide +kernel) (by decide +kernel) xkI xiI (List.mem_of_getElem? (i := 4) rfl) xt1I xt2I xt3I dX6_treeWith_14 dX6_treeWith_17 dX6_treeWith_18 dX6_treeWith_21 dX6_treeWith_24 ⟨by decide, Nat.le_of_ble_eq_true rfl, by decide, by decide⟩ (by decide) (by decide) ?_
    exact ⟨⟨rfl, by omega, rfl⟩, rfl, rfl, rfl⟩
set_option maxRecDepth 100000 in
set_option maxHeartbeats 8000000 in
theorem c_X6_treeWithLevel {l : Launch} {D : va_G} {cys : Nat → ClassId} {ad : Nat → Int → Nat} {L : List Nat} {g : Nat → va_E} {X : Int64} {Z : ZT} (hi : injA ad) (hst : l.stackTraces = false) {S : ZT} {d q : Int} (hS : SP S Z) (hW : WF S) (hd : inR d) (hq : inR q) : CX l D cys ad yX6_treeWithLevel cX6_treeWithLevel 4 (some (.object "EbbTable$Tree")) 7 111 2 12 [.ref (ad 0 0), .int (iI d), .int (iI q)] L g X Z (PR L g X Z (fun r => r = ad 2 d ∧ (0 ≤ d ∧ d < S 0 0 5) ∧ 0 ≤ q ∧ q ≤ S 2 d 3)) (PXZ L g X (fun E Z' => E = exI ∧ ¬ (0 ≤ d ∧ d < S 0 0 5 ∧ 0 ≤ q ∧ q ≤ S 2 d 3) ∧ Z' = Z)) := by
  refine cx_start hi (by decide +kernel) (Nat.le_of_ble_eq_true rfl) ?_
  intro p_ e_ s_ m_ args_ below_ meth_ c_ A_ Q_ hQX hE G hr
  have hQ := vq_of hQX
  have hn := hW.n
  refine j_aload_n G dX6_treeWithLevel_0 rfl ?_
  refine j_iload_n G dX6_treeWithLevel_1 rfl ?_
  refine j_cVXR G hQX hE cvX6_treeOf ml6_124 (c_X6_treeOf hi hst (by first | assumption | omega | decide) (by first | assumption | omega | decide) (by first | assumption | omega | decide)) dX6_treeWithLevel_2 ⟨by decide, by decide⟩ ⟨by decide, by decide⟩ (by decide) (by decide) rfl rfl (Nat.le_of_ble_eq_true rfl) (by first | assumption | decide) rfl rfl rfl (fun E Z1 h => ⟨h.1, fun z => h.2.1 ⟨z.1, z.2.1⟩, h.2.2⟩) (fun r2 h2 => ?_)
  obtain ⟨rfl, hd0, hd1⟩ := h2
  have hv2 : vd 2 d := ⟨hd0, show d < 4 by omega⟩
  have e23 : Z 2 d 3 = S 2 d 3 := by rw [hS.1 2 rfl]
  have ht := (hW.t hd0 hd1).1
  refine j_astore_n G dX6_treeWithLevel_5 (by decide) rfl ?_
  refine j_iload_n G dX6_treeWithLevel_6 rfl ?_
  refine j_if_lt G 18 dX6_treeWithLevel_7 (by decide) (by omega) (fun c7 => ?_) (fun c7 => ?_)
  · refine j_throwW G hQX hE hst (E := exI) (names := xNm) (by decide +kernel) (by decide +kernel) xkI xiI (List.mem_of_getElem? (i := 1) rfl) xt1I xt2I xt3I dX6_treeWithLevel_18 dX6_treeWithLevel_21 dX6_treeWithLevel_22 dX6_treeWithLevel_25 dX6_treeWithLevel_28 ⟨by decide, Nat.le_of_ble_eq_true rfl, by decide, by decide⟩ (by decide) (by decide) ?_
    exact ⟨⟨rfl, by omega, rfl⟩, rfl, rfl, rfl⟩
  · refine j_iload_n G dX6_treeWithLevel_10 rfl ?_
    refine j_aload_n G dX6_treeWithLevel_11 rfl ?_
    refine gf_2_3 G dX6_treeWithLevel_12 lf6_322 (by first | assumption | decide) ?_
    refine j_icmp_le G 29 dX6_treeWithLevel_15 (by decide) (by omega) (by omega) (fun c15 => ?_) (fun c15 => ?_)
    · refine j_aload_n G dX6_treeWithLevel_29 rfl ?_
      refine jr_R G hQ hr (Or.inl ⟨_, rfl⟩) dX6_treeWithLevel_30 (by decide) (by decide) ?_
      exact ⟨rfl, ⟨hd0, hd1⟩, by omega, by omega⟩
    · refine j_throwW G hQX hE hst (E := exI) (names := xNm) (by decide +kernel) (by decide +kernel) xkI xiI (List.mem_of_getElem? (i := 1) rfl) xt1I xt2I xt3I dX6_treeWithLevel_18 dX6_treeWithLevel_21 dX6_treeWithLevel_22 dX6_treeWithLevel_25 dX6_treeWithLevel_28 ⟨by decide, Nat.le_of_ble_eq_true rfl, by decide, by decide⟩ (by decide) (by decide) ?_
      exact ⟨⟨rfl, by omega, rfl⟩, rfl, rfl, rfl⟩
set_option maxRecDepth 100000 in
set_option maxHeartbeats 8000000 in
theorem c_X6_requireLevel {l : Launch} {D : va_G} {cys : Nat → ClassId} {ad : Nat → Int → Nat} {L : List Nat} {g : Nat → va_E} {X : Int64} {Z : ZT} (hi : injA ad) (hst : l.stackTraces = false) {S : ZT} {d q : Int} (hS : SP S Z) (hW : WF S) (hd : inR d) (hq : inR q) : CX l D cys ad yX6_requireLevel cX6_requireLevel 3 none 8 134 2 12 [.ref (ad 0 0), .int (iI d), .int (iI q)] L g X Z (PVZ L g X Z (fun Z' => Z' = Z ∧ (0 ≤ d ∧ d < S 0 0 5) ∧ 0 ≤ q ∧ q ≤ S 2 d 3)) (PXZ L g X (fun E Z' => E = exI ∧ ¬ (0 ≤ d ∧ d < S 0 0 5 ∧ 0 ≤ q ∧ q ≤ S 2 d 3) ∧ Z' = Z)) := by
  refine cx_start hi (by decide +kernel) (Nat.le_of_ble_eq_true rfl) ?_
  intro p_ e_ s_ m_ args_ below_ meth_ c_ A_ Q_ hQX hE G hr
  have hQ := vq_of hQX
  refine j_aload_n G dX6_requireLevel_0 rfl ?_
  refine j_iload_n G dX6_requireLevel_1 rfl ?_
  refine j_iload_n G dX6_requireLevel_2 rfl ?_
  refine j_cVXR G hQX hE cvX6_treeWithLevel ml6_131 (c_X6_treeWithLevel hi hst (by first | assumption | omega | decide) (by first | assumption | omega | decide) (by first | assumption | omega | decide) (by first | assumption | omega | decide)) dX6_requireLevel_3 ⟨by decide, by decide⟩ ⟨by decide, by decide⟩ (by decide) (by decide) rfl rfl (Nat.le_of_ble_eq_true rfl) (by first | assumption | decide) rfl rfl rfl (fun _ _ h => h) (fun r3 h3 => ?_)
  refine j_pop G dX6_requireLevel_6 rfl ?_
  refine jr_VZ G hQ hr dX6_requireLevel_7 (by decide) (by decide) ?_
  exact ⟨rfl, h3.2⟩
set_option maxRecDepth 100000 in
set_option maxHeartbeats 8000000 in
theorem c_X6_lineUpWith {l : Launch} {D : va_G} {cys : Nat → ClassId} {ad : Nat → Int → Nat} {L : List Nat} {g : Nat → va_E} {X : Int64} {Z : ZT} (hi : injA ad) (hst : l.stackTraces = false) {S : ZT} {d q : Int} (hS : SP S Z) (hW : WF S) (hd : inR d) (hq : inR q) : CX l D cys ad yX6_lineUpWith cX6_lineUpWith 3 none 7 111 2 12 [.ref (ad 0 0), .int (iI d), .int (iI q)] L g X Z (PVZ L g X Z (fun Z' => (0 ≤ d ∧ d < S 0 0 5) ∧ (0 ≤ q ∧ q < (kids S d).length) ∧ SP S Z' ∧ LST Z' 3 (kids S d) ∧ ∀ j, 0 ≤ j → j < 24 → Z' 21 0 j = lsum S d j)) (PXZ L g X (fun E Z' => E = exI ∧ ¬ (0 ≤ d ∧ d < S 0 0 5 ∧ 0 ≤ q ∧ q < (kids S d).length) ∧ SP S Z')) := by
  refine cx_start hi (by decide +kernel) (Nat.le_of_ble_eq_true rfl) ?_
  intro p_ e_ s_ m_ args_ below_ meth_ c_ A_ Q_ hQX hE G hr
  have hQ := vq_of hQX
  have hn := hW.n
  refine j_aload_n G dX6_lineUpWith_0 rfl ?_
  refine j_iload_n G dX6_lineUpWith_1 rfl ?_
  refine j_aload_n G dX6_lineUpWith_2 rfl ?_
  refine j_iload_n G dX6_lineUpWith_3 rfl ?_
  refine j_cVXR G hQX hE cvX6_treeOf ml6_124 (c_X6_treeOf hi hst (by first | assumption | omega | decide) (by first | assumption | omega | decide) (by first | assumption | omega | decide)) dX6_lineUpWith_4 ⟨by decide, by decide⟩ ⟨by decide, by decide⟩ (by decide) (by decide) rfl rfl (Nat.le_of_ble_eq_true rfl) (by first | assumption | decide) rfl rfl rfl (fun E Z1 h => ⟨h.1, fun z => h.2.1 ⟨z.1, z.2.1⟩, h.2.2 ▸ hS⟩) (fun r4 h4 => ?_)
  obtain ⟨rfl, hd0, hd1⟩ := h4
  have hdd : 0 ≤ d ∧ d < S 0 0 5 := ⟨hd0, hd1⟩
  have ht := hW.t hd0 hd1
  have ht1 := ht.1
  have hkl : ((kids S d).length : Int) ≤ 24 := by
    have := wk_len (S 4 d (S 2 d 5) + 1) ht ht1.2.2.2.2.1 ht1.2.2.2.2.2.1
    unfold kids; omega
  refine j_cVVZ G cvX6_lineUp ml6_204 (c_X6_lineUp hi hS hW hdd) dX6_lineUpWith_7 ⟨by decide, by decide⟩ ⟨by decide, by decide⟩ rfl rfl (Nat.le_of_ble_eq_true rfl) (by first | assumption | decide) rfl rfl rfl (fun Z7 h7 => ?_)
  obtain ⟨hS7, hL7, hB7⟩ := h7
  have hl7 := hL7.1
  have hi7 : inR (Z7 16 3 1) := by omega
  refine j_aload_n G dX6_lineUpWith_10 rfl ?_
  refine gf_0_10 G dX6_lineUpWith_11 lf6_49 (by first | assumption | decide) ?_
  refine gf_20_0 G dX6_lineUpWith_14 lf6_188 (by first | assumption | decide) ?_
  refine j_iload_n G dX6_lineUpWith_17 rfl ?_
  refine j_cVI G cvX3_hasPlace ml6_138 (c_X3_hasPlace hi (by first | assumption | omega | decide) (by first | assumption | omega | decide) (by first | assumption | omega | decide)) dX6_lineUpWith_18 ⟨by decide, by decide⟩ ⟨by decide, by decide⟩ rfl rfl (Nat.le_of_ble_eq_true rfl) (by first | assumption | decide) rfl rfl rfl (fun r18 h18 => ?_)
  refine j_if_ne G 35 dX6_lineUpWith_21 (by decide) (by omega) (fun c21 => ?_) (fun c21 => ?_)
  · refine jr_VZ G hQ hr dX6_lineUpWith_35 (by decide) (by decide) ?_
    exact ⟨hdd, by omega, hS7, hL7, hB7⟩
  · refine j_throwW G hQX hE hst (E := exI) (names := xNm) (by decide +kernel) (by decide +kernel) xkI xiI (List.mem_of_getElem? (i := 17) rfl) xt1I xt2I xt3I dX6_lineUpWith_24 dX6_lineUpWith_27 dX6_lineUpWith_28 dX6_lineUpWith_31 dX6_lineUpWith_34 ⟨by decide, Nat.le_of_ble_eq_true rfl, by decide, by decide⟩ (by decide) (by decide) ?_
    exact ⟨⟨rfl, by omega, hS7⟩, rfl, rfl, rfl⟩
set_option maxRecDepth 100000 in
set_option maxHeartbeats 8000000 in
theorem c_X6_layTableOfAxes {l : Launch} {D : va_G} {cys : Nat → ClassId} {ad : Nat → Int → Nat} {L : List Nat} {g : Nat → va_E} {X : Int64} {Z : ZT} (hi : injA ad) (hst : l.stackTraces = false) {S : ZT} (hS : SP S Z) (hW : WF S) : CX l D cys ad yX6_layTableOfAxes cX6_layTableOfAxes 1 none 6 116 1 6 [.ref (ad 0 0)] L g X Z (PVZ L g X Z (fun Z' => S 0 0 7 = 1 ∧ TAB S Z')) (PXZ L g X (fun E Z' => E = exS ∧ S 0 0 7 ≠ 1 ∧ Z' = Z)) := by
  refine cx_start hi (by decide +kernel) (Nat.le_of_ble_eq_true rfl) ?_
  intro p_ e_ s_ m_ args_ below_ meth_ c_ A_ Q_ hQX hE G hr
  have hQ := vq_of hQX
  have hax := hW.ax
  have e07 : Z 0 0 7 = S 0 0 7 := by rw [hS.1 0 rfl]
  refine j_aload_n G dX6_layTableOfAxes_0 rfl ?_
  refine gf_0_7 G dX6_layTableOfAxes_1 lf6_222 (by first | assumption | decide) ?_
  refine j_if_ne G 18 dX6_layTableOfAxes_4 (by decide) (by omega) (fun c4 => ?_) (fun c4 => ?_)
  · refine j_aload_n G dX6_layTableOfAxes_18 rfl ?_
    refine j_cVVZ G cvX6_layTable ml6_226 (c_X6_layTable hi hS hW (by omega)) dX6_layTableOfAxes_19 ⟨by decide, by decide⟩ ⟨by decide, by decide⟩ rfl rfl (Nat.le_of_ble_eq_true rfl) (by first | assumption | decide) rfl rfl rfl (fun Z19 h19 => ?_)
    refine jr_VZ G hQ hr dX6_layTableOfAxes_22 (by decide) (by decide) ?_
    exact ⟨by omega, h19⟩
  · refine j_throwW G hQX hE hst (E := exS) (names := xNm) (by decide +kernel) (by decide +kernel) xkS xiS (List.mem_of_getElem? (i := 19) rfl) xt1S xt2S xt3S dX6_layTableOfAxes_7 dX6_layTableOfAxes_10 dX6_layTableOfAxes_11 dX6_layTableOfAxes_14 dX6_layTableOfAxes_17 ⟨by decide, Nat.le_of_ble_eq_true rfl, by decide, by decide⟩ (by decide) (by decide) ?_
    exact ⟨⟨rfl, by omega, rfl⟩, rfl, rfl, rfl⟩
set_option maxRecDepth 100000 in
set_option maxHeartbeats 8000000 in
theorem c_X6_requireLine {l : Launch} {D : va_G} {cys : Nat → ClassId} {ad : Nat → Int → Nat} {L : List Nat} {g : Nat → va_E} {X : Int64} {Z : ZT} (hi : injA ad) (hst : l.stackTraces = false) {i q : Int} (hv15 : vd 15 i) (hq : inR q) (hs : inR (Z 15 i 3)) : CX l D cys ad yX6_requireLine cX6_requireLine 3 none 6 90 1 6 [.ref (ad 0 0), .ref (ad 15 i), .int (iI q)] L g X Z (PVZ L g X Z (fun Z' => Z' = Z ∧ 0 ≤ q ∧ q < Z 15 i 3)) (PXZ L g X (fun E Z' => E = exI ∧ ¬ (0 ≤ q ∧ q < Z 15 i 3) ∧ Z' = Z)) := by
  refine cx_start hi (by decide +kernel) (Nat.le_of_ble_eq_true rfl) ?_
  intro p_ e_ s_ m_ args_ below_ meth_ c_ A_ Q_ hQX hE G hr
  have hQ := vq_of hQX
  refine j_aload_n G dX6_requireLine_0 rfl ?_
  refine j_iload_n G dX6_requireLine_1 rfl ?_
  refine j_cVI G cvX0_hasLine ml6_344 (c_X0_hasLine hi (by first | assumption | omega | decide) (by first | assumption | omega | decide) (by first | assumption | omega | decide)) dX6_requireLine_2 ⟨by decide, by decide⟩ ⟨by decide, by decide⟩ rfl rfl (Nat.le_of_ble_eq_true rfl) (by first | assumption | decide) rfl rfl rfl (fun r2 h2 => ?_)
  refine j_if_ne G 19 dX6_requireLine_5 (by decide) (by omega) (fun c5 => ?_) (fun c5 => ?_)
  · refine jr_VZ G hQ hr dX6_requireLine_19 (by decide) (by decide) ?_
    exact ⟨rfl, by omega⟩
  · refine j_throwW G hQX hE hst (E := exI) (names := xNm) (by decide +kernel) (by decide +kernel) xkI xiI (List.mem_of_getElem? (i := 20) rfl) xt1I xt2I xt3I dX6_requireLine_8 dX6_requireLine_11 dX6_requireLine_12 dX6_requireLine_15 dX6_requireLine_18 ⟨by decide, Nat.le_of_ble_eq_true rfl, by decide, by decide⟩ (by decide) (by decide) ?_
    exact ⟨⟨rfl, by omega, rfl⟩, rfl, rfl, rfl⟩
set_option maxRecDepth 100000 in
set_option maxHeartbeats 8000000 in
theorem c_X6_requireView {l : Launch} {D : va_G} {cys : Nat → ClassId} {ad : Nat → Int → Nat} {L : List Nat} {g : Nat → va_E} {X : Int64} {Z : ZT} (hi : injA ad) (hst : l.stackTraces = false) {q : Int} (hq : inR q) (hs : inR (Z 11 0 3)) : CX l D cys ad yX6_requireView cX6_requireView 2 none 6 90 1 6 [.ref (ad 0 0), .int (iI q)] L g X Z (PVZ L g X Z (fun Z' => Z' = Z ∧ 0 ≤ q ∧ q < Z 11 0 3)) (PXZ L g X (fun E Z' => E = exI ∧ ¬ (0 ≤ q ∧ q < Z 11 0 3) ∧ Z' = Z)) := by
  refine cx_start hi (by decide +kernel) (Nat.le_of_ble_eq_true rfl) ?_
  intro p_ e_ s_ m_ args_ below_ meth_ c_ A_ Q_ hQX hE G hr
  have hQ := vq_of hQX
  refine j_aload_n G dX6_requireView_0 rfl ?_
  refine gf_0_2 G dX6_requireView_1 lf6_25 (by first | assumption | decide) ?_
  refine j_iload_n G dX6_requireView_4 rfl ?_
  refine j_cVI G cvX5_has ml6_386 (c_X5_has hi (by first | assumption | omega | decide) (by first | assumption | omega | decide)) dX6_requireView_5 ⟨by decide, by decide⟩ ⟨by decide, by decide⟩ rfl rfl (Nat.le_of_ble_eq_true rfl) (by first | assumption | decide) rfl rfl rfl (fun r5 h5 => ?_)
  refine j_if_ne G 22 dX6_requireView_8 (by decide) (by omega) (fun c8 => ?_) (fun c8 => ?_)
  · refine jr_VZ G hQ hr dX6_requireView_22 (by decide) (by decide) ?_
    exact ⟨rfl, by omega⟩
  · refine j_throwW G hQX hE hst (E := exI) (names := xNm) (by decide +kernel) (by decide +kernel) xkI xiI (List.mem_of_getElem? (i := 16) rfl) xt1I xt2I xt3I dX6_requireView_11 dX6_requireView_14 dX6_requireView_15 dX6_requireView_18 dX6_requireView_21 ⟨by decide, Nat.le_of_ble_eq_true rfl, by decide, by decide⟩ (by decide) (by decide) ?_
    exact ⟨⟨rfl, by omega, rfl⟩, rfl, rfl, rfl⟩

