theorem dX6_children_0 : decode cX6_children 0 = .ok (.aload_n 0, 1) := by decide +kernel
theorem dX6_children_1 : decode cX6_children 1 = .ok (.iload_n 1, 1) := by decide +kernel
theorem dX6_children_2 : decode cX6_children 2 = .ok (.invokevirtual 124, 3) := by decide +kernel
theorem dX6_children_5 : decode cX6_children 5 = .ok (.astore_n 2, 1) := by decide +kernel
theorem dX6_children_6 : decode cX6_children 6 = .ok (.aload_n 2, 1) := by decide +kernel
theorem dX6_children_7 : decode cX6_children 7 = .ok (.aload_n 2, 1) := by decide +kernel
theorem dX6_children_8 : decode cX6_children 8 = .ok (.getfield 150, 3) := by decide +kernel
theorem dX6_children_11 : decode cX6_children 11 = .ok (.aload_n 2, 1) := by decide +kernel
theorem dX6_children_12 : decode cX6_children 12 = .ok (.invokevirtual 185, 3) := by decide +kernel
theorem dX6_children_15 : decode cX6_children 15 = .ok (.aload_n 0, 1) := by decide +kernel
theorem dX6_children_16 : decode cX6_children 16 = .ok (.getfield 49, 3) := by decide +kernel
theorem dX6_children_19 : decode cX6_children 19 = .ok (.getfield 188, 3) := by decide +kernel
theorem dX6_children_22 : decode cX6_children 22 = .ok (.invokevirtual 134, 3) := by decide +kernel
theorem dX6_children_25 : decode cX6_children 25 = .ok (.aload_n 0, 1) := by decide +kernel
theorem dX6_children_26 : decode cX6_children 26 = .ok (.getfield 49, 3) := by decide +kernel
theorem dX6_children_29 : decode cX6_children 29 = .ok (.getfield 188, 3) := by decide +kernel
theorem dX6_children_32 : decode cX6_children 32 = .ok (.getfield 191, 3) := by decide +kernel
theorem dX6_children_35 : decode cX6_children 35 = .ok (.ireturn, 1) := by decide +kernel
theorem dX6_sumOf_0 : decode cX6_sumOf 0 = .ok (.aload_n 0, 1) := by decide +kernel
theorem dX6_sumOf_1 : decode cX6_sumOf 1 = .ok (.iload_n 1, 1) := by decide +kernel
theorem dX6_sumOf_2 : decode cX6_sumOf 2 = .ok (.iload_n 2, 1) := by decide +kernel
theorem dX6_sumOf_3 : decode cX6_sumOf 3 = .ok (.invokevirtual 192, 3) := by decide +kernel
theorem dX6_sumOf_6 : decode cX6_sumOf 6 = .ok (.aload_n 0, 1) := by decide +kernel
theorem dX6_sumOf_7 : decode cX6_sumOf 7 = .ok (.getfield 49, 3) := by decide +kernel
theorem dX6_sumOf_10 : decode cX6_sumOf 10 = .ok (.getfield 196, 3) := by decide +kernel
theorem dX6_sumOf_13 : decode cX6_sumOf 13 = .ok (.iload_n 2, 1) := by decide +kernel
theorem dX6_sumOf_14 : decode cX6_sumOf 14 = .ok (.iaload, 1) := by decide +kernel
theorem dX6_sumOf_15 : decode cX6_sumOf 15 = .ok (.ireturn, 1) := by decide +kernel
theorem dX6_ranked_0 : decode cX6_ranked 0 = .ok (.aload_n 0, 1) := by decide +kernel
theorem dX6_ranked_1 : decode cX6_ranked 1 = .ok (.iload_n 1, 1) := by decide +kernel
theorem dX6_ranked_2 : decode cX6_ranked 2 = .ok (.iload_n 2, 1) := by decide +kernel
theorem dX6_ranked_3 : decode cX6_ranked 3 = .ok (.invokevirtual 192, 3) := by decide +kernel
theorem dX6_ranked_6 : decode cX6_ranked 6 = .ok (.aload_n 0, 1) := by decide +kernel
theorem dX6_ranked_7 : decode cX6_ranked 7 = .ok (.getfield 49, 3) := by decide +kernel
theorem dX6_ranked_10 : decode cX6_ranked 10 = .ok (.iload_n 2, 1) := by decide +kernel
theorem dX6_ranked_11 : decode cX6_ranked 11 = .ok (.invokevirtual 199, 3) := by decide +kernel
theorem dX6_ranked_14 : decode cX6_ranked 14 = .ok (.ireturn, 1) := by decide +kernel
theorem dX6_running_0 : decode cX6_running 0 = .ok (.aload_n 0, 1) := by decide +kernel
theorem dX6_running_1 : decode cX6_running 1 = .ok (.iload_n 1, 1) := by decide +kernel
theorem dX6_running_2 : decode cX6_running 2 = .ok (.iload_n 2, 1) := by decide +kernel
theorem dX6_running_3 : decode cX6_running 3 = .ok (.invokevirtual 192, 3) := by decide +kernel
theorem dX6_running_6 : decode cX6_running 6 = .ok (.iconst 0, 1) := by decide +kernel
theorem dX6_running_7 : decode cX6_running 7 = .ok (.istore_n 3, 1) := by decide +kernel
theorem dX6_running_8 : decode cX6_running 8 = .ok (.iconst 0, 1) := by decide +kernel
theorem dX6_running_9 : decode cX6_running 9 = .ok (.istore 4, 2) := by decide +kernel
theorem dX6_running_11 : decode cX6_running 11 = .ok (.iload 4, 2) := by decide +kernel
theorem dX6_running_13 : decode cX6_running 13 = .ok (.iload_n 2, 1) := by decide +kernel
theorem dX6_running_14 : decode cX6_running 14 = .ok (.if_icmp .gt 22, 3) := by decide +kernel
theorem dX6_running_17 : decode cX6_running 17 = .ok (.iload_n 3, 1) := by decide +kernel
theorem dX6_running_18 : decode cX6_running 18 = .ok (.aload_n 0, 1) := by decide +kernel
theorem dX6_running_19 : decode cX6_running 19 = .ok (.getfield 49, 3) := by decide +kernel
theorem dX6_running_22 : decode cX6_running 22 = .ok (.getfield 196, 3) := by decide +kernel
theorem dX6_running_25 : decode cX6_running 25 = .ok (.iload 4, 2) := by decide +kernel
theorem dX6_running_27 : decode cX6_running 27 = .ok (.iaload, 1) := by decide +kernel
theorem dX6_running_28 : decode cX6_running 28 = .ok (.iadd, 1) := by decide +kernel
theorem dX6_running_29 : decode cX6_running 29 = .ok (.istore_n 3, 1) := by decide +kernel
theorem dX6_running_30 : decode cX6_running 30 = .ok (.iinc 4 1, 3) := by decide +kernel
theorem dX6_running_33 : decode cX6_running 33 = .ok (.goto (-22), 3) := by decide +kernel
theorem dX6_running_36 : decode cX6_running 36 = .ok (.iload_n 3, 1) := by decide +kernel
theorem dX6_running_37 : decode cX6_running 37 = .ok (.ireturn, 1) := by decide +kernel
theorem dX6_rows_0 : decode cX6_rows 0 = .ok (.aload_n 0, 1) := by decide +kernel
theorem dX6_rows_1 : decode cX6_rows 1 = .ok (.invokevirtual 235, 3) := by decide +kernel
theorem dX6_rows_4 : decode cX6_rows 4 = .ok (.aload_n 0, 1) := by decide +kernel
theorem dX6_rows_5 : decode cX6_rows 5 = .ok (.getfield 32, 3) := by decide +kernel
theorem dX6_rows_8 : decode cX6_rows 8 = .ok (.getfield 229, 3) := by decide +kernel
theorem dX6_rows_11 : decode cX6_rows 11 = .ok (.ireturn, 1) := by decide +kernel
theorem dX6_columns_0 : decode cX6_columns 0 = .ok (.aload_n 0, 1) := by decide +kernel
theorem dX6_columns_1 : decode cX6_columns 1 = .ok (.invokevirtual 235, 3) := by decide +kernel
theorem dX6_columns_4 : decode cX6_columns 4 = .ok (.aload_n 0, 1) := by decide +kernel
theorem dX6_columns_5 : decode cX6_columns 5 = .ok (.getfield 36, 3) := by decide +kernel
theorem dX6_columns_8 : decode cX6_columns 8 = .ok (.getfield 229, 3) := by decide +kernel
theorem dX6_columns_11 : decode cX6_columns 11 = .ok (.ireturn, 1) := by decide +kernel
theorem dX6_cell_0 : decode cX6_cell 0 = .ok (.aload_n 0, 1) := by decide +kernel
theorem dX6_cell_1 : decode cX6_cell 1 = .ok (.invokevirtual 235, 3) := by decide +kernel
theorem dX6_cell_4 : decode cX6_cell 4 = .ok (.aload_n 0, 1) := by decide +kernel
theorem dX6_cell_5 : decode cX6_cell 5 = .ok (.aload_n 0, 1) := by decide +kernel
theorem dX6_cell_6 : decode cX6_cell 6 = .ok (.getfield 32, 3) := by decide +kernel
theorem dX6_cell_9 : decode cX6_cell 9 = .ok (.iload_n 1, 1) := by decide +kernel
theorem dX6_cell_10 : decode cX6_cell 10 = .ok (.invokevirtual 238, 3) := by decide +kernel
theorem dX6_cell_13 : decode cX6_cell 13 = .ok (.aload_n 0, 1) := by decide +kernel
theorem dX6_cell_14 : decode cX6_cell 14 = .ok (.aload_n 0, 1) := by decide +kernel
theorem dX6_cell_15 : decode cX6_cell 15 = .ok (.getfield 36, 3) := by decide +kernel
theorem dX6_cell_18 : decode cX6_cell 18 = .ok (.iload_n 2, 1) := by decide +kernel
theorem dX6_cell_19 : decode cX6_cell 19 = .ok (.invokevirtual 238, 3) := by decide +kernel
theorem dX6_cell_22 : decode cX6_cell 22 = .ok (.aload_n 0, 1) := by decide +kernel
theorem dX6_cell_23 : decode cX6_cell 23 = .ok (.iload_n 1, 1) := by decide +kernel
theorem dX6_cell_24 : decode cX6_cell 24 = .ok (.iload_n 2, 1) := by decide +kernel
theorem dX6_cell_25 : decode cX6_cell 25 = .ok (.invokevirtual 245, 3) := by decide +kernel
theorem dX6_cell_28 : decode cX6_cell 28 = .ok (.ireturn, 1) := by decide +kernel
theorem dX6_dropView_0 : decode cX6_dropView 0 = .ok (.aload_n 0, 1) := by decide +kernel
theorem dX6_dropView_1 : decode cX6_dropView 1 = .ok (.iload_n 1, 1) := by decide +kernel
theorem dX6_dropView_2 : decode cX6_dropView 2 = .ok (.invokevirtual 270, 3) := by decide +kernel
theorem dX6_dropView_5 : decode cX6_dropView 5 = .ok (.aload_n 0, 1) := by decide +kernel
theorem dX6_dropView_6 : decode cX6_dropView 6 = .ok (.getfield 25, 3) := by decide +kernel
theorem dX6_dropView_9 : decode cX6_dropView 9 = .ok (.iload_n 1, 1) := by decide +kernel
theorem dX6_dropView_10 : decode cX6_dropView 10 = .ok (.invokevirtual 273, 3) := by decide +kernel
theorem dX6_dropView_13 : decode cX6_dropView 13 = .ok (.aload_n 0, 1) := by decide +kernel
theorem dX6_dropView_14 : decode cX6_dropView 14 = .ok (.getfield 25, 3) := by decide +kernel
theorem dX6_dropView_17 : decode cX6_dropView 17 = .ok (.getfield 261, 3) := by decide +kernel
theorem dX6_dropView_20 : decode cX6_dropView 20 = .ok (.ireturn, 1) := by decide +kernel
theorem dX6_rowsOf_0 : decode cX6_rowsOf 0 = .ok (.aload_n 0, 1) := by decide +kernel
theorem dX6_rowsOf_1 : decode cX6_rowsOf 1 = .ok (.iload_n 1, 1) := by decide +kernel
theorem dX6_rowsOf_2 : decode cX6_rowsOf 2 = .ok (.invokevirtual 270, 3) := by decide +kernel
theorem dX6_rowsOf_5 : decode cX6_rowsOf 5 = .ok (.aload_n 0, 1) := by decide +kernel
theorem dX6_rowsOf_6 : decode cX6_rowsOf 6 = .ok (.getfield 25, 3) := by decide +kernel
theorem dX6_rowsOf_9 : decode cX6_rowsOf 9 = .ok (.getfield 274, 3) := by decide +kernel
theorem dX6_rowsOf_12 : decode cX6_rowsOf 12 = .ok (.iload_n 1, 1) := by decide +kernel
theorem dX6_rowsOf_13 : decode cX6_rowsOf 13 = .ok (.iaload, 1) := by decide +kernel
theorem dX6_rowsOf_14 : decode cX6_rowsOf 14 = .ok (.ireturn, 1) := by decide +kernel
theorem dX6_isStale_0 : decode cX6_isStale 0 = .ok (.aload_n 0, 1) := by decide +kernel
theorem dX6_isStale_1 : decode cX6_isStale 1 = .ok (.iload_n 1, 1) := by decide +kernel
theorem dX6_isStale_2 : decode cX6_isStale 2 = .ok (.invokevirtual 270, 3) := by decide +kernel
theorem dX6_isStale_5 : decode cX6_isStale 5 = .ok (.aload_n 0, 1) := by decide +kernel
theorem dX6_isStale_6 : decode cX6_isStale 6 = .ok (.getfield 25, 3) := by decide +kernel
theorem dX6_isStale_9 : decode cX6_isStale 9 = .ok (.getfield 277, 3) := by decide +kernel
theorem dX6_isStale_12 : decode cX6_isStale 12 = .ok (.iload_n 1, 1) := by decide +kernel
theorem dX6_isStale_13 : decode cX6_isStale 13 = .ok (.baload, 1) := by decide +kernel
theorem dX6_isStale_14 : decode cX6_isStale 14 = .ok (.ireturn, 1) := by decide +kernel
theorem dX6_refresh_0 : decode cX6_refresh 0 = .ok (.aload_n 0, 1) := by decide +kernel
theorem dX6_refresh_1 : decode cX6_refresh 1 = .ok (.iload_n 1, 1) := by decide +kernel
theorem dX6_refresh_2 : decode cX6_refresh 2 = .ok (.invokevirtual 270, 3) := by decide +kernel
theorem dX6_refresh_5 : decode cX6_refresh 5 = .ok (.aload_n 0, 1) := by decide +kernel
theorem dX6_refresh_6 : decode cX6_refresh 6 = .ok (.getfield 25, 3) := by decide +kernel
theorem dX6_refresh_9 : decode cX6_refresh 9 = .ok (.iload_n 1, 1) := by decide +kernel
theorem dX6_refresh_10 : decode cX6_refresh 10 = .ok (.aload_n 0, 1) := by decide +kernel
theorem dX6_refresh_11 : decode cX6_refresh 11 = .ok (.aload_n 0, 1) := by decide +kernel
theorem dX6_refresh_12 : decode cX6_refresh 12 = .ok (.getfield 25, 3) := by decide +kernel
theorem dX6_refresh_15 : decode cX6_refresh 15 = .ok (.getfield 264, 3) := by decide +kernel
theorem dX6_refresh_18 : decode cX6_refresh 18 = .ok (.iload_n 1, 1) := by decide +kernel
theorem dX6_refresh_19 : decode cX6_refresh 19 = .ok (.iaload, 1) := by decide +kernel
theorem dX6_refresh_20 : decode cX6_refresh 20 = .ok (.invokevirtual 258, 3) := by decide +kernel
theorem dX6_refresh_23 : decode cX6_refresh 23 = .ok (.invokevirtual 267, 3) := by decide +kernel
theorem dX6_refresh_26 : decode cX6_refresh 26 = .ok (.aload_n 0, 1) := by decide +kernel
theorem dX6_refresh_27 : decode cX6_refresh 27 = .ok (.getfield 25, 3) := by decide +kernel
theorem dX6_refresh_30 : decode cX6_refresh 30 = .ok (.getfield 274, 3) := by decide +kernel
theorem dX6_refresh_33 : decode cX6_refresh 33 = .ok (.iload_n 1, 1) := by decide +kernel
theorem dX6_refresh_34 : decode cX6_refresh 34 = .ok (.iaload, 1) := by decide +kernel
theorem dX6_refresh_35 : decode cX6_refresh 35 = .ok (.ireturn, 1) := by decide +kernel
/-! by program: wip/whole/gen.py out of wip/whole/src/22.asks.eb -/
/-! EbbTable: what is beneath the point, tables, views: the calls that may throw -/
set_option maxRecDepth 100000 in
set_option maxHeartbeats 8000000 in
theorem c_X6_children {l : Launch} {D : va_G} {cys : Nat → ClassId} {ad : Nat → Int → Nat} {L : List Nat} {g : Nat → va_E} {X : Int64} {Z : ZT} (hi : injA ad) (hst : l.stackTraces = false) {S : ZT} {d : Int} (hS : SP S Z) (hW : WF S) (hd : inR d) : CX l D cys ad yX6_children cX6_children 3 (some .int) 7 111 1 6 [.ref (ad 0 0), .int (iI d)] L g X Z (PIZ L g X Z (fun r Z' => (0 ≤ d ∧ d < S 0 0 5) ∧ r = (kids S d).length ∧ SP S Z')) (PXZ L g X (fun E Z' => E = exI ∧ ¬ (0 ≤ d ∧ d < S 0 0 5) ∧ Z' = Z)) := by
  refine cx_start hi (by decide +kernel) (Nat.le_of_ble_eq_true rfl) ?_
  intro p_ e_ s_ m_ args_ below_ meth_ c_ A_ Q_ hQX hE G hr
  have hQ := vq_of hQX
  have hn := hW.n
  refine j_aload_n G dX6_children_0 rfl ?_
  refine j_iload_n G dX6_children_1 rfl ?_
  refine j_cVXR G hQX hE cvX6_treeOf ml6_124 (c_X6_treeOf hi hst (by first | assumption | omega | decide) (by first | assumption | omega | decide) (by first | assumption | omega | decide)) dX6_children_2 ⟨by decide, by decide⟩ ⟨by decide, by decide⟩ (by decide) (by decide) rfl rfl (Nat.le_of_ble_eq_true rfl) (by first | assumption | decide) rfl rfl rfl (fun _ _ h => h) (fun r2 h2 => ?_)
  obtain ⟨rfl, hd0, hd1⟩ := h2
  have ht := hW.t hd0 hd1
  have ht1 := ht.1
  have hte := TE.of hS d
  have hTZ := hte.ok ht
  have hv2 : vd 2 d := ⟨hd0, show d < 4 by omega⟩
  have e2 : Z 2 = S 2 := hS.1 2 rfl
  have e4 : Z 4 = S 4 := hS.1 4 rfl
  have htz : 0 ≤ Z 2 d 5 ∧ Z 2 d 5 < Z 2 d 4 := by rw [e2]; omega
  have hpt := ht.at ht1.2.2.2.2.1 ht1.2.2.2.2.2.1
  unfold MOK at hpt
  refine j_astore_n G dX6_children_5 (by decide) rfl ?_
  refine j_aload_n G dX6_children_6 rfl ?_
  refine j_aload_n G dX6_children_7 rfl ?_
  refine gf_2_5 G dX6_children_8 lf6_150 (by first | assumption | decide) ?_
  refine j_aload_n G dX6_children_11 rfl ?_
  refine j_cVI G cvX4_depthOfChildren ml6_185 (c_X4_depthOfChildren hi (by first | assumption | omega | decide) (by first | assumption | omega | decide)) dX6_children_12 ⟨by decide, by decide⟩ ⟨by decide, by decide⟩ rfl rfl (Nat.le_of_ble_eq_true rfl) (by first | assumption | decide) rfl rfl rfl (fun r12 h12 => ?_)
  rw [e2, e4] at h12
  have hir : inR r12 := by omega
  refine j_aload_n G dX6_children_15 rfl ?_
  refine gf_0_10 G dX6_children_16 lf6_49 (by first | assumption | decide) ?_
  refine gf_20_0 G dX6_children_19 lf6_188 (by first | assumption | decide) ?_
  refine j_cVVZ G cvX4_listBeneath ml6_134 (c_X4_listBeneath hi hv2 (by decide) hTZ htz hir) dX6_children_22 ⟨by decide, by decide⟩ ⟨by decide, by decide⟩ rfl rfl (Nat.le_of_ble_eq_true rfl) (by first | assumption | decide) rfl rfl rfl (fun Z22 h22 => ?_)
  obtain ⟨hL22, hA22, hB22⟩ := h22
  rw [hte.e_wk, e2, h12] at hL22
  have hL22 : LST Z22 3 (kids S d) := hL22
  have hS22 : SP S Z22 := ⟨fun k hk => by rw [hA22 k (by rintro rfl; cases hk) (by rintro rfl; cases hk)]; exact hS.1 k hk, fun i => by rw [hA22 15 (by decide) (by decide)]; exact hS.2 i⟩
  refine j_aload_n G dX6_children_25 rfl ?_
  refine gf_0_10 G dX6_children_26 lf6_49 (by first | assumption | decide) ?_
  refine gf_20_0 G dX6_children_29 lf6_188 (by first | assumption | decide) ?_
  refine gf_16_1 G dX6_children_32 lf6_191 (by first | assumption | decide) ?_
  refine jr_IZ G hQ hr dX6_children_35 (by decide) (by decide) ?_
  exact ⟨⟨hd0, hd1⟩, hL22.1, hS22⟩
set_option maxRecDepth 100000 in
set_option maxHeartbeats 8000000 in
theorem c_X6_sumOf {l : Launch} {D : va_G} {cys : Nat → ClassId} {ad : Nat → Int → Nat} {L : List Nat} {g : Nat → va_E} {X : Int64} {Z : ZT} (hi : injA ad) (hst : l.stackTraces = false) {S : ZT} {d q : Int} (hS : SP S Z) (hW : WF S) (hd : inR d) (hq : inR q) : CX l D cys ad yX6_sumOf cX6_sumOf 3 (some .int) 8 133 2 12 [.ref (ad 0 0), .int (iI d), .int (iI q)] L g X Z (PIZ L g X Z (fun r Z' => (0 ≤ d ∧ d < S 0 0 5) ∧ (0 ≤ q ∧ q < (kids S d).length) ∧ r = lsum S d q ∧ SP S Z')) (PXZ L g X (fun E Z' => E = exI ∧ ¬ (0 ≤ d ∧ d < S 0 0 5 ∧ 0 ≤ q ∧ q < (kids S d).length) ∧ SP S Z')) := by
  refine cx_start hi (by decide +kernel) (Nat.le_of_ble_eq_true rfl) ?_
  intro p_ e_ s_ m_ args_ below_ meth_ c_ A_ Q_ hQX hE G hr
  have hQ := vq_of hQX
  have hn := hW.n
  refine j_aload_n G dX6_sumOf_0 rfl ?_
  refine j_iload_n G dX6_sumOf_1 rfl ?_
  refine j_iload_n G dX6_sumOf_2 rfl ?_
  refine j_cVXVZ G hQX hE cvX6_lineUpWith ml6_192 (c_X6_lineUpWith hi hst (by first | assumption | omega | decide) (by first | assumption | omega | decide) (by first | assumption | omega | decide) (by first | assumption | omega | decide)) dX6_sumOf_3 ⟨by decide, by decide⟩ ⟨by decide, by decide⟩ (by decide) (by decide) rfl rfl (Nat.le_of_ble_eq_true rfl) (by first | assumption | decide) rfl rfl rfl (fun _ _ h => h) (fun Z3 h3 => ?_)
  obtain ⟨⟨hd0, hd1⟩, hq0, hS3, hL3, hs3⟩ := h3
  have hk := (kids_ok hW hd0 hd1).1
  refine j_aload_n G dX6_sumOf_6 rfl ?_
  refine gf_0_10 G dX6_sumOf_7 lf6_49 (by first | assumption | decide) ?_
  refine gf_20_1 G dX6_sumOf_10 lf6_196 (by first | assumption | decide) ?_
  refine j_iload_n G dX6_sumOf_13 rfl ?_
  refine al_21 G dX6_sumOf_14 (by first | assumption | decide) (by omega) (by omega) ?_
  refine jr_IZ G hQ hr dX6_sumOf_15 (by decide) (by decide) ?_
  exact ⟨⟨hd0, hd1⟩, hq0, hs3 q hq0.1 (by omega), hS3⟩
set_option maxRecDepth 100000 in
set_option maxHeartbeats 8000000 in
theorem c_X6_ranked {l : Launch} {D : va_G} {cys : Nat → ClassId} {ad : Nat → Int → Nat} {L : List Nat} {g : Nat → va_E} {X : Int64} {Z : ZT} (hi : injA ad) (hst : l.stackTraces = false) {S : ZT} {d q : Int} (hS : SP S Z) (hW : WF S) (hd : inR d) (hq : inR q) : CX l D cys ad yX6_ranked cX6_ranked 3 (some .int) 8 133 2 12 [.ref (ad 0 0), .int (iI d), .int (iI q)] L g X Z (PIZ L g X Z (fun r Z' => (0 ≤ d ∧ d < S 0 0 5) ∧ (0 ≤ q ∧ q < (kids S d).length) ∧ r = rkF (lsum S d) (kids S d).length q ∧ SP S Z')) (PXZ L g X (fun E Z' => E = exI ∧ ¬ (0 ≤ d ∧ d < S 0 0 5 ∧ 0 ≤ q ∧ q < (kids S d).length) ∧ SP S Z')) := by
  refine cx_start hi (by decide +kernel) (Nat.le_of_ble_eq_true rfl) ?_
  intro p_ e_ s_ m_ args_ below_ meth_ c_ A_ Q_ hQX hE G hr
  have hQ := vq_of hQX
  have hn := hW.n
  refine j_aload_n G dX6_ranked_0 rfl ?_
  refine j_iload_n G dX6_ranked_1 rfl ?_
  refine j_iload_n G dX6_ranked_2 rfl ?_
  refine j_cVXVZ G hQX hE cvX6_lineUpWith ml6_192 (c_X6_lineUpWith hi hst (by first | assumption | omega | decide) (by first | assumption | omega | decide) (by first | assumption | omega | decide) (by first | assumption | omega | decide)) dX6_ranked_3 ⟨by decide, by decide⟩ ⟨by decide, by decide⟩ (by decide) (by decide) rfl rfl (Nat.le_of_ble_eq_true rfl) (by first | assumption | decide) rfl rfl rfl (fun _ _ h => h) (fun Z3 h3 => ?_)
  obtain ⟨⟨hd0, hd1⟩, hq0, hS3, hL3, hs3⟩ := h3
  have hk := (kids_ok hW hd0 hd1).1
  have hl := hL3.1
  have hn3 : 0 ≤ Z3 16 3 1 ∧ Z3 16 3 1 ≤ 24 := by omega
  have hv3 : ∀ j, 0 ≤ j → j < 24 → inR (Z3 21 0 j) := fun j j0 j1 => by
    rw [hs3 j j0 j1]; have := lsum_bd hW d j; omega
  refine j_aload_n G dX6_ranked_6 rfl ?_
  refine gf_0_10 G dX6_ranked_7 lf6_49 (by first | assumption | decide) ?_
  refine j_iload_n G dX6_ranked_10 rfl ?_
  refine j_cVI G cvX2_childOfRank ml6_199 (c_X2_childOfRank hi hn3 hq hv3) dX6_ranked_11 ⟨by decide, by decide⟩ ⟨by decide, by decide⟩ rfl rfl (Nat.le_of_ble_eq_true rfl) (by first | assumption | decide) rfl rfl rfl (fun r11 h11 => ?_)
  refine jr_IZ G hQ hr dX6_ranked_14 (by decide) (by decide) ?_
  exact ⟨⟨hd0, hd1⟩, hq0, rk_eq (rk_Z hL3 hs3 hk h11), hS3⟩
set_option maxRecDepth 100000 in
set_option maxHeartbeats 8000000 in
theorem c_X6_running {l : Launch} {D : va_G} {cys : Nat → ClassId} {ad : Nat → Int → Nat} {L : List Nat} {g : Nat → va_E} {X : Int64} {Z : ZT} (hi : injA ad) (hst : l.stackTraces = false) {S : ZT} {d q : Int} (hS : SP S Z) (hW : WF S) (hd : inR d) (hq : inR q) : CX l D cys ad yX6_running cX6_running 5 (some .int) 8 133 2 12 [.ref (ad 0 0), .int (iI d), .int (iI q)] L g X Z (PIZ L g X Z (fun r Z' => (0 ≤ d ∧ d < S 0 0 5) ∧ (0 ≤ q ∧ q < (kids S d).length) ∧ r = sumTo (lsum S d) (q + 1).toNat ∧ SP S Z')) (PXZ L g X (fun E Z' => E = exI ∧ ¬ (0 ≤ d ∧ d < S 0 0 5 ∧ 0 ≤ q ∧ q < (kids S d).length) ∧ SP S Z')) := by
  refine cx_start hi (by decide +kernel) (Nat.le_of_ble_eq_true rfl) ?_
  intro p_ e_ s_ m_ args_ below_ meth_ c_ A_ Q_ hQX hE G hr
  have hQ := vq_of hQX
  have hn := hW.n
  refine j_aload_n G dX6_running_0 rfl ?_
  refine j_iload_n G dX6_running_1 rfl ?_
  refine j_iload_n G dX6_running_2 rfl ?_
  refine j_cVXVZ G hQX hE cvX6_lineUpWith ml6_192 (c_X6_lineUpWith hi hst (by first | assumption | omega | decide) (by first | assumption | omega | decide) (by first | assumption | omega | decide) (by first | assumption | omega | decide)) dX6_running_3 ⟨by decide, by decide⟩ ⟨by decide, by decide⟩ (by decide) (by decide) rfl rfl (Nat.le_of_ble_eq_true rfl) (by first | assumption | decide) rfl rfl rfl (fun _ _ h => h) (fun Z3 h3 => ?_)
  obtain ⟨⟨hd0, hd1⟩, hq0, hS3, hL3, hs3⟩ := h3
  have hk := (kids_ok hW hd0 hd1).1
  refine j_iconst G dX6_running_6 ?_
  refine j_istore_n G dX6_running_7 (by decide) rfl ?_
  refine j_iconst G dX6_running_8 ?_
  refine j_istore G dX6_running_9 (by decide) rfl ?_
  have loop : ∀ (n : Nat) (a b : Int), 0 ≤ a → a ≤ q + 1 → (q + 1 - a).toNat = n → b = sumTo (lsum S d) a.toNat → JJ p_ l e_ { frames := 8, cells := 2, slots := 12, locals := 133 } s_ m_ args_ below_ meth_ c_ D cys ad A_ Q_ 5 2 12 L g X Z3 11 [(0, .ref (ad 0 0)), (2, .int (iI q)), (3, .int (iI b)), (4, .int (iI a))] [] := by
    intro n
    induction n with
    | zero =>
      intro a b h0 h1 h2 h4
      have ea : a = q + 1 := by omega
      subst ea
      refine j_iload G dX6_running_11 rfl ?_
      refine j_iload_n G dX6_running_13 rfl ?_
      refine j_icmp_gt G 36 dX6_running_14 (by decide) (by omega) (by omega) (fun c14 => ?_) (fun c14 => ?_)
      · refine j_iload_n G dX6_running_36 rfl ?_
        refine jr_IZ G hQ hr dX6_running_37 (by decide) (by decide) ?_
        exact ⟨⟨hd0, hd1⟩, hq0, h4, hS3⟩
      · exfalso; omega
    | succ n ih =>
      intro a b h0 h1 h2 h4
      refine j_iload G dX6_running_11 rfl ?_
      refine j_iload_n G dX6_running_13 rfl ?_
      refine j_icmp_gt G 36 dX6_running_14 (by decide) (by omega) (by omega) (fun c14 => ?_) (fun c14 => ?_)
      · exfalso; omega
      · refine j_iload_n G dX6_running_17 rfl ?_
        refine j_aload_n G dX6_running_18 rfl ?_
        refine gf_0_10 G dX6_running_19 lf6_49 (by first | assumption | decide) ?_
        refine gf_20_1 G dX6_running_22 lf6_196 (by first | assumption | decide) ?_
        refine j_iload G dX6_running_25 rfl ?_
        refine al_21 G dX6_running_27 (by first | assumption | decide) (by omega) (by omega) ?_
        refine j_iadd G dX6_running_28 ?_
        refine j_istore_n G dX6_running_29 (by decide) rfl ?_
        refine j_iinc G dX6_running_30 rfl (by decide) rfl ?_
        refine j_goto G 11 dX6_running_33 (by decide) ?_
        refine j_keep [0, 2, 3, 4] ?_
        refine ih (a + 1) _ (by omega) (by omega) (by omega) ?_
        rw [sumTo_s h0, ← hs3 a h0 (by omega), ← h4]
  refine j_keep [0, 2, 3, 4] ?_
  exact loop _ 0 0 (by omega) (by omega) rfl rfl
set_option maxRecDepth 100000 in
set_option maxHeartbeats 8000000 in
theorem c_X6_rows {l : Launch} {D : va_G} {cys : Nat → ClassId} {ad : Nat → Int → Nat} {L : List Nat} {g : Nat → va_E} {X : Int64} {Z : ZT} (hi : injA ad) (hst : l.stackTraces = false) {S : ZT} (hS : SP S Z) (hW : WF S) : CX l D cys ad yX6_rows cX6_rows 1 (some .int) 7 136 1 6 [.ref (ad 0 0)] L g X Z (PIZ L g X Z (fun r Z' => S 0 0 7 = 1 ∧ r = (LN S 0).length ∧ SP S Z')) (PXZ L g X (fun E Z' => E = exS ∧ S 0 0 7 ≠ 1 ∧ Z' = Z)) := by
  refine cx_start hi (by decide +kernel) (Nat.le_of_ble_eq_true rfl) ?_
  intro p_ e_ s_ m_ args_ below_ meth_ c_ A_ Q_ hQX hE G hr
  have hQ := vq_of hQX
  refine j_aload_n G dX6_rows_0 rfl ?_
  refine j_cVXVZ G hQX hE cvX6_layTableOfAxes ml6_235 (c_X6_layTableOfAxes hi hst (by first | assumption | omega | decide) (by first | assumption | omega | decide)) dX6_rows_1 ⟨by decide, by decide⟩ ⟨by decide, by decide⟩ (by decide) (by decide) rfl rfl (Nat.le_of_ble_eq_true rfl) (by first | assumption | decide) rfl rfl rfl (fun _ _ h => h) (fun Z1 h1 => ?_)
  refine j_aload_n G dX6_rows_4 rfl ?_
  refine gf_0_3 G dX6_rows_5 lf6_32 (by first | assumption | decide) ?_
  refine gf_15_3 G dX6_rows_8 lf6_229 (by first | assumption | decide) ?_
  refine jr_IZ G hQ hr dX6_rows_11 (by decide) (by decide) ?_
  exact ⟨h1.1, (h1.2.2.1 0 (by omega) (by omega)).2.1, h1.2.1⟩
set_option maxRecDepth 100000 in
set_option maxHeartbeats 8000000 in
theorem c_X6_columns {l : Launch} {D : va_G} {cys : Nat → ClassId} {ad : Nat → Int → Nat} {L : List Nat} {g : Nat → va_E} {X : Int64} {Z : ZT} (hi : injA ad) (hst : l.stackTraces = false) {S : ZT} (hS : SP S Z) (hW : WF S) : CX l D cys ad yX6_columns cX6_columns 1 (some .int) 7 136 1 6 [.ref (ad 0 0)] L g X Z (PIZ L g X Z (fun r Z' => S 0 0 7 = 1 ∧ r = (LN S 1).length ∧ SP S Z')) (PXZ L g X (fun E Z' => E = exS ∧ S 0 0 7 ≠ 1 ∧ Z' = Z)) := by
  refine cx_start hi (by decide +kernel) (Nat.le_of_ble_eq_true rfl) ?_
  intro p_ e_ s_ m_ args_ below_ meth_ c_ A_ Q_ hQX hE G hr
  have hQ := vq_of hQX
  refine j_aload_n G dX6_columns_0 rfl ?_
  refine j_cVXVZ G hQX hE cvX6_layTableOfAxes ml6_235 (c_X6_layTableOfAxes hi hst (by first | assumption | omega | decide) (by first | assumption | omega | decide)) dX6_columns_1 ⟨by decide, by decide⟩ ⟨by decide, by decide⟩ (by decide) (by decide) rfl rfl (Nat.le_of_ble_eq_true rfl) (by first | assumption | decide) rfl rfl rfl (fun _ _ h => h) (fun Z1 h1 => ?_)
  refine j_aload_n G dX6_columns_4 rfl ?_
  refine gf_0_4 G dX6_columns_5 lf6_36 (by first | assumption | decide) ?_
  refine gf_15_3 G dX6_columns_8 lf6_229 (by first | assumption | decide) ?_
  refine jr_IZ G hQ hr dX6_columns_11 (by decide) (by decide) ?_
  exact ⟨h1.1, (h1.2.2.1 1 (by omega) (by omega)).2.1, h1.2.1⟩
set_option maxRecDepth 100000 in
set_option maxHeartbeats 8000000 in
theorem c_X6_cell {l : Launch} {D : va_G} {cys : Nat → ClassId} {ad : Nat → Int → Nat} {L : List Nat} {g : Nat → va_E} {X : Int64} {Z : ZT} (hi : injA ad) (hst : l.stackTraces = false) {S : ZT} {q w : Int} (hS : SP S Z) (hW : WF S) (hq : inR q) (hw : inR w) : CX l D cys ad yX6_cell cX6_cell 3 (some .int) 7 136 3 18 [.ref (ad 0 0), .int (iI q), .int (iI w)] L g X Z (PIZ L g X Z (fun r Z' => S 0 0 7 = 1 ∧ (0 ≤ q ∧ q < (LN S 0).length ∧ 0 ≤ w ∧ w < (LN S 1).length) ∧ r = tsum S ((LN S 0).getD q.toNat 0) ((LN S 1).getD w.toNat 0) ∧ SP S Z')) (PXZ L g X (fun E Z' => ((E = exS ∧ S 0 0 7 ≠ 1) ∨ (E = exI ∧ S 0 0 7 = 1 ∧ ¬ (0 ≤ q ∧ q < (LN S 0).length ∧ 0 ≤ w ∧ w < (LN S 1).length))) ∧ SP S Z')) := by
  refine cx_start hi (by decide +kernel) (Nat.le_of_ble_eq_true rfl) ?_
  intro p_ e_ s_ m_ args_ below_ meth_ c_ A_ Q_ hQX hE G hr
  have hQ := vq_of hQX
  refine j_aload_n G dX6_cell_0 rfl ?_
  refine j_cVXVZ G hQX hE cvX6_layTableOfAxes ml6_235 (c_X6_layTableOfAxes hi hst (by first | assumption | omega | decide) (by first | assumption | omega | decide)) dX6_cell_1 ⟨by decide, by decide⟩ ⟨by decide, by decide⟩ (by decide) (by decide) rfl rfl (Nat.le_of_ble_eq_true rfl) (by first | assumption | decide) rfl rfl rfl (fun E Z1 h => ⟨Or.inl ⟨h.1, h.2.1⟩, h.2.2 ▸ hS⟩) (fun Z1 h1 => ?_)
  obtain ⟨ha, hT1⟩ := h1
  have hS1 := hT1.1
  have h03 := (hT1.2.1 0 (by omega) (by omega)).2.1
  have h13 := (hT1.2.1 1 (by omega) (by omega)).2.1
  have hal := (allL_ok hW ha (i := 0) (by omega) (by omega)).1
  have hbl := (allL_ok hW ha (i := 1) (by omega) (by omega)).1
  have hl0 : (LN S 0).length ≤ (allL S 0).length := by unfold LN; exact List.length_filter_le _ _
  have hl1 : (LN S 1).length ≤ (allL S 1).length := by unfold LN; exact List.length_filter_le _ _
  have hir0 : inR (Z1 15 0 3) := by omega
  have hir1 : inR (Z1 15 1 3) := by omega
  have hv0 : vd 15 0 := by decide
  have hv1 : vd 15 1 := by decide
  refine j_aload_n G dX6_cell_4 rfl ?_
  refine j_aload_n G dX6_cell_5 rfl ?_
  refine gf_0_3 G dX6_cell_6 lf6_32 (by first | assumption | decide) ?_
  refine j_iload_n G dX6_cell_9 rfl ?_
  refine j_cVXVZ G hQX hE cvX6_requireLine ml6_238 (c_X6_requireLine hi hst hv0 hq hir0) dX6_cell_10 ⟨by decide, by decide⟩ ⟨by decide, by decide⟩ (by decide) (by decide) rfl rfl (Nat.le_of_ble_eq_true rfl) (by first | assumption | decide) rfl rfl rfl (fun E Z1 h => ⟨Or.inr ⟨h.1, ha, by have := h.2.1; omega⟩, h.2.2 ▸ hS1⟩) (fun Z10 h10 => ?_)
  obtain ⟨rfl, hq0, hq1⟩ := h10
  refine j_aload_n G dX6_cell_13 rfl ?_
  refine j_aload_n G dX6_cell_14 rfl ?_
  refine gf_0_4 G dX6_cell_15 lf6_36 (by first | assumption | decide) ?_
  refine j_iload_n G dX6_cell_18 rfl ?_
  refine j_cVXVZ G hQX hE cvX6_requireLine ml6_238 (c_X6_requireLine hi hst hv1 hw hir1) dX6_cell_19 ⟨by decide, by decide⟩ ⟨by decide, by decide⟩ (by decide) (by decide) rfl rfl (Nat.le_of_ble_eq_true rfl) (by first | assumption | decide) rfl rfl rfl (fun E Z1 h => ⟨Or.inr ⟨h.1, ha, by have := h.2.1; omega⟩, h.2.2 ▸ hS1⟩) (fun Z19 h19 => ?_)
  obtain ⟨rfl, hw0, hw1⟩ := h19
  have hqq : 0 ≤ q ∧ q < (LN S 0).length := by omega
  have hww : 0 ≤ w ∧ w < (LN S 1).length := by omega
  refine j_aload_n G dX6_cell_22 rfl ?_
  refine j_iload_n G dX6_cell_23 rfl ?_
  refine j_iload_n G dX6_cell_24 rfl ?_
  refine j_cVI G cvX6_cellOfLines ml6_245 (c_X6_cellOfLines hi hT1 hW ha hqq hww) dX6_cell_25 ⟨by decide, by decide⟩ ⟨by decide, by decide⟩ rfl rfl (Nat.le_of_ble_eq_true rfl) (by first | assumption | decide) rfl rfl rfl (fun r25 h25 => ?_)
  refine jr_IZ G hQ hr dX6_cell_28 (by decide) (by decide) ?_
  exact ⟨ha, ⟨hqq.1, hqq.2, hww.1, hww.2⟩, h25, hS1⟩
set_option maxRecDepth 100000 in
set_option maxHeartbeats 8000000 in
theorem c_X6_dropView {l : Launch} {D : va_G} {cys : Nat → ClassId} {ad : Nat → Int → Nat} {L : List Nat} {g : Nat → va_E} {X : Int64} {Z : ZT} (hi : injA ad) (hst : l.stackTraces = false) {S : ZT} {q : Int} (hS : SP S Z) (hW : WF S) (hq : inR q) : CX l D cys ad yX6_dropView cX6_dropView 2 (some .int) 7 111 1 6 [.ref (ad 0 0), .int (iI q)] L g X Z (PIZ L g X Z (fun r Z' => (0 ≤ q ∧ q < S 11 0 3) ∧ r = S 11 0 3 - 1 ∧ M_dropView S q Z')) (PXZ L g X (fun E Z' => E = exI ∧ ¬ (0 ≤ q ∧ q < S 11 0 3) ∧ Z' = Z)) := by
  refine cx_start hi (by decide +kernel) (Nat.le_of_ble_eq_true rfl) ?_
  intro p_ e_ s_ m_ args_ below_ meth_ c_ A_ Q_ hQX hE G hr
  have hQ := vq_of hQX
  have hv := hW.v
  have e11 : Z 11 = S 11 := hS.1 11 rfl
  have e12 : Z 12 = S 12 := hS.1 12 rfl
  have e13 : Z 13 = S 13 := hS.1 13 rfl
  have e14 : Z 14 = S 14 := hS.1 14 rfl
  have hir : inR (Z 11 0 3) := by rw [e11]; omega
  refine j_aload_n G dX6_dropView_0 rfl ?_
  refine j_iload_n G dX6_dropView_1 rfl ?_
  refine j_cVXVZ G hQX hE cvX6_requireView ml6_270 (c_X6_requireView hi hst hq hir) dX6_dropView_2 ⟨by decide, by decide⟩ ⟨by decide, by decide⟩ (by decide) (by decide) rfl rfl (Nat.le_of_ble_eq_true rfl) (by first | assumption | decide) rfl rfl rfl (fun E Z1 h => ⟨h.1, by rw [← e11]; exact h.2.1, h.2.2⟩) (fun Z2 h2 => ?_)
  obtain ⟨rfl, hq0, hq1⟩ := h2
  have hqq : 0 ≤ q ∧ q < Z2 11 0 3 := ⟨hq0, hq1⟩
  have h6 : Z2 11 0 3 ≤ 6 := by rw [e11]; omega
  have hb : ∀ v, 0 ≤ v → v < 6 → Z2 14 0 v = 0 ∨ Z2 14 0 v = 1 := by rw [e14]; exact fun v => hW.st
  refine j_aload_n G dX6_dropView_5 rfl ?_
  refine gf_0_2 G dX6_dropView_6 lf6_25 (by first | assumption | decide) ?_
  refine j_iload_n G dX6_dropView_9 rfl ?_
  refine j_cVVZ G cvX5_closeGapAt ml6_273 (c_X5_closeGapAt hi hqq h6 hb) dX6_dropView_10 ⟨by decide, by decide⟩ ⟨by decide, by decide⟩ rfl rfl (Nat.le_of_ble_eq_true rfl) (by first | assumption | decide) rfl rfl rfl (fun Z10 h10 => ?_)
  refine j_aload_n G dX6_dropView_13 rfl ?_
  refine gf_0_2 G dX6_dropView_14 lf6_25 (by first | assumption | decide) ?_
  refine gf_11_3 G dX6_dropView_17 lf6_261 (by first | assumption | decide) ?_
  refine jr_IZ G hQ hr dX6_dropView_20 (by decide) (by decide) ?_
  obtain ⟨qa, q1, q2, q3, q4⟩ := h10
  rw [e11] at q1 q2 q3 q4 hq1
  rw [e12] at q2
  rw [e13] at q3
  rw [e14] at q4
  refine ⟨⟨hq0, hq1⟩, q1, ⟨fun k hk hn => ?_, fun i => ?_⟩, q1, q2, q3, q4⟩
  · rw [qa k (by rintro rfl; exact hn (by simp)) (by rintro rfl; exact hn (by simp)) (by rintro rfl; exact hn (by simp)) (by rintro rfl; exact hn (by simp)), hS.1 k hk]
  · rw [qa 15 (by decide) (by decide) (by decide) (by decide)]; exact hS.2 i
set_option maxRecDepth 100000 in
set_option maxHeartbeats 8000000 in
theorem c_X6_rowsOf {l : Launch} {D : va_G} {cys : Nat → ClassId} {ad : Nat → Int → Nat} {L : List Nat} {g : Nat → va_E} {X : Int64} {Z : ZT} (hi : injA ad) (hst : l.stackTraces = false) {S : ZT} {q : Int} (hS : SP S Z) (hW : WF S) (hq : inR q) : CX l D cys ad yX6_rowsOf cX6_rowsOf 2 (some .int) 7 111 1 6 [.ref (ad 0 0), .int (iI q)] L g X Z (PI L g X Z (fun r => (0 ≤ q ∧ q < S 11 0 3) ∧ r = S 13 0 q)) (PXZ L g X (fun E Z' => E = exI ∧ ¬ (0 ≤ q ∧ q < S 11 0 3) ∧ Z' = Z)) := by
  refine cx_start hi (by decide +kernel) (Nat.le_of_ble_eq_true rfl) ?_
  intro p_ e_ s_ m_ args_ below_ meth_ c_ A_ Q_ hQX hE G hr
  have hQ := vq_of hQX
  have hv := hW.v
  have e11 : Z 11 = S 11 := hS.1 11 rfl
  have hir : inR (Z 11 0 3) := by rw [e11]; omega
  refine j_aload_n G dX6_rowsOf_0 rfl ?_
  refine j_iload_n G dX6_rowsOf_1 rfl ?_
  refine j_cVXVZ G hQX hE cvX6_requireView ml6_270 (c_X6_requireView hi hst hq hir) dX6_rowsOf_2 ⟨by decide, by decide⟩ ⟨by decide, by decide⟩ (by decide) (by decide) rfl rfl (Nat.le_of_ble_eq_true rfl) (by first | assumption | decide) rfl rfl rfl (fun E Z1 h => ⟨h.1, by rw [← e11]; exact h.2.1, h.2.2⟩) (fun Z2 h2 => ?_)
  obtain ⟨rfl, hq0, hq1⟩ := h2
  rw [e11] at hq1
  refine j_aload_n G dX6_rowsOf_5 rfl ?_
  refine gf_0_2 G dX6_rowsOf_6 lf6_25 (by first | assumption | decide) ?_
  refine gf_11_1 G dX6_rowsOf_9 lf6_274 (by first | assumption | decide) ?_
  refine j_iload_n G dX6_rowsOf_12 rfl ?_
  refine al_13 G dX6_rowsOf_13 (by first | assumption | decide) (by omega) (by omega) ?_
  refine jr_I G hQ hr dX6_rowsOf_14 (by decide) (by decide) ?_
  exact ⟨⟨hq0, hq1⟩, by rw [hS.1 13 rfl]⟩
set_option maxRecDepth 100000 in
set_option maxHeartbeats 8000000 in
theorem c_X6_isStale {l : Launch} {D : va_G} {cys : Nat → ClassId} {ad : Nat → Int → Nat} {L : List Nat} {g : Nat → va_E} {X : Int64} {Z : ZT} (hi : injA ad) (hst : l.stackTraces = false) {S : ZT} {q : Int} (hS : SP S Z) (hW : WF S) (hq : inR q) : CX l D cys ad yX6_isStale cX6_isStale 2 (some .boolean) 7 111 1 6 [.ref (ad 0 0), .int (iI q)] L g X Z (PI L g X Z (fun r => (0 ≤ q ∧ q < S 11 0 3) ∧ r = S 14 0 q)) (PXZ L g X (fun E Z' => E = exI ∧ ¬ (0 ≤ q ∧ q < S 11 0 3) ∧ Z' = Z)) := by
  refine cx_start hi (by decide +kernel) (Nat.le_of_ble_eq_true rfl) ?_
  intro p_ e_ s_ m_ args_ below_ meth_ c_ A_ Q_ hQX hE G hr
  have hQ := vq_of hQX
  have hv := hW.v
  have e11 : Z 11 = S 11 := hS.1 11 rfl
  have hir : inR (Z 11 0 3) := by rw [e11]; omega
  refine j_aload_n G dX6_isStale_0 rfl ?_
  refine j_iload_n G dX6_isStale_1 rfl ?_
  refine j_cVXVZ G hQX hE cvX6_requireView ml6_270 (c_X6_requireView hi hst hq hir) dX6_isStale_2 ⟨by decide, by decide⟩ ⟨by decide, by decide⟩ (by decide) (by decide) rfl rfl (Nat.le_of_ble_eq_true rfl) (by first | assumption | decide) rfl rfl rfl (fun E Z1 h => ⟨h.1, by rw [← e11]; exact h.2.1, h.2.2⟩) (fun Z2 h2 => ?_)
  obtain ⟨rfl, hq0, hq1⟩ := h2
  rw [e11] at hq1
  have hst : Z2 14 0 q = 0 ∨ Z2 14 0 q = 1 := by rw [hS.1 14 rfl]; exact hW.st hq0 (by omega)
  refine j_aload_n G dX6_isStale_5 rfl ?_
  refine gf_0_2 G dX6_isStale_6 lf6_25 (by first | assumption | decide) ?_
  refine gf_11_2 G dX6_isStale_9 lf6_277 (by first | assumption | decide) ?_
  refine j_iload_n G dX6_isStale_12 rfl ?_
  refine al_14 G dX6_isStale_13 (by first | assumption | decide) (by omega) (by omega) ?_
  refine jr_B G hQ hr dX6_isStale_14 (by decide) (by decide) (by omega) ?_
  exact ⟨⟨hq0, hq1⟩, by rw [hS.1 14 rfl]⟩
set_option maxRecDepth 100000 in
set_option maxHeartbeats 8000000 in
theorem c_X6_refresh {l : Launch} {D : va_G} {cys : Nat → ClassId} {ad : Nat → Int → Nat} {L : List Nat} {g : Nat → va_E} {X : Int64} {Z : ZT} (hi : injA ad) (hst : l.stackTraces = false) {S : ZT} {q : Int} (hS : SP S Z) (hW : WF S) (hq : inR q) : CX l D cys ad yX6_refresh cX6_refresh 2 (some .int) 7 111 1 6 [.ref (ad 0 0), .int (iI q)] L g X Z (PIZ L g X Z (fun r Z' => (0 ≤ q ∧ q < S 11 0 3) ∧ r = CELLS S (S 12 0 q) ∧ M_refresh S q Z')) (PXZ L g X (fun E Z' => E = exI ∧ ¬ (0 ≤ q ∧ q < S 11 0 3) ∧ Z' = Z)) := by
  refine cx_start hi (by decide +kernel) (Nat.le_of_ble_eq_true rfl) ?_
  intro p_ e_ s_ m_ args_ below_ meth_ c_ A_ Q_ hQX hE G hr
  have hQ := vq_of hQX
  have hv := hW.v
  have e11 : Z 11 = S 11 := hS.1 11 rfl
  have hir : inR (Z 11 0 3) := by rw [e11]; omega
  refine j_aload_n G dX6_refresh_0 rfl ?_
  refine j_iload_n G dX6_refresh_1 rfl ?_
  refine j_cVXVZ G hQX hE cvX6_requireView ml6_270 (c_X6_requireView hi hst hq hir) dX6_refresh_2 ⟨by decide, by decide⟩ ⟨by decide, by decide⟩ (by decide) (by decide) rfl rfl (Nat.le_of_ble_eq_true rfl) (by first | assumption | decide) rfl rfl rfl (fun E Z1 h => ⟨h.1, by rw [← e11]; exact h.2.1, h.2.2⟩) (fun Z2 h2 => ?_)
  obtain ⟨rfl, hq0, hq1⟩ := h2
  rw [e11] at hq1
  have hvw := (hW.vw hq0 hq1).1
  have e12 : Z2 12 0 q = S 12 0 q := by rw [hS.1 12 rfl]
  have hlv : 0 ≤ Z2 12 0 q ∧ Z2 12 0 q < 256 := by rw [e12]; exact ⟨hvw.1, hvw.2.1⟩
  refine j_aload_n G dX6_refresh_5 rfl ?_
  refine gf_0_2 G dX6_refresh_6 lf6_25 (by first | assumption | decide) ?_
  refine j_iload_n G dX6_refresh_9 rfl ?_
  refine j_aload_n G dX6_refresh_10 rfl ?_
  refine j_aload_n G dX6_refresh_11 rfl ?_
  refine gf_0_2 G dX6_refresh_12 lf6_25 (by first | assumption | decide) ?_
  refine gf_11_0 G dX6_refresh_15 lf6_264 (by first | assumption | decide) ?_
  refine j_iload_n G dX6_refresh_18 rfl ?_
  refine al_12 G dX6_refresh_19 (by first | assumption | decide) (by omega) (by omega) ?_
  refine j_cVIZ G cvX6_cellsOf ml6_258 (c_X6_cellsOf hi hS hW hlv) dX6_refresh_20 ⟨by decide, by decide⟩ ⟨by decide, by decide⟩ rfl rfl (Nat.le_of_ble_eq_true rfl) (by first | assumption | decide) rfl rfl rfl (fun r20 Z20 h20 => ?_)
  obtain ⟨h20a, hS20⟩ := h20
  rw [e12] at h20a
  have f11 : Z20 11 0 3 = S 11 0 3 := by rw [hS20.1 11 rfl]
  have hq2 : 0 ≤ q ∧ q < Z20 11 0 3 := by omega
  have hs6 : Z20 11 0 3 ≤ 6 := by omega
  refine j_cVVZ G cvX5_fill ml6_267 (c_X5_fill hi hq2 hs6) dX6_refresh_23 ⟨by decide, by decide⟩ ⟨by decide, by decide⟩ rfl rfl (Nat.le_of_ble_eq_true rfl) (by first | assumption | decide) rfl rfl rfl (fun Z23 h23 => ?_)
  subst h23
  refine j_aload_n G dX6_refresh_26 rfl ?_
  refine gf_0_2 G dX6_refresh_27 lf6_25 (by first | assumption | decide) ?_
  refine gf_11_1 G dX6_refresh_30 lf6_274 (by first | assumption | decide) ?_
  refine j_iload_n G dX6_refresh_33 rfl ?_
  refine al_13 G dX6_refresh_34 (by first | assumption | decide) (by omega) (by omega) ?_
  refine jr_IZ G hQ hr dX6_refresh_35 (by decide) (by decide) ?_
  refine ⟨⟨hq0, hq1⟩, by rw [zS_k (by decide), zS_s, h20a], ?_⟩
  rw [h20a]
  refine ⟨((FRM.of hS20 _).st (by simp) (by decide) _ _ _).st (by simp) (by decide) _ _ _, fun j => ?_, fun j => ?_⟩
  · rw [zS_k (by decide), zS_v, hS20.1 13 rfl]
  · rw [zS_v, zS_k (by decide), hS20.1 14 rfl]

