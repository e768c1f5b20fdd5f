theorem dX6_mean_0 : decode cX6_mean 0 = .ok (.aload_n 0, 1) := by decide +kernel
theorem dX6_mean_1 : decode cX6_mean 1 = .ok (.invokevirtual 178, 3) := by decide +kernel
theorem dX6_mean_4 : decode cX6_mean 4 = .ok (.istore_n 1, 1) := by decide +kernel
theorem dX6_mean_5 : decode cX6_mean 5 = .ok (.iload_n 1, 1) := by decide +kernel
theorem dX6_mean_6 : decode cX6_mean 6 = .ok (.ifCond .ne 5, 3) := by decide +kernel
theorem dX6_mean_9 : decode cX6_mean 9 = .ok (.dconst 0, 1) := by decide +kernel
theorem dX6_mean_10 : decode cX6_mean 10 = .ok (.dreturn, 1) := by decide +kernel
theorem dX6_mean_11 : decode cX6_mean 11 = .ok (.aload_n 0, 1) := by decide +kernel
theorem dX6_mean_12 : decode cX6_mean 12 = .ok (.invokevirtual 182, 3) := by decide +kernel
theorem dX6_mean_15 : decode cX6_mean 15 = .ok (.i2d, 1) := by decide +kernel
theorem dX6_mean_16 : decode cX6_mean 16 = .ok (.iload_n 1, 1) := by decide +kernel
theorem dX6_mean_17 : decode cX6_mean 17 = .ok (.i2d, 1) := by decide +kernel
theorem dX6_mean_18 : decode cX6_mean 18 = .ok (.ddiv, 1) := by decide +kernel
theorem dX6_mean_19 : decode cX6_mean 19 = .ok (.dreturn, 1) := by decide +kernel
theorem dX7_mean_0 : decode cX7_mean 0 = .ok (.aload_n 0, 1) := by decide +kernel
theorem dX7_mean_1 : decode cX7_mean 1 = .ok (.iconst 0, 1) := by decide +kernel
theorem dX7_mean_2 : decode cX7_mean 2 = .ok (.putfield 52, 3) := by decide +kernel
theorem dX7_mean_5 : decode cX7_mean 5 = .ok (.aload_n 0, 1) := by decide +kernel
theorem dX7_mean_6 : decode cX7_mean 6 = .ok (.invokevirtual 129, 3) := by decide +kernel
theorem dX7_mean_9 : decode cX7_mean 9 = .ok (.ifCond .ne 7, 3) := by decide +kernel
theorem dX7_mean_12 : decode cX7_mean 12 = .ok (.dconst 0, 1) := by decide +kernel
theorem dX7_mean_13 : decode cX7_mean 13 = .ok (.goto 14, 3) := by decide +kernel
theorem dX7_mean_16 : decode cX7_mean 16 = .ok (.aload_n 0, 1) := by decide +kernel
theorem dX7_mean_17 : decode cX7_mean 17 = .ok (.invokevirtual 133, 3) := by decide +kernel
theorem dX7_mean_20 : decode cX7_mean 20 = .ok (.i2d, 1) := by decide +kernel
theorem dX7_mean_21 : decode cX7_mean 21 = .ok (.aload_n 0, 1) := by decide +kernel
theorem dX7_mean_22 : decode cX7_mean 22 = .ok (.invokevirtual 129, 3) := by decide +kernel
theorem dX7_mean_25 : decode cX7_mean 25 = .ok (.i2d, 1) := by decide +kernel
theorem dX7_mean_26 : decode cX7_mean 26 = .ok (.ddiv, 1) := by decide +kernel
theorem dX7_mean_27 : decode cX7_mean 27 = .ok (.dreturn, 1) := by decide +kernel
/-! by program: wip/whole/gen.py out of wip/whole/src/49.mean.eb -/
/-! mean, of both -/
set_option maxRecDepth 100000 in
set_option maxHeartbeats 8000000 in
theorem c_X6_mean {l : Launch} {D : va_G} {cys : Nat → ClassId} {ad : Nat → Int → Nat} {L : List Nat} {g : Nat → va_E} {X : Int64} {Z : ZT} (hi : injA ad) {S : ZT} (hS : SP S Z) (hW : WF S) : CM l D cys ad yX6_mean cX6_mean 2 (some .double) 4 89 0 0 [.ref (ad 0 0)] L g X Z (PDZ L g X Z (fun r Z' => r = MEAN S ∧ Z' = Z)) := by
  refine cm_start hi (by decide +kernel) (Nat.le_of_ble_eq_true rfl) ?_
  intro p_ e_ s_ m_ args_ below_ meth_ c_ A_ Q_ hQ G hr hin
  have hc := CNT_in hW
  refine j_aload_n G dX6_mean_0 rfl ?_
  refine j_cVI G cvX6_count ml6_178 (c_X6_count hi hS hW) dX6_mean_1 ⟨by decide, by decide⟩ ⟨by decide, by decide⟩ rfl rfl (Nat.le_of_ble_eq_true rfl) (by first | assumption | decide) rfl rfl rfl (fun r1 h1 => ?_)
  subst h1
  refine j_istore_n G dX6_mean_4 (by decide) rfl ?_
  refine j_iload_n G dX6_mean_5 rfl ?_
  refine j_if_ne G 11 dX6_mean_6 (by decide) (by omega) (fun c6 => ?_) (fun c6 => ?_)
  · refine j_aload_n G dX6_mean_11 rfl ?_
    refine j_cVI G cvX6_sum ml6_182 (c_X6_sum hi hS hW) dX6_mean_12 ⟨by decide, by decide⟩ ⟨by decide, by decide⟩ rfl rfl (Nat.le_of_ble_eq_true rfl) (by first | assumption | decide) rfl rfl rfl (fun r12 h12 => ?_)
    subst h12
    refine j_i2d G dX6_mean_15 ?_
    refine j_iload_n G dX6_mean_16 rfl ?_
    refine j_i2d G dX6_mean_17 ?_
    refine j_ddiv G dX6_mean_18 (n64_of (div_nn (fun z => c6 ((iI_eq (by omega) (by omega)).mp (by rw [z, iI_0]))))) ?_
    refine jr_DZ G hQ hr dX6_mean_19 (by decide) (by decide) ?_
    refine ⟨?_, rfl⟩
    unfold MEAN
    rw [if_neg (by omega)]
  · refine j_dconst0 G dX6_mean_9 ?_
    refine jr_DZ G hQ hr dX6_mean_10 (by decide) (by decide) ?_
    refine ⟨?_, rfl⟩
    unfold MEAN
    rw [if_pos (by omega)]
set_option maxRecDepth 100000 in
set_option maxHeartbeats 8000000 in
theorem c_X7_mean {l : Launch} {D : va_G} {cys : Nat → ClassId} {ad : Nat → Int → Nat} {L : List Nat} {g : Nat → va_E} {X : Int64} {Z : ZT} (hi : injA ad) {S : ZT} (hS : RMZ S Z) (hRL : RML cys ad S L g) (hW : WF S) : CM l D cys ad yX7_mean cX7_mean 1 (some .double) 4 92 0 0 [.ref (ad 24 0)] L g X Z (PDZ L g X Z (fun r Z' => r = MEAN S ∧ MTH 0 Z Z')) := by
  refine cm_start hi (by decide +kernel) (Nat.le_of_ble_eq_true rfl) ?_
  intro p_ e_ s_ m_ args_ below_ meth_ c_ A_ Q_ hQ G hr hin
  have hc := CNT_in hW
  have hS1 := hS.th 0
  refine j_aload_n G dX7_mean_0 rfl ?_
  refine j_iconst G dX7_mean_1 ?_
  refine pf_24_0 G dX7_mean_2 lf7_52 (by first | assumption | decide) ?_
  refine j_aload_n G dX7_mean_5 rfl ?_
  refine j_cVI G cvX7_countNow ml7_129 (c_X7_countNow hi hS1 hRL hW) dX7_mean_6 ⟨by decide, by decide⟩ ⟨by decide, by decide⟩ rfl rfl (Nat.le_of_ble_eq_true rfl) (by first | assumption | decide) rfl rfl rfl (fun r6 h6 => ?_)
  subst h6
  refine j_if_ne G 16 dX7_mean_9 (by decide) (by omega) (fun c9 => ?_) (fun c9 => ?_)
  · refine j_aload_n G dX7_mean_16 rfl ?_
    refine j_cVI G cvX7_sumNow ml7_133 (c_X7_sumNow hi hS1 hRL hW) dX7_mean_17 ⟨by decide, by decide⟩ ⟨by decide, by decide⟩ rfl rfl (Nat.le_of_ble_eq_true rfl) (by first | assumption | decide) rfl rfl rfl (fun r17 h17 => ?_)
    subst h17
    refine j_i2d G dX7_mean_20 ?_
    refine j_aload_n G dX7_mean_21 rfl ?_
    refine j_cVI G cvX7_countNow ml7_129 (c_X7_countNow hi hS1 hRL hW) dX7_mean_22 ⟨by decide, by decide⟩ ⟨by decide, by decide⟩ rfl rfl (Nat.le_of_ble_eq_true rfl) (by first | assumption | decide) rfl rfl rfl (fun r22 h22 => ?_)
    subst h22
    refine j_i2d G dX7_mean_25 ?_
    refine j_ddiv G dX7_mean_26 (n64_of (div_nn (fun z => c9 ((iI_eq (by omega) (by omega)).mp (by rw [z, iI_0]))))) ?_
    refine jr_DZ G hQ hr dX7_mean_27 (by decide) (by decide) ?_
    try simp (config := { decide := true }) only [zS_k, zS_s, zS_j, ne_eq]
    refine ⟨?_, rfl⟩
    unfold MEAN
    first
    | rw [if_pos (by omega)]
    | rw [if_neg (by omega)]
  · refine j_dconst0 G dX7_mean_12 ?_
    refine j_goto G 27 dX7_mean_13 (by decide) ?_
    refine jr_DZ G hQ hr dX7_mean_27 (by decide) (by decide) ?_
    try simp (config := { decide := true }) only [zS_k, zS_s, zS_j, ne_eq]
    refine ⟨?_, rfl⟩
    unfold MEAN
    first
    | rw [if_pos (by omega)]
    | rw [if_neg (by omega)]

