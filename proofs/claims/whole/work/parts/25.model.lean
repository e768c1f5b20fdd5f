theorem dX7_is_0 : decode cX7_is 0 = .ok (.iload_n 0, 1) := by decide +kernel
theorem dX7_is_1 : decode cX7_is 1 = .ok (.iload_n 1, 1) := by decide +kernel
theorem dX7_is_2 : decode cX7_is 2 = .ok (.if_icmp .lt 12, 3) := by decide +kernel
theorem dX7_is_5 : decode cX7_is 5 = .ok (.iload_n 0, 1) := by decide +kernel
theorem dX7_is_6 : decode cX7_is 6 = .ok (.iload_n 2, 1) := by decide +kernel
theorem dX7_is_7 : decode cX7_is 7 = .ok (.if_icmp .gt 7, 3) := by decide +kernel
theorem dX7_is_10 : decode cX7_is 10 = .ok (.iconst 1, 1) := by decide +kernel
theorem dX7_is_11 : decode cX7_is 11 = .ok (.goto 4, 3) := by decide +kernel
theorem dX7_is_14 : decode cX7_is 14 = .ok (.iconst 0, 1) := by decide +kernel
theorem dX7_is_15 : decode cX7_is 15 = .ok (.ireturn, 1) := by decide +kernel
theorem dX7_refuse_0 : decode cX7_refuse 0 = .ok (.aload_n 0, 1) := by decide +kernel
theorem dX7_refuse_1 : decode cX7_refuse 1 = .ok (.iload_n 1, 1) := by decide +kernel
theorem dX7_refuse_2 : decode cX7_refuse 2 = .ok (.putfield 52, 3) := by decide +kernel
theorem dX7_refuse_5 : decode cX7_refuse 5 = .ok (.iconst 0, 1) := by decide +kernel
theorem dX7_refuse_6 : decode cX7_refuse 6 = .ok (.ireturn, 1) := by decide +kernel
theorem dX7_thrown_0 : decode cX7_thrown 0 = .ok (.aload_n 0, 1) := by decide +kernel
theorem dX7_thrown_1 : decode cX7_thrown 1 = .ok (.getfield 52, 3) := by decide +kernel
theorem dX7_thrown_4 : decode cX7_thrown 4 = .ok (.ireturn, 1) := by decide +kernel
theorem dX7_isDimension_0 : decode cX7_isDimension 0 = .ok (.iload_n 1, 1) := by decide +kernel
theorem dX7_isDimension_1 : decode cX7_isDimension 1 = .ok (.iconst 0, 1) := by decide +kernel
theorem dX7_isDimension_2 : decode cX7_isDimension 2 = .ok (.aload_n 0, 1) := by decide +kernel
theorem dX7_isDimension_3 : decode cX7_isDimension 3 = .ok (.getfield 56, 3) := by decide +kernel
theorem dX7_isDimension_6 : decode cX7_isDimension 6 = .ok (.iconst 1, 1) := by decide +kernel
theorem dX7_isDimension_7 : decode cX7_isDimension 7 = .ok (.isub, 1) := by decide +kernel
theorem dX7_isDimension_8 : decode cX7_isDimension 8 = .ok (.invokestatic 59, 3) := by decide +kernel
theorem dX7_isDimension_11 : decode cX7_isDimension 11 = .ok (.ireturn, 1) := by decide +kernel
theorem dX7_isMember_0 : decode cX7_isMember 0 = .ok (.aload_n 0, 1) := by decide +kernel
theorem dX7_isMember_1 : decode cX7_isMember 1 = .ok (.iload_n 1, 1) := by decide +kernel
theorem dX7_isMember_2 : decode cX7_isMember 2 = .ok (.invokevirtual 63, 3) := by decide +kernel
theorem dX7_isMember_5 : decode cX7_isMember 5 = .ok (.ifCond .eq 23, 3) := by decide +kernel
theorem dX7_isMember_8 : decode cX7_isMember 8 = .ok (.iload_n 2, 1) := by decide +kernel
theorem dX7_isMember_9 : decode cX7_isMember 9 = .ok (.iconst 0, 1) := by decide +kernel
theorem dX7_isMember_10 : decode cX7_isMember 10 = .ok (.aload_n 0, 1) := by decide +kernel
theorem dX7_isMember_11 : decode cX7_isMember 11 = .ok (.getfield 13, 3) := by decide +kernel
theorem dX7_isMember_14 : decode cX7_isMember 14 = .ok (.iload_n 1, 1) := by decide +kernel
theorem dX7_isMember_15 : decode cX7_isMember 15 = .ok (.iaload, 1) := by decide +kernel
theorem dX7_isMember_16 : decode cX7_isMember 16 = .ok (.iconst 1, 1) := by decide +kernel
theorem dX7_isMember_17 : decode cX7_isMember 17 = .ok (.isub, 1) := by decide +kernel
theorem dX7_isMember_18 : decode cX7_isMember 18 = .ok (.invokestatic 59, 3) := by decide +kernel
theorem dX7_isMember_21 : decode cX7_isMember 21 = .ok (.ifCond .eq 7, 3) := by decide +kernel
theorem dX7_isMember_24 : decode cX7_isMember 24 = .ok (.iconst 1, 1) := by decide +kernel
theorem dX7_isMember_25 : decode cX7_isMember 25 = .ok (.goto 4, 3) := by decide +kernel
theorem dX7_isMember_28 : decode cX7_isMember 28 = .ok (.iconst 0, 1) := by decide +kernel
theorem dX7_isMember_29 : decode cX7_isMember 29 = .ok (.ireturn, 1) := by decide +kernel
theorem dX7_isLevel_0 : decode cX7_isLevel 0 = .ok (.aload_n 0, 1) := by decide +kernel
theorem dX7_isLevel_1 : decode cX7_isLevel 1 = .ok (.iload_n 1, 1) := by decide +kernel
theorem dX7_isLevel_2 : decode cX7_isLevel 2 = .ok (.invokevirtual 63, 3) := by decide +kernel
theorem dX7_isLevel_5 : decode cX7_isLevel 5 = .ok (.ifCond .eq 21, 3) := by decide +kernel
theorem dX7_isLevel_8 : decode cX7_isLevel 8 = .ok (.iload_n 2, 1) := by decide +kernel
theorem dX7_isLevel_9 : decode cX7_isLevel 9 = .ok (.iconst 0, 1) := by decide +kernel
theorem dX7_isLevel_10 : decode cX7_isLevel 10 = .ok (.aload_n 0, 1) := by decide +kernel
theorem dX7_isLevel_11 : decode cX7_isLevel 11 = .ok (.getfield 9, 3) := by decide +kernel
theorem dX7_isLevel_14 : decode cX7_isLevel 14 = .ok (.iload_n 1, 1) := by decide +kernel
theorem dX7_isLevel_15 : decode cX7_isLevel 15 = .ok (.iaload, 1) := by decide +kernel
theorem dX7_isLevel_16 : decode cX7_isLevel 16 = .ok (.invokestatic 59, 3) := by decide +kernel
theorem dX7_isLevel_19 : decode cX7_isLevel 19 = .ok (.ifCond .eq 7, 3) := by decide +kernel
theorem dX7_isLevel_22 : decode cX7_isLevel 22 = .ok (.iconst 1, 1) := by decide +kernel
theorem dX7_isLevel_23 : decode cX7_isLevel 23 = .ok (.goto 4, 3) := by decide +kernel
theorem dX7_isLevel_26 : decode cX7_isLevel 26 = .ok (.iconst 0, 1) := by decide +kernel
theorem dX7_isLevel_27 : decode cX7_isLevel 27 = .ok (.ireturn, 1) := by decide +kernel
theorem dX7_depth_0 : decode cX7_depth 0 = .ok (.iconst 0, 1) := by decide +kernel
theorem dX7_depth_1 : decode cX7_depth 1 = .ok (.istore_n 3, 1) := by decide +kernel
theorem dX7_depth_2 : decode cX7_depth 2 = .ok (.iload_n 2, 1) := by decide +kernel
theorem dX7_depth_3 : decode cX7_depth 3 = .ok (.istore 4, 2) := by decide +kernel
theorem dX7_depth_5 : decode cX7_depth 5 = .ok (.iload 4, 2) := by decide +kernel
theorem dX7_depth_7 : decode cX7_depth 7 = .ok (.ifCond .le 20, 3) := by decide +kernel
theorem dX7_depth_10 : decode cX7_depth 10 = .ok (.iinc 3 1, 3) := by decide +kernel
theorem dX7_depth_13 : decode cX7_depth 13 = .ok (.aload_n 0, 1) := by decide +kernel
theorem dX7_depth_14 : decode cX7_depth 14 = .ok (.getfield 18, 3) := by decide +kernel
theorem dX7_depth_17 : decode cX7_depth 17 = .ok (.iload_n 1, 1) := by decide +kernel
theorem dX7_depth_18 : decode cX7_depth 18 = .ok (.aaload, 1) := by decide +kernel
theorem dX7_depth_19 : decode cX7_depth 19 = .ok (.iload 4, 2) := by decide +kernel
theorem dX7_depth_21 : decode cX7_depth 21 = .ok (.iaload, 1) := by decide +kernel
theorem dX7_depth_22 : decode cX7_depth 22 = .ok (.istore 4, 2) := by decide +kernel
theorem dX7_depth_24 : decode cX7_depth 24 = .ok (.goto (-19), 3) := by decide +kernel
theorem dX7_depth_27 : decode cX7_depth 27 = .ok (.iload_n 3, 1) := by decide +kernel
theorem dX7_depth_28 : decode cX7_depth 28 = .ok (.ireturn, 1) := by decide +kernel
theorem dX7_isBeneath_0 : decode cX7_isBeneath 0 = .ok (.iload_n 2, 1) := by decide +kernel
theorem dX7_isBeneath_1 : decode cX7_isBeneath 1 = .ok (.istore 4, 2) := by decide +kernel
theorem dX7_isBeneath_3 : decode cX7_isBeneath 3 = .ok (.iload 4, 2) := by decide +kernel
theorem dX7_isBeneath_5 : decode cX7_isBeneath 5 = .ok (.iload_n 3, 1) := by decide +kernel
theorem dX7_isBeneath_6 : decode cX7_isBeneath 6 = .ok (.if_icmp .eq 22, 3) := by decide +kernel
theorem dX7_isBeneath_9 : decode cX7_isBeneath 9 = .ok (.iload 4, 2) := by decide +kernel
theorem dX7_isBeneath_11 : decode cX7_isBeneath 11 = .ok (.ifCond .le 17, 3) := by decide +kernel
theorem dX7_isBeneath_14 : decode cX7_isBeneath 14 = .ok (.aload_n 0, 1) := by decide +kernel
theorem dX7_isBeneath_15 : decode cX7_isBeneath 15 = .ok (.getfield 18, 3) := by decide +kernel
theorem dX7_isBeneath_18 : decode cX7_isBeneath 18 = .ok (.iload_n 1, 1) := by decide +kernel
theorem dX7_isBeneath_19 : decode cX7_isBeneath 19 = .ok (.aaload, 1) := by decide +kernel
theorem dX7_isBeneath_20 : decode cX7_isBeneath 20 = .ok (.iload 4, 2) := by decide +kernel
theorem dX7_isBeneath_22 : decode cX7_isBeneath 22 = .ok (.iaload, 1) := by decide +kernel
theorem dX7_isBeneath_23 : decode cX7_isBeneath 23 = .ok (.istore 4, 2) := by decide +kernel
theorem dX7_isBeneath_25 : decode cX7_isBeneath 25 = .ok (.goto (-22), 3) := by decide +kernel
theorem dX7_isBeneath_28 : decode cX7_isBeneath 28 = .ok (.iload 4, 2) := by decide +kernel
theorem dX7_isBeneath_30 : decode cX7_isBeneath 30 = .ok (.iload_n 3, 1) := by decide +kernel
theorem dX7_isBeneath_31 : decode cX7_isBeneath 31 = .ok (.if_icmp .ne 7, 3) := by decide +kernel
theorem dX7_isBeneath_34 : decode cX7_isBeneath 34 = .ok (.iconst 1, 1) := by decide +kernel
theorem dX7_isBeneath_35 : decode cX7_isBeneath 35 = .ok (.goto 4, 3) := by decide +kernel
theorem dX7_isBeneath_38 : decode cX7_isBeneath 38 = .ok (.iconst 0, 1) := by decide +kernel
theorem dX7_isBeneath_39 : decode cX7_isBeneath 39 = .ok (.ireturn, 1) := by decide +kernel
theorem dX7_parentNow_0 : decode cX7_parentNow 0 = .ok (.iload_n 2, 1) := by decide +kernel
theorem dX7_parentNow_1 : decode cX7_parentNow 1 = .ok (.ifCond .ne 7, 3) := by decide +kernel
theorem dX7_parentNow_4 : decode cX7_parentNow 4 = .ok (.iconst (-1), 1) := by decide +kernel
theorem dX7_parentNow_5 : decode cX7_parentNow 5 = .ok (.goto 11, 3) := by decide +kernel
theorem dX7_parentNow_8 : decode cX7_parentNow 8 = .ok (.aload_n 0, 1) := by decide +kernel
theorem dX7_parentNow_9 : decode cX7_parentNow 9 = .ok (.getfield 18, 3) := by decide +kernel
theorem dX7_parentNow_12 : decode cX7_parentNow 12 = .ok (.iload_n 1, 1) := by decide +kernel
theorem dX7_parentNow_13 : decode cX7_parentNow 13 = .ok (.aaload, 1) := by decide +kernel
theorem dX7_parentNow_14 : decode cX7_parentNow 14 = .ok (.iload_n 2, 1) := by decide +kernel
theorem dX7_parentNow_15 : decode cX7_parentNow 15 = .ok (.iaload, 1) := by decide +kernel
theorem dX7_parentNow_16 : decode cX7_parentNow 16 = .ok (.ireturn, 1) := by decide +kernel
theorem dX7_isOutAt_0 : decode cX7_isOutAt 0 = .ok (.iconst 0, 1) := by decide +kernel
theorem dX7_isOutAt_1 : decode cX7_isOutAt 1 = .ok (.istore_n 3, 1) := by decide +kernel
theorem dX7_isOutAt_2 : decode cX7_isOutAt 2 = .ok (.iload_n 3, 1) := by decide +kernel
theorem dX7_isOutAt_3 : decode cX7_isOutAt 3 = .ok (.aload_n 0, 1) := by decide +kernel
theorem dX7_isOutAt_4 : decode cX7_isOutAt 4 = .ok (.getfield 13, 3) := by decide +kernel
theorem dX7_isOutAt_7 : decode cX7_isOutAt 7 = .ok (.iload_n 1, 1) := by decide +kernel
theorem dX7_isOutAt_8 : decode cX7_isOutAt 8 = .ok (.iaload, 1) := by decide +kernel
theorem dX7_isOutAt_9 : decode cX7_isOutAt 9 = .ok (.if_icmp .ge 32, 3) := by decide +kernel
theorem dX7_isOutAt_12 : decode cX7_isOutAt 12 = .ok (.aload_n 0, 1) := by decide +kernel
theorem dX7_isOutAt_13 : decode cX7_isOutAt 13 = .ok (.getfield 23, 3) := by decide +kernel
theorem dX7_isOutAt_16 : decode cX7_isOutAt 16 = .ok (.iload_n 1, 1) := by decide +kernel
theorem dX7_isOutAt_17 : decode cX7_isOutAt 17 = .ok (.aaload, 1) := by decide +kernel
theorem dX7_isOutAt_18 : decode cX7_isOutAt 18 = .ok (.iload_n 3, 1) := by decide +kernel
theorem dX7_isOutAt_19 : decode cX7_isOutAt 19 = .ok (.baload, 1) := by decide +kernel
theorem dX7_isOutAt_20 : decode cX7_isOutAt 20 = .ok (.ifCond .eq 15, 3) := by decide +kernel
theorem dX7_isOutAt_23 : decode cX7_isOutAt 23 = .ok (.aload_n 0, 1) := by decide +kernel
theorem dX7_isOutAt_24 : decode cX7_isOutAt 24 = .ok (.iload_n 1, 1) := by decide +kernel
theorem dX7_isOutAt_25 : decode cX7_isOutAt 25 = .ok (.iload_n 2, 1) := by decide +kernel
theorem dX7_isOutAt_26 : decode cX7_isOutAt 26 = .ok (.iload_n 3, 1) := by decide +kernel
theorem dX7_isOutAt_27 : decode cX7_isOutAt 27 = .ok (.invokevirtual 120, 3) := by decide +kernel
theorem dX7_isOutAt_30 : decode cX7_isOutAt 30 = .ok (.ifCond .eq 5, 3) := by decide +kernel
theorem dX7_isOutAt_33 : decode cX7_isOutAt 33 = .ok (.iconst 1, 1) := by decide +kernel
theorem dX7_isOutAt_34 : decode cX7_isOutAt 34 = .ok (.ireturn, 1) := by decide +kernel
theorem dX7_isOutAt_35 : decode cX7_isOutAt 35 = .ok (.iinc 3 1, 3) := by decide +kernel
theorem dX7_isOutAt_38 : decode cX7_isOutAt 38 = .ok (.goto (-36), 3) := by decide +kernel
theorem dX7_isOutAt_41 : decode cX7_isOutAt 41 = .ok (.iconst 0, 1) := by decide +kernel
theorem dX7_isOutAt_42 : decode cX7_isOutAt 42 = .ok (.ireturn, 1) := by decide +kernel
/-! by program: wip/whole/gen.py out of wip/whole/src/25.model.eb -/
/-! EbbTableModel: its small questions, what counts, what there is -/
set_option maxRecDepth 100000 in
set_option maxHeartbeats 8000000 in
theorem c_X7_is {l : Launch} {D : va_G} {cys : Nat → ClassId} {ad : Nat → Int → Nat} {L : List Nat} {g : Nat → va_E} {X : Int64} {Z : ZT} (hi : injA ad) {q a b : Int} (hq : inR q) (ha : inR a) (hb : inR b) : CM l D cys ad yX7_is cX7_is 3 (some .boolean) 0 0 0 0 [.int (iI q), .int (iI a), .int (iI b)] L g X Z (PI L g X Z (fun r => (r = 1 ∧ a ≤ q ∧ q ≤ b) ∨ (r = 0 ∧ ¬ (a ≤ q ∧ q ≤ b)))) := by
  refine cm_start hi (by decide +kernel) (Nat.le_of_ble_eq_true rfl) ?_
  intro p_ e_ s_ m_ args_ below_ meth_ c_ A_ Q_ hQ G hr hin
  refine j_iload_n G dX7_is_0 rfl ?_
  refine j_iload_n G dX7_is_1 rfl ?_
  refine j_icmp_lt G 14 dX7_is_2 (by decide) (by omega) (by omega) (fun c2 => ?_) (fun c2 => ?_)
  · refine j_iconst G dX7_is_14 ?_
    refine jr_B G hQ hr dX7_is_15 (by decide) (by decide) (by omega) ?_
    first | omega | (refine ⟨?_, ?_⟩ <;> (try intros) <;> first | rfl | omega | (exfalso; omega)) | simp
  · refine j_iload_n G dX7_is_5 rfl ?_
    refine j_iload_n G dX7_is_6 rfl ?_
    refine j_icmp_gt G 14 dX7_is_7 (by decide) (by omega) (by omega) (fun c7 => ?_) (fun c7 => ?_)
    · refine j_iconst G dX7_is_14 ?_
      refine jr_B G hQ hr dX7_is_15 (by decide) (by decide) (by omega) ?_
      first | omega | (refine ⟨?_, ?_⟩ <;> (try intros) <;> first | rfl | omega | (exfalso; omega)) | simp
    · refine j_iconst G dX7_is_10 ?_
      refine j_goto G 15 dX7_is_11 (by decide) ?_
      refine jr_B G hQ hr dX7_is_15 (by decide) (by decide) (by omega) ?_
      first | omega | (refine ⟨?_, ?_⟩ <;> (try intros) <;> first | rfl | omega | (exfalso; omega)) | simp
set_option maxRecDepth 100000 in
set_option maxHeartbeats 8000000 in
theorem c_X7_refuse {l : Launch} {D : va_G} {cys : Nat → ClassId} {ad : Nat → Int → Nat} {L : List Nat} {g : Nat → va_E} {X : Int64} {Z : ZT} (hi : injA ad) {q : Int}  : CM l D cys ad yX7_refuse cX7_refuse 2 (some .int) 0 0 0 0 [.ref (ad 24 0), .int (iI q)] L g X Z (PIZ L g X Z (fun r Z' => r = 0 ∧ Z' = zS Z 24 0 0 q)) := by
  refine cm_start hi (by decide +kernel) (Nat.le_of_ble_eq_true rfl) ?_
  intro p_ e_ s_ m_ args_ below_ meth_ c_ A_ Q_ hQ G hr hin
  refine j_aload_n G dX7_refuse_0 rfl ?_
  refine j_iload_n G dX7_refuse_1 rfl ?_
  refine pf_24_0 G dX7_refuse_2 lf7_52 (by first | assumption | decide) ?_
  refine j_iconst G dX7_refuse_5 ?_
  refine jr_IZ G hQ hr dX7_refuse_6 (by decide) (by decide) ?_
  try simp (config := { decide := true }) only [zS_k, zS_s, zS_j, ne_eq]
  try exact ⟨rfl, rfl⟩
set_option maxRecDepth 100000 in
set_option maxHeartbeats 8000000 in
theorem c_X7_thrown {l : Launch} {D : va_G} {cys : Nat → ClassId} {ad : Nat → Int → Nat} {L : List Nat} {g : Nat → va_E} {X : Int64} {Z : ZT} (hi : injA ad)   : CM l D cys ad yX7_thrown cX7_thrown 1 (some .int) 0 0 0 0 [.ref (ad 24 0)] L g X Z (PI L g X Z (fun r => r = Z 24 0 0)) := by
  refine cm_start hi (by decide +kernel) (Nat.le_of_ble_eq_true rfl) ?_
  intro p_ e_ s_ m_ args_ below_ meth_ c_ A_ Q_ hQ G hr hin
  refine j_aload_n G dX7_thrown_0 rfl ?_
  refine gf_24_0 G dX7_thrown_1 lf7_52 (by first | assumption | decide) ?_
  refine jr_I G hQ hr dX7_thrown_4 (by decide) (by decide) ?_
  rfl
set_option maxRecDepth 100000 in
set_option maxHeartbeats 8000000 in
theorem c_X7_isDimension {l : Launch} {D : va_G} {cys : Nat → ClassId} {ad : Nat → Int → Nat} {L : List Nat} {g : Nat → va_E} {X : Int64} {Z : ZT} (hi : injA ad) {S : ZT} {d : Int} (hS : RMZ S Z) (hW : WF S) (hd : inR d) : CM l D cys ad yX7_isDimension cX7_isDimension 2 (some .boolean) 1 22 0 0 [.ref (ad 24 0), .int (iI d)] L g X Z (PI L g X Z (fun r => (r = 1 ∧ 0 ≤ d ∧ d < S 0 0 5) ∨ (r = 0 ∧ ¬ (0 ≤ d ∧ d < S 0 0 5)))) := by
  refine cm_start hi (by decide +kernel) (Nat.le_of_ble_eq_true rfl) ?_
  intro p_ e_ s_ m_ args_ below_ meth_ c_ A_ Q_ hQ G hr hin
  have hn := hW.n
  have e1 := hS.a.1
  have h0r : inR 0 := by decide
  have hbr : inR (Z 24 0 1 - 1) := by omega
  refine j_iload_n G dX7_isDimension_0 rfl ?_
  refine j_iconst G dX7_isDimension_1 ?_
  refine j_aload_n G dX7_isDimension_2 rfl ?_
  refine gf_24_1 G dX7_isDimension_3 lf7_56 (by first | assumption | decide) ?_
  refine j_iconst G dX7_isDimension_6 ?_
  refine j_isub G dX7_isDimension_7 ?_
  refine j_cSI G csX7_is ml7_59 rfl (c_X7_is hi hd h0r hbr) dX7_isDimension_8 ⟨by decide, by decide⟩ ⟨by decide, by decide⟩ rfl rfl (Nat.le_of_ble_eq_true rfl) (fun r8 h8 => ?_)
  refine jr_B G hQ hr dX7_isDimension_11 (by decide) (by decide) (by omega) ?_
  omega
set_option maxRecDepth 100000 in
set_option maxHeartbeats 8000000 in
theorem c_X7_isMember {l : Launch} {D : va_G} {cys : Nat → ClassId} {ad : Nat → Int → Nat} {L : List Nat} {g : Nat → va_E} {X : Int64} {Z : ZT} (hi : injA ad) {S : ZT} {d q : Int} (hS : RMZ S Z) (hW : WF S) (hd : inR d) (hq : inR q) : CM l D cys ad yX7_isMember cX7_isMember 3 (some .boolean) 2 43 0 0 [.ref (ad 24 0), .int (iI d), .int (iI q)] L g X Z (PI L g X Z (fun r => (r = 1 ∧ 0 ≤ d ∧ d < S 0 0 5 ∧ 0 ≤ q ∧ q < S 2 d 4) ∨ (r = 0 ∧ ¬ (0 ≤ d ∧ d < S 0 0 5 ∧ 0 ≤ q ∧ q < S 2 d 4)))) := by
  refine cm_start hi (by decide +kernel) (Nat.le_of_ble_eq_true rfl) ?_
  intro p_ e_ s_ m_ args_ below_ meth_ c_ A_ Q_ hQ G hr hin
  have hn := hW.n
  have h0r : inR 0 := by decide
  refine j_aload_n G dX7_isMember_0 rfl ?_
  refine j_iload_n G dX7_isMember_1 rfl ?_
  refine j_cVI G cvX7_isDimension ml7_63 (c_X7_isDimension hi hS hW hd) dX7_isMember_2 ⟨by decide, by decide⟩ ⟨by decide, by decide⟩ rfl rfl (Nat.le_of_ble_eq_true rfl) (by first | assumption | decide) rfl rfl rfl (fun r2 h2 => ?_)
  refine j_if_eq G 28 dX7_isMember_5 (by decide) (by omega) (fun c5 => ?_) (fun c5 => ?_)
  · refine j_iconst G dX7_isMember_28 ?_
    refine jr_B G hQ hr dX7_isMember_29 (by decide) (by decide) (by omega) ?_
    omega
  · have hdd : 0 ≤ d ∧ d < S 0 0 5 := by omega
    have e2 := (hS.d hdd.1 (by omega)).2.1
    have ht := (hW.t hdd.1 hdd.2).1
    have hbr : inR (Z 26 0 d - 1) := by omega
    refine j_iload_n G dX7_isMember_8 rfl ?_
    refine j_iconst G dX7_isMember_9 ?_
    refine j_aload_n G dX7_isMember_10 rfl ?_
    refine gf_24_3 G dX7_isMember_11 lf7_13 (by first | assumption | decide) ?_
    refine j_iload_n G dX7_isMember_14 rfl ?_
    refine al_26 G dX7_isMember_15 (by first | assumption | decide) (by omega) (by omega) ?_
    refine j_iconst G dX7_isMember_16 ?_
    refine j_isub G dX7_isMember_17 ?_
    refine j_cSI G csX7_is ml7_59 rfl (c_X7_is hi hq h0r hbr) dX7_isMember_18 ⟨by decide, by decide⟩ ⟨by decide, by decide⟩ rfl rfl (Nat.le_of_ble_eq_true rfl) (fun r18 h18 => ?_)
    refine j_if_eq G 28 dX7_isMember_21 (by decide) (by omega) (fun c21 => ?_) (fun c21 => ?_)
    · refine j_iconst G dX7_isMember_28 ?_
      refine jr_B G hQ hr dX7_isMember_29 (by decide) (by decide) (by omega) ?_
      omega
    · refine j_iconst G dX7_isMember_24 ?_
      refine j_goto G 29 dX7_isMember_25 (by decide) ?_
      refine jr_B G hQ hr dX7_isMember_29 (by decide) (by decide) (by omega) ?_
      omega
set_option maxRecDepth 100000 in
set_option maxHeartbeats 8000000 in
theorem c_X7_isLevel {l : Launch} {D : va_G} {cys : Nat → ClassId} {ad : Nat → Int → Nat} {L : List Nat} {g : Nat → va_E} {X : Int64} {Z : ZT} (hi : injA ad) {S : ZT} {d q : Int} (hS : RMZ S Z) (hW : WF S) (hd : inR d) (hq : inR q) : CM l D cys ad yX7_isLevel cX7_isLevel 3 (some .boolean) 2 43 0 0 [.ref (ad 24 0), .int (iI d), .int (iI q)] L g X Z (PI L g X Z (fun r => (r = 1 ∧ 0 ≤ d ∧ d < S 0 0 5 ∧ 0 ≤ q ∧ q ≤ S 2 d 3) ∨ (r = 0 ∧ ¬ (0 ≤ d ∧ d < S 0 0 5 ∧ 0 ≤ q ∧ q ≤ S 2 d 3)))) := by
  refine cm_start hi (by decide +kernel) (Nat.le_of_ble_eq_true rfl) ?_
  intro p_ e_ s_ m_ args_ below_ meth_ c_ A_ Q_ hQ G hr hin
  have hn := hW.n
  have h0r : inR 0 := by decide
  refine j_aload_n G dX7_isLevel_0 rfl ?_
  refine j_iload_n G dX7_isLevel_1 rfl ?_
  refine j_cVI G cvX7_isDimension ml7_63 (c_X7_isDimension hi hS hW hd) dX7_isLevel_2 ⟨by decide, by decide⟩ ⟨by decide, by decide⟩ rfl rfl (Nat.le_of_ble_eq_true rfl) (by first | assumption | decide) rfl rfl rfl (fun r2 h2 => ?_)
  refine j_if_eq G 26 dX7_isLevel_5 (by decide) (by omega) (fun c5 => ?_) (fun c5 => ?_)
  · refine j_iconst G dX7_isLevel_26 ?_
    refine jr_B G hQ hr dX7_isLevel_27 (by decide) (by decide) (by omega) ?_
    omega
  · have hdd : 0 ≤ d ∧ d < S 0 0 5 := by omega
    have e2 := (hS.d hdd.1 (by omega)).1
    have ht := (hW.t hdd.1 hdd.2).1
    have hbr : inR (Z 25 0 d) := by omega
    refine j_iload_n G dX7_isLevel_8 rfl ?_
    refine j_iconst G dX7_isLevel_9 ?_
    refine j_aload_n G dX7_isLevel_10 rfl ?_
    refine gf_24_2 G dX7_isLevel_11 lf7_9 (by first | assumption | decide) ?_
    refine j_iload_n G dX7_isLevel_14 rfl ?_
    refine al_25 G dX7_isLevel_15 (by first | assumption | decide) (by omega) (by omega) ?_
    refine j_cSI G csX7_is ml7_59 rfl (c_X7_is hi hq h0r hbr) dX7_isLevel_16 ⟨by decide, by decide⟩ ⟨by decide, by decide⟩ rfl rfl (Nat.le_of_ble_eq_true rfl) (fun r16 h16 => ?_)
    refine j_if_eq G 26 dX7_isLevel_19 (by decide) (by omega) (fun c19 => ?_) (fun c19 => ?_)
    · refine j_iconst G dX7_isLevel_26 ?_
      refine jr_B G hQ hr dX7_isLevel_27 (by decide) (by decide) (by omega) ?_
      omega
    · refine j_iconst G dX7_isLevel_22 ?_
      refine j_goto G 27 dX7_isLevel_23 (by decide) ?_
      refine jr_B G hQ hr dX7_isLevel_27 (by decide) (by decide) (by omega) ?_
      omega
set_option maxRecDepth 100000 in
set_option maxHeartbeats 8000000 in
theorem c_X7_depth {l : Launch} {D : va_G} {cys : Nat → ClassId} {ad : Nat → Int → Nat} {L : List Nat} {g : Nat → va_E} {X : Int64} {Z : ZT} (hi : injA ad) {S : ZT} {d q : Int} (hS : RMZ S Z) (hW : WF S) (hd : 0 ≤ d ∧ d < S 0 0 5) (hq : 0 ≤ q ∧ q < S 2 d 4) : CM l D cys ad yX7_depth cX7_depth 5 (some .int) 0 0 0 0 [.ref (ad 24 0), .int (iI d), .int (iI q)] L g X Z (PI L g X Z (fun r => r = S 4 d q)) := by
  refine cm_start hi (by decide +kernel) (Nat.le_of_ble_eq_true rfl) ?_
  intro p_ e_ s_ m_ args_ below_ meth_ c_ A_ Q_ hQ G hr hin
  have hn := hW.n
  have ht := hW.t hd.1 hd.2
  have ht1 := ht.1
  have hv27 : 0 ≤ d ∧ d < 4 := by omega
  have hv28 : vd 28 d := ⟨hd.1, show d < 4 by omega⟩
  have loop : ∀ (n : Nat) (a b : Int), 0 ≤ b → b < S 2 d 4 → S 4 d b = n → a + S 4 d b = S 4 d q → JJ p_ l e_ { frames := 0, cells := 0, slots := 0, locals := 0 } s_ m_ args_ below_ meth_ c_ D cys ad A_ Q_ 5 0 0 L g X Z 5 [(0, .ref (ad 24 0)), (1, .int (iI d)), (2, .int (iI q)), (3, .int (iI a)), (4, .int (iI b))] [] := by
    intro n
    induction n with
    | zero =>
      intro a b h0 h1 h2 h3
      have hb := ht.at h0 h1
      unfold MOK at hb
      have eb : b = 0 := by omega
      subst eb
      refine j_iload G dX7_depth_5 rfl ?_
      refine j_if_le G 27 dX7_depth_7 (by decide) (by omega) (fun c7 => ?_) (fun c7 => ?_)
      · refine j_iload_n G dX7_depth_27 rfl ?_
        refine jr_I G hQ hr dX7_depth_28 (by decide) (by decide) ?_
        omega
      · exfalso; omega
    | succ n ih =>
      intro a b h0 h1 h2 h3
      have hb := ht.at h0 h1
      unfold MOK at hb
      have hb0 : 0 < b := by omega
      have hb3 := hb.2.2.2 hb0
      have ep := hS.p hd.1 hd.2 hb0 h1
      refine j_iload G dX7_depth_5 rfl ?_
      refine j_if_le G 27 dX7_depth_7 (by decide) (by omega) (fun c7 => ?_) (fun c7 => ?_)
      · exfalso; omega
      · refine j_iinc G dX7_depth_10 rfl (by decide) rfl ?_
        refine j_aload_n G dX7_depth_13 rfl ?_
        refine gf_24_4 G dX7_depth_14 lf7_18 (by first | assumption | decide) ?_
        refine j_iload_n G dX7_depth_17 rfl ?_
        refine al_27 G dX7_depth_18 (by first | assumption | decide) (by omega) (by omega) ?_
        refine j_iload G dX7_depth_19 rfl ?_
        refine al_28 G dX7_depth_21 (by first | assumption | decide) (by omega) (by omega) ?_
        rw [ep]
        refine j_istore G dX7_depth_22 (by decide) rfl ?_
        refine j_goto G 5 dX7_depth_24 (by decide) ?_
        exact ih (a + 1) (S 3 d b) (by omega) (by omega) (by omega) (by omega)
  have hqm := ht.at hq.1 hq.2
  unfold MOK at hqm
  refine j_iconst G dX7_depth_0 ?_
  refine j_istore_n G dX7_depth_1 (by decide) rfl ?_
  refine j_iload_n G dX7_depth_2 rfl ?_
  refine j_istore G dX7_depth_3 (by decide) rfl ?_
  exact loop (S 4 d q).toNat 0 q hq.1 hq.2 (by omega) (by omega)
set_option maxRecDepth 100000 in
set_option maxHeartbeats 8000000 in
theorem c_X7_isBeneath {l : Launch} {D : va_G} {cys : Nat → ClassId} {ad : Nat → Int → Nat} {L : List Nat} {g : Nat → va_E} {X : Int64} {Z : ZT} (hi : injA ad) {S : ZT} {d q w : Int} (hS : RMZ S Z) (hW : WF S) (hd : 0 ≤ d ∧ d < S 0 0 5) (hq : 0 ≤ q ∧ q < S 2 d 4) (hw : 0 ≤ w ∧ w < S 2 d 4) : CM l D cys ad yX7_isBeneath cX7_isBeneath 5 (some .boolean) 0 0 0 0 [.ref (ad 24 0), .int (iI d), .int (iI q), .int (iI w)] L g X Z (PI L g X Z (fun r => (r = 1 ∧ bel S d q w) ∨ (r = 0 ∧ ¬ bel S d q w))) := by
  refine cm_start hi (by decide +kernel) (Nat.le_of_ble_eq_true rfl) ?_
  intro p_ e_ s_ m_ args_ below_ meth_ c_ A_ Q_ hQ G hr hin
  have hn := hW.n
  have ht := hW.t hd.1 hd.2
  have ht1 := ht.1
  have hv27 : 0 ≤ d ∧ d < 4 := by omega
  have hv28 : vd 28 d := ⟨hd.1, show d < 4 by omega⟩
  have loop : ∀ (n : Nat) (b : Int), 0 ≤ b → b < S 2 d 4 → S 4 d b = n → (bel S d q w ↔ bel S d b w) → JJ p_ l e_ { frames := 0, cells := 0, slots := 0, locals := 0 } s_ m_ args_ below_ meth_ c_ D cys ad A_ Q_ 5 0 0 L g X Z 3 [(0, .ref (ad 24 0)), (1, .int (iI d)), (2, .int (iI q)), (3, .int (iI w)), (4, .int (iI b))] [] := by
    intro n
    induction n with
    | zero =>
      intro b h0 h1 h2 h3
      have hb := ht.at h0 h1
      unfold MOK at hb
      have eb : b = 0 := by omega
      subst eb
      refine j_iload G dX7_isBeneath_3 rfl ?_
      refine j_iload_n G dX7_isBeneath_5 rfl ?_
      refine j_icmp_eq G 28 dX7_isBeneath_6 (by decide) (by omega) (by omega) (fun c6 => ?_) (fun c6 => ?_)
      · refine j_iload G dX7_isBeneath_28 rfl ?_
        refine j_iload_n G dX7_isBeneath_30 rfl ?_
        refine j_icmp_ne G 38 dX7_isBeneath_31 (by decide) (by omega) (by omega) (fun c31 => ?_) (fun c31 => ?_)
        · refine j_iconst G dX7_isBeneath_38 ?_
          refine jr_B G hQ hr dX7_isBeneath_39 (by decide) (by decide) (by omega) ?_
          first
          | (exfalso; omega)
          | (have ew : 0 = w := by assumption
             refine Or.inl ⟨rfl, h3.mpr ?_⟩
             rw [← ew]; exact bel_rf _ _ _)
          | exact Or.inr ⟨rfl, fun z => bel_root ht hw.1 hw.2 (by assumption) (h3.mp z)⟩
        · refine j_iconst G dX7_isBeneath_34 ?_
          refine j_goto G 39 dX7_isBeneath_35 (by decide) ?_
          refine jr_B G hQ hr dX7_isBeneath_39 (by decide) (by decide) (by omega) ?_
          first
          | (exfalso; omega)
          | (have ew : 0 = w := by assumption
             refine Or.inl ⟨rfl, h3.mpr ?_⟩
             rw [← ew]; exact bel_rf _ _ _)
          | exact Or.inr ⟨rfl, fun z => bel_root ht hw.1 hw.2 (by assumption) (h3.mp z)⟩
      · refine j_iload G dX7_isBeneath_9 rfl ?_
        refine j_if_le G 28 dX7_isBeneath_11 (by decide) (by omega) (fun c11 => ?_) (fun c11 => ?_)
        · refine j_iload G dX7_isBeneath_28 rfl ?_
          refine j_iload_n G dX7_isBeneath_30 rfl ?_
          refine j_icmp_ne G 38 dX7_isBeneath_31 (by decide) (by omega) (by omega) (fun c31 => ?_) (fun c31 => ?_)
          · refine j_iconst G dX7_isBeneath_38 ?_
            refine jr_B G hQ hr dX7_isBeneath_39 (by decide) (by decide) (by omega) ?_
            first
            | (exfalso; omega)
            | (have ew : 0 = w := by assumption
               refine Or.inl ⟨rfl, h3.mpr ?_⟩
               rw [← ew]; exact bel_rf _ _ _)
            | exact Or.inr ⟨rfl, fun z => bel_root ht hw.1 hw.2 (by assumption) (h3.mp z)⟩
          · refine j_iconst G dX7_isBeneath_34 ?_
            refine j_goto G 39 dX7_isBeneath_35 (by decide) ?_
            refine jr_B G hQ hr dX7_isBeneath_39 (by decide) (by decide) (by omega) ?_
            first
            | (exfalso; omega)
            | (have ew : 0 = w := by assumption
               refine Or.inl ⟨rfl, h3.mpr ?_⟩
               rw [← ew]; exact bel_rf _ _ _)
            | exact Or.inr ⟨rfl, fun z => bel_root ht hw.1 hw.2 (by assumption) (h3.mp z)⟩
        · exfalso; omega
    | succ n ih =>
      intro b h0 h1 h2 h3
      have hb := ht.at h0 h1
      unfold MOK at hb
      have hb0 : 0 < b := by omega
      have hb3 := hb.2.2.2 hb0
      have ep := hS.p hd.1 hd.2 hb0 h1
      refine j_iload G dX7_isBeneath_3 rfl ?_
      refine j_iload_n G dX7_isBeneath_5 rfl ?_
      refine j_icmp_eq G 28 dX7_isBeneath_6 (by decide) (by omega) (by omega) (fun c6 => ?_) (fun c6 => ?_)
      · refine j_iload G dX7_isBeneath_28 rfl ?_
        refine j_iload_n G dX7_isBeneath_30 rfl ?_
        refine j_icmp_ne G 38 dX7_isBeneath_31 (by decide) (by omega) (by omega) (fun c31 => ?_) (fun c31 => ?_)
        · refine j_iconst G dX7_isBeneath_38 ?_
          refine jr_B G hQ hr dX7_isBeneath_39 (by decide) (by decide) (by omega) ?_
          first
          | (exfalso; omega)
          | (have ew : b = w := by assumption
             refine Or.inl ⟨rfl, h3.mpr ?_⟩
             rw [ew]; exact bel_rf _ _ _)
        · refine j_iconst G dX7_isBeneath_34 ?_
          refine j_goto G 39 dX7_isBeneath_35 (by decide) ?_
          refine jr_B G hQ hr dX7_isBeneath_39 (by decide) (by decide) (by omega) ?_
          first
          | (exfalso; omega)
          | (have ew : b = w := by assumption
             refine Or.inl ⟨rfl, h3.mpr ?_⟩
             rw [ew]; exact bel_rf _ _ _)
      · refine j_iload G dX7_isBeneath_9 rfl ?_
        refine j_if_le G 28 dX7_isBeneath_11 (by decide) (by omega) (fun c11 => ?_) (fun c11 => ?_)
        · refine j_iload G dX7_isBeneath_28 rfl ?_
          refine j_iload_n G dX7_isBeneath_30 rfl ?_
          refine j_icmp_ne G 38 dX7_isBeneath_31 (by decide) (by omega) (by omega) (fun c31 => ?_) (fun c31 => ?_)
          · refine j_iconst G dX7_isBeneath_38 ?_
            refine jr_B G hQ hr dX7_isBeneath_39 (by decide) (by decide) (by omega) ?_
            first
            | (exfalso; omega)
            | (have ew : b = w := by assumption
               refine Or.inl ⟨rfl, h3.mpr ?_⟩
               rw [ew]; exact bel_rf _ _ _)
          · refine j_iconst G dX7_isBeneath_34 ?_
            refine j_goto G 39 dX7_isBeneath_35 (by decide) ?_
            refine jr_B G hQ hr dX7_isBeneath_39 (by decide) (by decide) (by omega) ?_
            first
            | (exfalso; omega)
            | (have ew : b = w := by assumption
               refine Or.inl ⟨rfl, h3.mpr ?_⟩
               rw [ew]; exact bel_rf _ _ _)
        · refine j_aload_n G dX7_isBeneath_14 rfl ?_
          refine gf_24_4 G dX7_isBeneath_15 lf7_18 (by first | assumption | decide) ?_
          refine j_iload_n G dX7_isBeneath_18 rfl ?_
          refine al_27 G dX7_isBeneath_19 (by first | assumption | decide) (by omega) (by omega) ?_
          refine j_iload G dX7_isBeneath_20 rfl ?_
          refine al_28 G dX7_isBeneath_22 (by first | assumption | decide) (by omega) (by omega) ?_
          rw [ep]
          refine j_istore G dX7_isBeneath_23 (by decide) rfl ?_
          refine j_goto G 3 dX7_isBeneath_25 (by decide) ?_
          exact ih (S 3 d b) (by omega) (by omega) (by omega) (h3.trans (bel_step ht hb0 h1 (by assumption)))
  have hqm := ht.at hq.1 hq.2
  unfold MOK at hqm
  refine j_iload_n G dX7_isBeneath_0 rfl ?_
  refine j_istore G dX7_isBeneath_1 (by decide) rfl ?_
  exact loop (S 4 d q).toNat q hq.1 hq.2 (by omega) Iff.rfl
set_option maxRecDepth 100000 in
set_option maxHeartbeats 8000000 in
theorem c_X7_parentNow {l : Launch} {D : va_G} {cys : Nat → ClassId} {ad : Nat → Int → Nat} {L : List Nat} {g : Nat → va_E} {X : Int64} {Z : ZT} (hi : injA ad) {S : ZT} {d q : Int} (hS : RMZ S Z) (hW : WF S) (hd : 0 ≤ d ∧ d < S 0 0 5) (hq : 0 ≤ q ∧ q < S 2 d 4) : CM l D cys ad yX7_parentNow cX7_parentNow 3 (some .int) 0 0 0 0 [.ref (ad 24 0), .int (iI d), .int (iI q)] L g X Z (PI L g X Z (fun r => r = S 3 d q)) := by
  refine cm_start hi (by decide +kernel) (Nat.le_of_ble_eq_true rfl) ?_
  intro p_ e_ s_ m_ args_ below_ meth_ c_ A_ Q_ hQ G hr hin
  have hn := hW.n
  have ht := hW.t hd.1 hd.2
  have ht1 := ht.1
  have hv27 : 0 ≤ d ∧ d < 4 := by omega
  have hv28 : vd 28 d := ⟨hd.1, show d < 4 by omega⟩
  refine j_iload_n G dX7_parentNow_0 rfl ?_
  refine j_if_ne G 8 dX7_parentNow_1 (by decide) (by omega) (fun c1 => ?_) (fun c1 => ?_)
  · refine j_aload_n G dX7_parentNow_8 rfl ?_
    refine gf_24_4 G dX7_parentNow_9 lf7_18 (by first | assumption | decide) ?_
    refine j_iload_n G dX7_parentNow_12 rfl ?_
    refine al_27 G dX7_parentNow_13 (by first | assumption | decide) (by omega) (by omega) ?_
    refine j_iload_n G dX7_parentNow_14 rfl ?_
    refine al_28 G dX7_parentNow_15 (by first | assumption | decide) (by omega) (by omega) ?_
    refine jr_I G hQ hr dX7_parentNow_16 (by decide) (by decide) ?_
    first
    | (have e : q = 0 := by assumption
       rw [e]; omega)
    | (rw [hS.p hd.1 hd.2 (by omega) hq.2])
  · refine j_iconst G dX7_parentNow_4 ?_
    refine j_goto G 16 dX7_parentNow_5 (by decide) ?_
    refine jr_I G hQ hr dX7_parentNow_16 (by decide) (by decide) ?_
    first
    | (have e : q = 0 := by assumption
       rw [e]; omega)
    | (rw [hS.p hd.1 hd.2 (by omega) hq.2])
set_option maxRecDepth 100000 in
set_option maxHeartbeats 8000000 in
theorem c_X7_isOutAt {l : Launch} {D : va_G} {cys : Nat → ClassId} {ad : Nat → Int → Nat} {L : List Nat} {g : Nat → va_E} {X : Int64} {Z : ZT} (hi : injA ad) {S : ZT} {d q : Int} (hS : RMZ S Z) (hW : WF S) (hd : 0 ≤ d ∧ d < S 0 0 5) (hq : 0 ≤ q ∧ q < S 2 d 4) : CM l D cys ad yX7_isOutAt cX7_isOutAt 4 (some .boolean) 1 24 0 0 [.ref (ad 24 0), .int (iI d), .int (iI q)] L g X Z (PI L g X Z (fun r => (r = 1 ∧ ¬ ∀ a, 0 ≤ a → a < S 2 d 4 → S 5 d a = 1 → ¬ bel S d q a) ∨ (r = 0 ∧ ∀ a, 0 ≤ a → a < S 2 d 4 → S 5 d a = 1 → ¬ bel S d q a))) := by
  refine cm_start hi (by decide +kernel) (Nat.le_of_ble_eq_true rfl) ?_
  intro p_ e_ s_ m_ args_ below_ meth_ c_ A_ Q_ hQ G hr hin
  have hn := hW.n
  have ht := hW.t hd.1 hd.2
  have ht1 := ht.1
  have hv26 : 0 ≤ d ∧ d < 4 := by omega
  have hv30 : vd 30 d := ⟨hd.1, show d < 4 by omega⟩
  have e26 := (hS.d hd.1 hv26.2).2.1
  have loop : ∀ (n : Nat) (a : Int), 0 ≤ a → a ≤ S 2 d 4 → (S 2 d 4 - a).toNat = n → (∀ k, 0 ≤ k → k < a → S 5 d k = 1 → ¬ bel S d q k) → JJ p_ l e_ { frames := 1, cells := 0, slots := 0, locals := 24 } s_ m_ args_ below_ meth_ c_ D cys ad A_ Q_ 4 0 0 L g X Z 2 [(0, .ref (ad 24 0)), (1, .int (iI d)), (2, .int (iI q)), (3, .int (iI a))] [] := by
    intro n
    induction n with
    | zero =>
      intro a h0 h1 h2 h3
      have ea : a = S 2 d 4 := by omega
      subst ea
      refine j_iload_n G dX7_isOutAt_2 rfl ?_
      refine j_aload_n G dX7_isOutAt_3 rfl ?_
      refine gf_24_3 G dX7_isOutAt_4 lf7_13 (by first | assumption | decide) ?_
      refine j_iload_n G dX7_isOutAt_7 rfl ?_
      refine al_26 G dX7_isOutAt_8 (by first | assumption | decide) (by omega) (by omega) ?_
      refine j_icmp_ge G 41 dX7_isOutAt_9 (by decide) (by omega) (by omega) (fun c9 => ?_) (fun c9 => ?_)
      · refine j_iconst G dX7_isOutAt_41 ?_
        refine jr_B G hQ hr dX7_isOutAt_42 (by decide) (by decide) (by omega) ?_
        exact Or.inr ⟨rfl, h3⟩
      · exfalso; omega
    | succ n ih =>
      intro a h0 h1 h2 h3
      have ha : 0 ≤ a ∧ a < S 2 d 4 := by omega
      have e30 := hS.o hd.1 hd.2 h0 (by omega : a < 24)
      have h01 := ht.2.2 a h0 (by omega)
      have hh1 : 0 ≤ a + 1 := by omega
      have hh2 : a + 1 ≤ S 2 d 4 := by omega
      have hh3 : (S 2 d 4 - (a + 1)).toNat = n := by omega
      have hnx : ∀ (hx : S 5 d a = 1 → ¬ bel S d q a), ∀ k, 0 ≤ k → k < a + 1 → S 5 d k = 1 → ¬ bel S d q k := fun hx k k0 k1 => by
        by_cases e : k = a
        · subst e; exact hx
        · exact h3 k k0 (by omega)
      refine j_iload_n G dX7_isOutAt_2 rfl ?_
      refine j_aload_n G dX7_isOutAt_3 rfl ?_
      refine gf_24_3 G dX7_isOutAt_4 lf7_13 (by first | assumption | decide) ?_
      refine j_iload_n G dX7_isOutAt_7 rfl ?_
      refine al_26 G dX7_isOutAt_8 (by first | assumption | decide) (by omega) (by omega) ?_
      refine j_icmp_ge G 41 dX7_isOutAt_9 (by decide) (by omega) (by omega) (fun c9 => ?_) (fun c9 => ?_)
      · exfalso; omega
      · refine j_aload_n G dX7_isOutAt_12 rfl ?_
        refine gf_24_5 G dX7_isOutAt_13 lf7_23 (by first | assumption | decide) ?_
        refine j_iload_n G dX7_isOutAt_16 rfl ?_
        refine al_29 G dX7_isOutAt_17 (by first | assumption | decide) (by omega) (by omega) ?_
        refine j_iload_n G dX7_isOutAt_18 rfl ?_
        refine al_30 G dX7_isOutAt_19 (by first | assumption | decide) (by omega) (by omega) ?_
        rw [e30]
        refine j_if_eq G 35 dX7_isOutAt_20 (by decide) (by omega) (fun c20 => ?_) (fun c20 => ?_)
        · refine j_iinc G dX7_isOutAt_35 rfl (by decide) rfl ?_
          refine j_goto G 2 dX7_isOutAt_38 (by decide) ?_
          refine ih (a + 1) hh1 hh2 hh3 (hnx ?_)
          first
          | (intro y; exfalso; omega)
          | (intro y; exact h27'.2.1 (by omega))
        · refine j_aload_n G dX7_isOutAt_23 rfl ?_
          refine j_iload_n G dX7_isOutAt_24 rfl ?_
          refine j_iload_n G dX7_isOutAt_25 rfl ?_
          refine j_iload_n G dX7_isOutAt_26 rfl ?_
          refine j_cVI G cvX7_isBeneath ml7_120 (c_X7_isBeneath hi hS hW hd hq ha) dX7_isOutAt_27 ⟨by decide, by decide⟩ ⟨by decide, by decide⟩ rfl rfl (Nat.le_of_ble_eq_true rfl) (by first | assumption | decide) rfl rfl rfl (fun r27 h27 => ?_)
          have h27' : (r27 = 0 ∨ r27 = 1) ∧ (r27 = 0 → ¬ bel S d q a) ∧ (r27 = 1 → bel S d q a) := by
            rcases h27 with z | z
            · exact ⟨Or.inr z.1, fun y => by omega, fun _ => z.2⟩
            · exact ⟨Or.inl z.1, fun _ => z.2, fun y => by omega⟩
          clear h27
          refine j_if_eq G 35 dX7_isOutAt_30 (by decide) (by omega) (fun c30 => ?_) (fun c30 => ?_)
          · refine j_iinc G dX7_isOutAt_35 rfl (by decide) rfl ?_
            refine j_goto G 2 dX7_isOutAt_38 (by decide) ?_
            refine ih (a + 1) hh1 hh2 hh3 (hnx ?_)
            first
            | (intro y; exfalso; omega)
            | (intro y; exact h27'.2.1 (by omega))
          · refine j_iconst G dX7_isOutAt_33 ?_
            refine jr_B G hQ hr dX7_isOutAt_34 (by decide) (by decide) (by omega) ?_
            exact Or.inl ⟨rfl, fun z => z a h0 ha.2 (by omega) (h27'.2.2 (by omega))⟩
  refine j_iconst G dX7_isOutAt_0 ?_
  refine j_istore_n G dX7_isOutAt_1 (by decide) rfl ?_
  exact loop _ 0 (by omega) (by omega) rfl (fun k k0 k1 => by omega)

