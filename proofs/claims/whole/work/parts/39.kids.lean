theorem dX7_hasChild_0 : decode cX7_hasChild 0 = .ok (.aload_n 0, 1) := by decide +kernel
theorem dX7_hasChild_1 : decode cX7_hasChild 1 = .ok (.aload_n 0, 1) := by decide +kernel
theorem dX7_hasChild_2 : decode cX7_hasChild 2 = .ok (.iload_n 1, 1) := by decide +kernel
theorem dX7_hasChild_3 : decode cX7_hasChild 3 = .ok (.invokevirtual 63, 3) := by decide +kernel
theorem dX7_hasChild_6 : decode cX7_hasChild 6 = .ok (.ifCond .eq 23, 3) := by decide +kernel
theorem dX7_hasChild_9 : decode cX7_hasChild 9 = .ok (.iload_n 2, 1) := by decide +kernel
theorem dX7_hasChild_10 : decode cX7_hasChild 10 = .ok (.iconst 0, 1) := by decide +kernel
theorem dX7_hasChild_11 : decode cX7_hasChild 11 = .ok (.aload_n 0, 1) := by decide +kernel
theorem dX7_hasChild_12 : decode cX7_hasChild 12 = .ok (.iload_n 1, 1) := by decide +kernel
theorem dX7_hasChild_13 : decode cX7_hasChild 13 = .ok (.invokevirtual 139, 3) := by decide +kernel
theorem dX7_hasChild_16 : decode cX7_hasChild 16 = .ok (.arraylength, 1) := by decide +kernel
theorem dX7_hasChild_17 : decode cX7_hasChild 17 = .ok (.iconst 1, 1) := by decide +kernel
theorem dX7_hasChild_18 : decode cX7_hasChild 18 = .ok (.isub, 1) := by decide +kernel
theorem dX7_hasChild_19 : decode cX7_hasChild 19 = .ok (.invokestatic 59, 3) := by decide +kernel
theorem dX7_hasChild_22 : decode cX7_hasChild 22 = .ok (.ifCond .eq 7, 3) := by decide +kernel
theorem dX7_hasChild_25 : decode cX7_hasChild 25 = .ok (.iconst 0, 1) := by decide +kernel
theorem dX7_hasChild_26 : decode cX7_hasChild 26 = .ok (.goto 4, 3) := by decide +kernel
theorem dX7_hasChild_29 : decode cX7_hasChild 29 = .ok (.iconst 1, 1) := by decide +kernel
theorem dX7_hasChild_30 : decode cX7_hasChild 30 = .ok (.putfield 52, 3) := by decide +kernel
theorem dX7_hasChild_33 : decode cX7_hasChild 33 = .ok (.aload_n 0, 1) := by decide +kernel
theorem dX7_hasChild_34 : decode cX7_hasChild 34 = .ok (.getfield 52, 3) := by decide +kernel
theorem dX7_hasChild_37 : decode cX7_hasChild 37 = .ok (.ifCond .ne 7, 3) := by decide +kernel
theorem dX7_hasChild_40 : decode cX7_hasChild 40 = .ok (.iconst 1, 1) := by decide +kernel
theorem dX7_hasChild_41 : decode cX7_hasChild 41 = .ok (.goto 4, 3) := by decide +kernel
theorem dX7_hasChild_44 : decode cX7_hasChild 44 = .ok (.iconst 0, 1) := by decide +kernel
theorem dX7_hasChild_45 : decode cX7_hasChild 45 = .ok (.ireturn, 1) := by decide +kernel
theorem dX7_children_0 : decode cX7_children 0 = .ok (.aload_n 0, 1) := by decide +kernel
theorem dX7_children_1 : decode cX7_children 1 = .ok (.iconst 0, 1) := by decide +kernel
theorem dX7_children_2 : decode cX7_children 2 = .ok (.putfield 52, 3) := by decide +kernel
theorem dX7_children_5 : decode cX7_children 5 = .ok (.aload_n 0, 1) := by decide +kernel
theorem dX7_children_6 : decode cX7_children 6 = .ok (.iload_n 1, 1) := by decide +kernel
theorem dX7_children_7 : decode cX7_children 7 = .ok (.invokevirtual 63, 3) := by decide +kernel
theorem dX7_children_10 : decode cX7_children 10 = .ok (.ifCond .eq 12, 3) := by decide +kernel
theorem dX7_children_13 : decode cX7_children 13 = .ok (.aload_n 0, 1) := by decide +kernel
theorem dX7_children_14 : decode cX7_children 14 = .ok (.iload_n 1, 1) := by decide +kernel
theorem dX7_children_15 : decode cX7_children 15 = .ok (.invokevirtual 139, 3) := by decide +kernel
theorem dX7_children_18 : decode cX7_children 18 = .ok (.arraylength, 1) := by decide +kernel
theorem dX7_children_19 : decode cX7_children 19 = .ok (.goto 8, 3) := by decide +kernel
theorem dX7_children_22 : decode cX7_children 22 = .ok (.aload_n 0, 1) := by decide +kernel
theorem dX7_children_23 : decode cX7_children 23 = .ok (.iconst 1, 1) := by decide +kernel
theorem dX7_children_24 : decode cX7_children 24 = .ok (.invokevirtual 85, 3) := by decide +kernel
theorem dX7_children_27 : decode cX7_children 27 = .ok (.ireturn, 1) := by decide +kernel
theorem dX7_sumOf_0 : decode cX7_sumOf 0 = .ok (.aload_n 0, 1) := by decide +kernel
theorem dX7_sumOf_1 : decode cX7_sumOf 1 = .ok (.iload_n 1, 1) := by decide +kernel
theorem dX7_sumOf_2 : decode cX7_sumOf 2 = .ok (.iload_n 2, 1) := by decide +kernel
theorem dX7_sumOf_3 : decode cX7_sumOf 3 = .ok (.invokevirtual 150, 3) := by decide +kernel
theorem dX7_sumOf_6 : decode cX7_sumOf 6 = .ok (.ifCond .eq 13, 3) := by decide +kernel
theorem dX7_sumOf_9 : decode cX7_sumOf 9 = .ok (.aload_n 0, 1) := by decide +kernel
theorem dX7_sumOf_10 : decode cX7_sumOf 10 = .ok (.iload_n 1, 1) := by decide +kernel
theorem dX7_sumOf_11 : decode cX7_sumOf 11 = .ok (.invokevirtual 153, 3) := by decide +kernel
theorem dX7_sumOf_14 : decode cX7_sumOf 14 = .ok (.iload_n 2, 1) := by decide +kernel
theorem dX7_sumOf_15 : decode cX7_sumOf 15 = .ok (.iaload, 1) := by decide +kernel
theorem dX7_sumOf_16 : decode cX7_sumOf 16 = .ok (.goto 4, 3) := by decide +kernel
theorem dX7_sumOf_19 : decode cX7_sumOf 19 = .ok (.iconst 0, 1) := by decide +kernel
theorem dX7_sumOf_20 : decode cX7_sumOf 20 = .ok (.ireturn, 1) := by decide +kernel
theorem dX7_ranked_0 : decode cX7_ranked 0 = .ok (.aload_n 0, 1) := by decide +kernel
theorem dX7_ranked_1 : decode cX7_ranked 1 = .ok (.iload_n 1, 1) := by decide +kernel
theorem dX7_ranked_2 : decode cX7_ranked 2 = .ok (.iload_n 2, 1) := by decide +kernel
theorem dX7_ranked_3 : decode cX7_ranked 3 = .ok (.invokevirtual 150, 3) := by decide +kernel
theorem dX7_ranked_6 : decode cX7_ranked 6 = .ok (.ifCond .eq 15, 3) := by decide +kernel
theorem dX7_ranked_9 : decode cX7_ranked 9 = .ok (.aload_n 0, 1) := by decide +kernel
theorem dX7_ranked_10 : decode cX7_ranked 10 = .ok (.iload_n 1, 1) := by decide +kernel
theorem dX7_ranked_11 : decode cX7_ranked 11 = .ok (.invokevirtual 153, 3) := by decide +kernel
theorem dX7_ranked_14 : decode cX7_ranked 14 = .ok (.iload_n 2, 1) := by decide +kernel
theorem dX7_ranked_15 : decode cX7_ranked 15 = .ok (.invokestatic 156, 3) := by decide +kernel
theorem dX7_ranked_18 : decode cX7_ranked 18 = .ok (.goto 4, 3) := by decide +kernel
theorem dX7_ranked_21 : decode cX7_ranked 21 = .ok (.iconst 0, 1) := by decide +kernel
theorem dX7_ranked_22 : decode cX7_ranked 22 = .ok (.ireturn, 1) := by decide +kernel
/-! by program: wip/whole/gen.py out of wip/whole/src/39.kids.eb -/
/-! EbbTableModel: the calls about children -/
set_option maxRecDepth 100000 in
set_option maxHeartbeats 8000000 in
theorem c_X7_hasChild {l : Launch} {D : va_G} {cys : Nat → ClassId} {ad : Nat → Int → Nat} {L : List Nat} {g : Nat → va_E} {X : Int64} {Z : ZT} (hi : injA ad) {S : ZT} {d q : Int} (hS : RMZ S Z) (hW : WF S) (hd : inR d) (hq : inR q) : CM l D cys ad yX7_hasChild cX7_hasChild 3 (some .boolean) 7 177 2 48 [.ref (ad 24 0), .int (iI d), .int (iI q)] L g X Z (PGI L g X Z (fun r L9 g9 X9 Z9 => (((0 ≤ d ∧ d < S 0 0 5 ∧ 0 ≤ q ∧ q < (kids S d).length) ∧ r = 1 ∧ MTH 0 Z Z9) ∨ (¬ (0 ≤ d ∧ d < S 0 0 5 ∧ 0 ≤ q ∧ q < (kids S d).length) ∧ r = 0 ∧ MTH 1 Z Z9)) ∧ EXT L g L9 g9 ∧ X9 = X)) := by
  refine cm_start hi (by decide +kernel) (Nat.le_of_ble_eq_true rfl) ?_
  intro p_ e_ s_ m_ args_ below_ meth_ c_ A_ Q_ hQ G hr hin
  have h0r : inR 0 := by decide
  refine j_aload_n G dX7_hasChild_0 rfl ?_
  refine j_aload_n G dX7_hasChild_1 rfl ?_
  refine j_iload_n G dX7_hasChild_2 rfl ?_
  refine j_cVI G cvX7_isDimension ml7_63 (c_X7_isDimension hi hS hW hd) dX7_hasChild_3 ⟨by decide, by decide⟩ (by first | exact ⟨by decide, by decide⟩ | (constructor <;> dsimp only <;> omega)) rfl rfl (Nat.le_of_ble_eq_true rfl) (by first | assumption | decide) rfl rfl rfl (fun r3 h3 => ?_)
  refine j_if_eq G 29 dX7_hasChild_6 (by decide) (by omega) (fun c6 => ?_) (fun c6 => ?_)
  · refine j_iconst G dX7_hasChild_29 ?_
    refine pf_24_0 G dX7_hasChild_30 lf7_52 (by first | assumption | decide) ?_
    refine j_aload_n G dX7_hasChild_33 rfl ?_
    refine gf_24_0 G dX7_hasChild_34 lf7_52 (by first | assumption | decide) ?_
    try simp (config := { decide := true }) only [zS_k, zS_s, zS_j, ne_eq]
    refine j_if_ne G 44 dX7_hasChild_37 (by decide) (by omega) (fun c37 => ?_) (fun c37 => ?_)
    · refine j_iconst G dX7_hasChild_44 ?_
      refine jr_GB G hQ hr dX7_hasChild_45 (by first | decide | omega) (by first | decide | omega) (by omega) ?_
      try simp (config := { decide := true }) only [zS_k, zS_s, zS_j, ne_eq]
      first
      | (exfalso; omega)
      | exact ⟨Or.inl ⟨by omega, by first | rfl | trivial, rfl⟩, p3, rfl⟩
      | exact ⟨Or.inr ⟨by omega, by first | rfl | trivial, rfl⟩, p3, rfl⟩
      | exact ⟨Or.inr ⟨by omega, by first | rfl | trivial, rfl⟩, EXT.rf _ _, rfl⟩
      | exact ⟨Or.inl ⟨by omega, by first | rfl | trivial, rfl⟩, p3, trivial⟩
      | exact ⟨Or.inr ⟨by omega, by first | rfl | trivial, rfl⟩, p3, trivial⟩
      | exact ⟨Or.inr ⟨by omega, by first | rfl | trivial, rfl⟩, EXT.rf _ _, trivial⟩
    · refine j_iconst G dX7_hasChild_40 ?_
      refine j_goto G 45 dX7_hasChild_41 (by decide) ?_
      refine jr_GB G hQ hr dX7_hasChild_45 (by first | decide | omega) (by first | decide | omega) (by omega) ?_
      try simp (config := { decide := true }) only [zS_k, zS_s, zS_j, ne_eq]
      first
      | (exfalso; omega)
      | exact ⟨Or.inl ⟨by omega, by first | rfl | trivial, rfl⟩, p3, rfl⟩
      | exact ⟨Or.inr ⟨by omega, by first | rfl | trivial, rfl⟩, p3, rfl⟩
      | exact ⟨Or.inr ⟨by omega, by first | rfl | trivial, rfl⟩, EXT.rf _ _, rfl⟩
      | exact ⟨Or.inl ⟨by omega, by first | rfl | trivial, rfl⟩, p3, trivial⟩
      | exact ⟨Or.inr ⟨by omega, by first | rfl | trivial, rfl⟩, p3, trivial⟩
      | exact ⟨Or.inr ⟨by omega, by first | rfl | trivial, rfl⟩, EXT.rf _ _, trivial⟩
  · have hd0 : 0 ≤ d ∧ d < S 0 0 5 := by omega
    have hk := (kids_ok hW hd0.1 hd0.2).1
    refine j_iload_n G dX7_hasChild_9 rfl ?_
    refine j_iconst G dX7_hasChild_10 ?_
    refine j_aload_n G dX7_hasChild_11 rfl ?_
    refine j_iload_n G dX7_hasChild_12 rfl ?_
    refine j_cVGA G cvX7_childrenOf ml7_139 (c_X7_childrenOf hi hS hW hd0) dX7_hasChild_13 ⟨by decide, by decide⟩ (by first | exact ⟨by decide, by decide⟩ | (constructor <;> dsimp only <;> omega)) rfl rfl (Nat.le_of_ble_eq_true rfl) (by first | assumption | decide) rfl rfl rfl (fun r13 L13 g13 X13 Z13 h13 => ?_)
    obtain ⟨p1, p2, p3, eX, eZ⟩ := h13
    subst X13 Z13
    have hbr : inR (((kids S d).length : Int) - 1) := by omega
    refine j_dnA G dX7_hasChild_16 (by assumption) ?_
    refine j_iconst G dX7_hasChild_17 ?_
    refine j_isub G dX7_hasChild_18 ?_
    refine j_cSI G csX7_is ml7_59 rfl (c_X7_is hi hq h0r hbr) dX7_hasChild_19 ⟨by decide, by decide⟩ (by first | exact ⟨by decide, by decide⟩ | (constructor <;> dsimp only <;> omega)) rfl rfl (Nat.le_of_ble_eq_true rfl) (fun r19 h19 => ?_)
    refine j_if_eq G 29 dX7_hasChild_22 (by decide) (by omega) (fun c22 => ?_) (fun c22 => ?_)
    · refine j_iconst G dX7_hasChild_29 ?_
      refine pf_24_0 G dX7_hasChild_30 lf7_52 (by first | assumption | decide) ?_
      refine j_aload_n G dX7_hasChild_33 rfl ?_
      refine gf_24_0 G dX7_hasChild_34 lf7_52 (by first | assumption | decide) ?_
      try simp (config := { decide := true }) only [zS_k, zS_s, zS_j, ne_eq]
      refine j_if_ne G 44 dX7_hasChild_37 (by decide) (by omega) (fun c37 => ?_) (fun c37 => ?_)
      · refine j_iconst G dX7_hasChild_44 ?_
        refine jr_GB G hQ hr dX7_hasChild_45 (by first | decide | omega) (by first | decide | omega) (by omega) ?_
        try simp (config := { decide := true }) only [zS_k, zS_s, zS_j, ne_eq]
        first
        | (exfalso; omega)
        | exact ⟨Or.inl ⟨by omega, by first | rfl | trivial, rfl⟩, p3, rfl⟩
        | exact ⟨Or.inr ⟨by omega, by first | rfl | trivial, rfl⟩, p3, rfl⟩
        | exact ⟨Or.inr ⟨by omega, by first | rfl | trivial, rfl⟩, EXT.rf _ _, rfl⟩
        | exact ⟨Or.inl ⟨by omega, by first | rfl | trivial, rfl⟩, p3, trivial⟩
        | exact ⟨Or.inr ⟨by omega, by first | rfl | trivial, rfl⟩, p3, trivial⟩
        | exact ⟨Or.inr ⟨by omega, by first | rfl | trivial, rfl⟩, EXT.rf _ _, trivial⟩
      · refine j_iconst G dX7_hasChild_40 ?_
        refine j_goto G 45 dX7_hasChild_41 (by decide) ?_
        refine jr_GB G hQ hr dX7_hasChild_45 (by first | decide | omega) (by first | decide | omega) (by omega) ?_
        try simp (config := { decide := true }) only [zS_k, zS_s, zS_j, ne_eq]
        first
        | (exfalso; omega)
        | exact ⟨Or.inl ⟨by omega, by first | rfl | trivial, rfl⟩, p3, rfl⟩
        | exact ⟨Or.inr ⟨by omega, by first | rfl | trivial, rfl⟩, p3, rfl⟩
        | exact ⟨Or.inr ⟨by omega, by first | rfl | trivial, rfl⟩, EXT.rf _ _, rfl⟩
        | exact ⟨Or.inl ⟨by omega, by first | rfl | trivial, rfl⟩, p3, trivial⟩
        | exact ⟨Or.inr ⟨by omega, by first | rfl | trivial, rfl⟩, p3, trivial⟩
        | exact ⟨Or.inr ⟨by omega, by first | rfl | trivial, rfl⟩, EXT.rf _ _, trivial⟩
    · refine j_iconst G dX7_hasChild_25 ?_
      refine j_goto G 30 dX7_hasChild_26 (by decide) ?_
      refine pf_24_0 G dX7_hasChild_30 lf7_52 (by first | assumption | decide) ?_
      refine j_aload_n G dX7_hasChild_33 rfl ?_
      refine gf_24_0 G dX7_hasChild_34 lf7_52 (by first | assumption | decide) ?_
      try simp (config := { decide := true }) only [zS_k, zS_s, zS_j, ne_eq]
      refine j_if_ne G 44 dX7_hasChild_37 (by decide) (by omega) (fun c37 => ?_) (fun c37 => ?_)
      · refine j_iconst G dX7_hasChild_44 ?_
        refine jr_GB G hQ hr dX7_hasChild_45 (by first | decide | omega) (by first | decide | omega) (by omega) ?_
        try simp (config := { decide := true }) only [zS_k, zS_s, zS_j, ne_eq]
        first
        | (exfalso; omega)
        | exact ⟨Or.inl ⟨by omega, by first | rfl | trivial, rfl⟩, p3, rfl⟩
        | exact ⟨Or.inr ⟨by omega, by first | rfl | trivial, rfl⟩, p3, rfl⟩
        | exact ⟨Or.inr ⟨by omega, by first | rfl | trivial, rfl⟩, EXT.rf _ _, rfl⟩
        | exact ⟨Or.inl ⟨by omega, by first | rfl | trivial, rfl⟩, p3, trivial⟩
        | exact ⟨Or.inr ⟨by omega, by first | rfl | trivial, rfl⟩, p3, trivial⟩
        | exact ⟨Or.inr ⟨by omega, by first | rfl | trivial, rfl⟩, EXT.rf _ _, trivial⟩
      · refine j_iconst G dX7_hasChild_40 ?_
        refine j_goto G 45 dX7_hasChild_41 (by decide) ?_
        refine jr_GB G hQ hr dX7_hasChild_45 (by first | decide | omega) (by first | decide | omega) (by omega) ?_
        try simp (config := { decide := true }) only [zS_k, zS_s, zS_j, ne_eq]
        first
        | (exfalso; omega)
        | exact ⟨Or.inl ⟨by omega, by first | rfl | trivial, rfl⟩, p3, rfl⟩
        | exact ⟨Or.inr ⟨by omega, by first | rfl | trivial, rfl⟩, p3, rfl⟩
        | exact ⟨Or.inr ⟨by omega, by first | rfl | trivial, rfl⟩, EXT.rf _ _, rfl⟩
        | exact ⟨Or.inl ⟨by omega, by first | rfl | trivial, rfl⟩, p3, trivial⟩
        | exact ⟨Or.inr ⟨by omega, by first | rfl | trivial, rfl⟩, p3, trivial⟩
        | exact ⟨Or.inr ⟨by omega, by first | rfl | trivial, rfl⟩, EXT.rf _ _, trivial⟩
set_option maxRecDepth 100000 in
set_option maxHeartbeats 8000000 in
theorem c_X7_children {l : Launch} {D : va_G} {cys : Nat → ClassId} {ad : Nat → Int → Nat} {L : List Nat} {g : Nat → va_E} {X : Int64} {Z : ZT} (hi : injA ad) {S : ZT} {d : Int} (hS : RMZ S Z) (hW : WF S) (hd : inR d) : CM l D cys ad yX7_children cX7_children 2 (some .int) 7 177 2 48 [.ref (ad 24 0), .int (iI d)] L g X Z (PGI L g X Z (fun r L9 g9 X9 Z9 => (((0 ≤ d ∧ d < S 0 0 5) ∧ r = (kids S d).length ∧ MTH 0 Z Z9) ∨ (¬ (0 ≤ d ∧ d < S 0 0 5) ∧ r = 0 ∧ MTH 1 Z Z9)) ∧ EXT L g L9 g9 ∧ X9 = X)) := by
  refine cm_start hi (by decide +kernel) (Nat.le_of_ble_eq_true rfl) ?_
  intro p_ e_ s_ m_ args_ below_ meth_ c_ A_ Q_ hQ G hr hin
  have hS1 := hS.th 0
  refine j_aload_n G dX7_children_0 rfl ?_
  refine j_iconst G dX7_children_1 ?_
  refine pf_24_0 G dX7_children_2 lf7_52 (by first | assumption | decide) ?_
  refine j_aload_n G dX7_children_5 rfl ?_
  refine j_iload_n G dX7_children_6 rfl ?_
  refine j_cVI G cvX7_isDimension ml7_63 (c_X7_isDimension hi hS1 hW hd) dX7_children_7 ⟨by decide, by decide⟩ (by first | exact ⟨by decide, by decide⟩ | (constructor <;> dsimp only <;> omega)) rfl rfl (Nat.le_of_ble_eq_true rfl) (by first | assumption | decide) rfl rfl rfl (fun r7 h7 => ?_)
  refine j_if_eq G 22 dX7_children_10 (by decide) (by omega) (fun c10 => ?_) (fun c10 => ?_)
  · refine j_aload_n G dX7_children_22 rfl ?_
    refine j_iconst G dX7_children_23 ?_
    refine j_cVIZ G cvX7_refuse ml7_85 (c_X7_refuse hi ) dX7_children_24 ⟨by decide, by decide⟩ (by first | exact ⟨by decide, by decide⟩ | (constructor <;> dsimp only <;> omega)) rfl rfl (Nat.le_of_ble_eq_true rfl) (by first | assumption | decide) rfl rfl rfl (fun r24 Z24 h24 => ?_)
    refine jr_GI G hQ hr dX7_children_27 (by first | decide | omega) (by first | decide | omega) ?_
    try simp (config := { decide := true }) only [zS_k, zS_s, zS_j, ne_eq]
    first
    | exact ⟨Or.inl ⟨hd0, rfl, rfl⟩, p3, rfl⟩
    | exact ⟨Or.inl ⟨hd0, trivial, rfl⟩, p3, trivial⟩
    | exact ⟨Or.inr ⟨by omega, h24.1, MTH.up h24.2⟩, EXT.rf _ _, rfl⟩
    | exact ⟨Or.inr ⟨by omega, h24.1, MTH.up h24.2⟩, EXT.rf _ _, trivial⟩
  · have hd0 : 0 ≤ d ∧ d < S 0 0 5 := by omega
    refine j_aload_n G dX7_children_13 rfl ?_
    refine j_iload_n G dX7_children_14 rfl ?_
    refine j_cVGA G cvX7_childrenOf ml7_139 (c_X7_childrenOf hi hS1 hW hd0) dX7_children_15 ⟨by decide, by decide⟩ (by first | exact ⟨by decide, by decide⟩ | (constructor <;> dsimp only <;> omega)) rfl rfl (Nat.le_of_ble_eq_true rfl) (by first | assumption | decide) rfl rfl rfl (fun r15 L15 g15 X15 Z15 h15 => ?_)
    obtain ⟨p1, p2, p3, eX, eZ⟩ := h15
    subst X15 Z15
    refine j_dnA G dX7_children_18 (by assumption) ?_
    refine j_goto G 27 dX7_children_19 (by decide) ?_
    refine jr_GI G hQ hr dX7_children_27 (by first | decide | omega) (by first | decide | omega) ?_
    try simp (config := { decide := true }) only [zS_k, zS_s, zS_j, ne_eq]
    first
    | exact ⟨Or.inl ⟨hd0, rfl, rfl⟩, p3, rfl⟩
    | exact ⟨Or.inl ⟨hd0, trivial, rfl⟩, p3, trivial⟩
    | exact ⟨Or.inr ⟨by omega, h24.1, MTH.up h24.2⟩, EXT.rf _ _, rfl⟩
    | exact ⟨Or.inr ⟨by omega, h24.1, MTH.up h24.2⟩, EXT.rf _ _, trivial⟩
set_option maxRecDepth 100000 in
set_option maxHeartbeats 8000000 in
theorem c_X7_sumOf {l : Launch} {D : va_G} {cys : Nat → ClassId} {ad : Nat → Int → Nat} {L : List Nat} {g : Nat → va_E} {X : Int64} {Z : ZT} (hi : injA ad) {S : ZT} {d q : Int} (hS : RMZ S Z) (hRL : RML cys ad S L g) (hW : WF S) (hd : inR d) (hq : inR q) : CM l D cys ad yX7_sumOf cX7_sumOf 3 (some .int) 8 201 5 120 [.ref (ad 24 0), .int (iI d), .int (iI q)] L g X Z (PGI L g X Z (fun r L9 g9 X9 Z9 => (((0 ≤ d ∧ d < S 0 0 5 ∧ 0 ≤ q ∧ q < (kids S d).length) ∧ r = lsum S d q ∧ MTH 0 Z Z9) ∨ (¬ (0 ≤ d ∧ d < S 0 0 5 ∧ 0 ≤ q ∧ q < (kids S d).length) ∧ r = 0 ∧ MTH 1 Z Z9)) ∧ EXT L g L9 g9 ∧ X9 = X)) := by
  refine cm_start hi (by decide +kernel) (Nat.le_of_ble_eq_true rfl) ?_
  intro p_ e_ s_ m_ args_ below_ meth_ c_ A_ Q_ hQ G hr hin
  refine j_aload_n G dX7_sumOf_0 rfl ?_
  refine j_iload_n G dX7_sumOf_1 rfl ?_
  refine j_iload_n G dX7_sumOf_2 rfl ?_
  refine j_cVGI G cvX7_hasChild ml7_150 (c_X7_hasChild hi hS hW hd hq) dX7_sumOf_3 ⟨by decide, by decide⟩ (by first | exact ⟨by decide, by decide⟩ | (constructor <;> dsimp only <;> omega)) rfl rfl (Nat.le_of_ble_eq_true rfl) (by first | assumption | decide) rfl rfl rfl (fun r3 L3 g3 X3 Z3 h3 => ?_)
  obtain ⟨hc, p3, eX⟩ := h3
  subst X3
  have hc' : (r3 = 1 ∧ (0 ≤ d ∧ d < S 0 0 5 ∧ 0 ≤ q ∧ q < (kids S d).length) ∧ Z3 = zS Z 24 0 0 0) ∨ (r3 = 0 ∧ ¬ (0 ≤ d ∧ d < S 0 0 5 ∧ 0 ≤ q ∧ q < (kids S d).length) ∧ Z3 = zS Z 24 0 0 1) := by
    rcases hc with z | z
    · exact Or.inl ⟨z.2.1, z.1, z.2.2⟩
    · exact Or.inr ⟨z.2.1, z.1, z.2.2⟩
  clear hc
  have hRL3 := hRL.ext p3
  refine j_if_eq G 19 dX7_sumOf_6 (by decide) (by omega) (fun c6 => ?_) (fun c6 => ?_)
  · refine j_iconst G dX7_sumOf_19 ?_
    refine jr_GI G hQ hr dX7_sumOf_20 (by first | decide | omega) (by first | decide | omega) ?_
    first
    | exact ⟨Or.inl ⟨hdq, (SUML_at hdq.2.2.1 hdq.2.2.2).1, rfl⟩, p3.tr s3, rfl⟩
    | (rcases hc' with z | z
       · exfalso; omega
       · exact ⟨Or.inr ⟨z.2.1, by first | rfl | trivial, z.2.2⟩, p3, by first | rfl | trivial⟩)
  · have hdq : 0 ≤ d ∧ d < S 0 0 5 ∧ 0 ≤ q ∧ q < (kids S d).length := by omega
    have hd0 : 0 ≤ d ∧ d < S 0 0 5 := by omega
    have hm : Z3 = zS Z 24 0 0 0 := hc'.elim (fun z => z.2.2) (fun z => absurd hdq z.2.1)
    subst hm
    have hS1 := hS.th 0
    refine j_aload_n G dX7_sumOf_9 rfl ?_
    refine j_iload_n G dX7_sumOf_10 rfl ?_
    refine j_cVGA G cvX7_sums ml7_153 (c_X7_sums hi hS1 hRL3 hW hd0) dX7_sumOf_11 ⟨by decide, by decide⟩ (by first | exact ⟨by decide, by decide⟩ | (constructor <;> dsimp only <;> omega)) rfl rfl (Nat.le_of_ble_eq_true rfl) (by first | assumption | decide) rfl rfl rfl (fun r11 L11 g11 X11 Z11 h11 => ?_)
    obtain ⟨s1, s2, s3, eX, eZ⟩ := h11
    subst X11 Z11
    have hsl := SUML_len S d
    have hk := (kids_ok hW hd0.1 hd0.2).1
    refine j_iload_n G dX7_sumOf_14 rfl ?_
    refine j_dlA G dX7_sumOf_15 (by assumption) (by first | omega | decide) (by omega) (by omega) ?_
    refine j_goto G 20 dX7_sumOf_16 (by decide) ?_
    refine jr_GI G hQ hr dX7_sumOf_20 (by first | decide | omega) (by first | decide | omega) ?_
    first
    | exact ⟨Or.inl ⟨hdq, (SUML_at hdq.2.2.1 hdq.2.2.2).1, rfl⟩, p3.tr s3, rfl⟩
    | (rcases hc' with z | z
       · exfalso; omega
       · exact ⟨Or.inr ⟨z.2.1, by first | rfl | trivial, z.2.2⟩, p3, by first | rfl | trivial⟩)
set_option maxRecDepth 100000 in
set_option maxHeartbeats 8000000 in
theorem c_X7_ranked {l : Launch} {D : va_G} {cys : Nat → ClassId} {ad : Nat → Int → Nat} {L : List Nat} {g : Nat → va_E} {X : Int64} {Z : ZT} (hi : injA ad) {S : ZT} {d q : Int} (hS : RMZ S Z) (hRL : RML cys ad S L g) (hW : WF S) (hd : inR d) (hq : inR q) : CM l D cys ad yX7_ranked cX7_ranked 3 (some .int) 8 201 5 120 [.ref (ad 24 0), .int (iI d), .int (iI q)] L g X Z (PGI L g X Z (fun r L9 g9 X9 Z9 => (((0 ≤ d ∧ d < S 0 0 5 ∧ 0 ≤ q ∧ q < (kids S d).length) ∧ r = rkF (lsum S d) (kids S d).length q ∧ MTH 0 Z Z9) ∨ (¬ (0 ≤ d ∧ d < S 0 0 5 ∧ 0 ≤ q ∧ q < (kids S d).length) ∧ r = 0 ∧ MTH 1 Z Z9)) ∧ EXT L g L9 g9 ∧ X9 = X)) := by
  refine cm_start hi (by decide +kernel) (Nat.le_of_ble_eq_true rfl) ?_
  intro p_ e_ s_ m_ args_ below_ meth_ c_ A_ Q_ hQ G hr hin
  refine j_aload_n G dX7_ranked_0 rfl ?_
  refine j_iload_n G dX7_ranked_1 rfl ?_
  refine j_iload_n G dX7_ranked_2 rfl ?_
  refine j_cVGI G cvX7_hasChild ml7_150 (c_X7_hasChild hi hS hW hd hq) dX7_ranked_3 ⟨by decide, by decide⟩ (by first | exact ⟨by decide, by decide⟩ | (constructor <;> dsimp only <;> omega)) rfl rfl (Nat.le_of_ble_eq_true rfl) (by first | assumption | decide) rfl rfl rfl (fun r3 L3 g3 X3 Z3 h3 => ?_)
  obtain ⟨hc, p3, eX⟩ := h3
  subst X3
  have hc' : (r3 = 1 ∧ (0 ≤ d ∧ d < S 0 0 5 ∧ 0 ≤ q ∧ q < (kids S d).length) ∧ Z3 = zS Z 24 0 0 0) ∨ (r3 = 0 ∧ ¬ (0 ≤ d ∧ d < S 0 0 5 ∧ 0 ≤ q ∧ q < (kids S d).length) ∧ Z3 = zS Z 24 0 0 1) := by
    rcases hc with z | z
    · exact Or.inl ⟨z.2.1, z.1, z.2.2⟩
    · exact Or.inr ⟨z.2.1, z.1, z.2.2⟩
  clear hc
  have hRL3 := hRL.ext p3
  refine j_if_eq G 21 dX7_ranked_6 (by decide) (by omega) (fun c6 => ?_) (fun c6 => ?_)
  · refine j_iconst G dX7_ranked_21 ?_
    refine jr_GI G hQ hr dX7_ranked_22 (by first | decide | omega) (by first | decide | omega) ?_
    first
    | exact ⟨Or.inl ⟨hdq, h15.trans (rk_SUML S d q), rfl⟩, p3.tr s3, rfl⟩
    | (rcases hc' with z | z
       · exfalso; omega
       · exact ⟨Or.inr ⟨z.2.1, by first | rfl | trivial, z.2.2⟩, p3, by first | rfl | trivial⟩)
  · have hdq : 0 ≤ d ∧ d < S 0 0 5 ∧ 0 ≤ q ∧ q < (kids S d).length := by omega
    have hd0 : 0 ≤ d ∧ d < S 0 0 5 := by omega
    have hm : Z3 = zS Z 24 0 0 0 := hc'.elim (fun z => z.2.2) (fun z => absurd hdq z.2.1)
    subst hm
    have hS1 := hS.th 0
    refine j_aload_n G dX7_ranked_9 rfl ?_
    refine j_iload_n G dX7_ranked_10 rfl ?_
    refine j_cVGA G cvX7_sums ml7_153 (c_X7_sums hi hS1 hRL3 hW hd0) dX7_ranked_11 ⟨by decide, by decide⟩ (by first | exact ⟨by decide, by decide⟩ | (constructor <;> dsimp only <;> omega)) rfl rfl (Nat.le_of_ble_eq_true rfl) (by first | assumption | decide) rfl rfl rfl (fun r11 L11 g11 X11 Z11 h11 => ?_)
    obtain ⟨s1, s2, s3, eX, eZ⟩ := h11
    subst X11 Z11
    have hsl := SUML_len S d
    have hk := (kids_ok hW hd0.1 hd0.2).1
    have hsl24 : (SUML S d).length ≤ 24 := by omega
    have hrg := SUML_rg hW d
    have hq1 : 0 ≤ q ∧ q < (SUML S d).length := by omega
    refine j_iload_n G dX7_ranked_14 rfl ?_
    refine j_cSI G csX7_ofRank ml7_156 rfl (c_X7_ofRank hi s2 hsl24 hrg hq1) dX7_ranked_15 ⟨by decide, by decide⟩ (by first | exact ⟨by decide, by decide⟩ | (constructor <;> dsimp only <;> omega)) rfl rfl (Nat.le_of_ble_eq_true rfl) (fun r15 h15 => ?_)
    refine j_goto G 22 dX7_ranked_18 (by decide) ?_
    refine jr_GI G hQ hr dX7_ranked_22 (by first | decide | omega) (by first | decide | omega) ?_
    first
    | exact ⟨Or.inl ⟨hdq, h15.trans (rk_SUML S d q), rfl⟩, p3.tr s3, rfl⟩
    | (rcases hc' with z | z
       · exfalso; omega
       · exact ⟨Or.inr ⟨z.2.1, by first | rfl | trivial, z.2.2⟩, p3, by first | rfl | trivial⟩)

