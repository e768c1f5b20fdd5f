theorem dX7_rows_0 : decode cX7_rows 0 = .ok (.aload_n 0, 1) := by decide +kernel
theorem dX7_rows_1 : decode cX7_rows 1 = .ok (.invokevirtual 180, 3) := by decide +kernel
theorem dX7_rows_4 : decode cX7_rows 4 = .ok (.ifCond .eq 12, 3) := by decide +kernel
theorem dX7_rows_7 : decode cX7_rows 7 = .ok (.aload_n 0, 1) := by decide +kernel
theorem dX7_rows_8 : decode cX7_rows 8 = .ok (.iconst 0, 1) := by decide +kernel
theorem dX7_rows_9 : decode cX7_rows 9 = .ok (.invokevirtual 165, 3) := by decide +kernel
theorem dX7_rows_12 : decode cX7_rows 12 = .ok (.arraylength, 1) := by decide +kernel
theorem dX7_rows_13 : decode cX7_rows 13 = .ok (.goto 4, 3) := by decide +kernel
theorem dX7_rows_16 : decode cX7_rows 16 = .ok (.iconst 0, 1) := by decide +kernel
theorem dX7_rows_17 : decode cX7_rows 17 = .ok (.ireturn, 1) := by decide +kernel
theorem dX7_columns_0 : decode cX7_columns 0 = .ok (.aload_n 0, 1) := by decide +kernel
theorem dX7_columns_1 : decode cX7_columns 1 = .ok (.invokevirtual 180, 3) := by decide +kernel
theorem dX7_columns_4 : decode cX7_columns 4 = .ok (.ifCond .eq 12, 3) := by decide +kernel
theorem dX7_columns_7 : decode cX7_columns 7 = .ok (.aload_n 0, 1) := by decide +kernel
theorem dX7_columns_8 : decode cX7_columns 8 = .ok (.iconst 2, 1) := by decide +kernel
theorem dX7_columns_9 : decode cX7_columns 9 = .ok (.invokevirtual 165, 3) := by decide +kernel
theorem dX7_columns_12 : decode cX7_columns 12 = .ok (.arraylength, 1) := by decide +kernel
theorem dX7_columns_13 : decode cX7_columns 13 = .ok (.goto 4, 3) := by decide +kernel
theorem dX7_columns_16 : decode cX7_columns 16 = .ok (.iconst 0, 1) := by decide +kernel
theorem dX7_columns_17 : decode cX7_columns 17 = .ok (.ireturn, 1) := by decide +kernel
theorem dX7_line_0 : decode cX7_line 0 = .ok (.aload_n 0, 1) := by decide +kernel
theorem dX7_line_1 : decode cX7_line 1 = .ok (.invokevirtual 180, 3) := by decide +kernel
theorem dX7_line_4 : decode cX7_line 4 = .ok (.ifCond .ne 5, 3) := by decide +kernel
theorem dX7_line_7 : decode cX7_line 7 = .ok (.iconst 0, 1) := by decide +kernel
theorem dX7_line_8 : decode cX7_line 8 = .ok (.ireturn, 1) := by decide +kernel
theorem dX7_line_9 : decode cX7_line 9 = .ok (.iload_n 2, 1) := by decide +kernel
theorem dX7_line_10 : decode cX7_line 10 = .ok (.iconst 0, 1) := by decide +kernel
theorem dX7_line_11 : decode cX7_line 11 = .ok (.aload_n 0, 1) := by decide +kernel
theorem dX7_line_12 : decode cX7_line 12 = .ok (.iload_n 1, 1) := by decide +kernel
theorem dX7_line_13 : decode cX7_line 13 = .ok (.invokevirtual 165, 3) := by decide +kernel
theorem dX7_line_16 : decode cX7_line 16 = .ok (.arraylength, 1) := by decide +kernel
theorem dX7_line_17 : decode cX7_line 17 = .ok (.iconst 1, 1) := by decide +kernel
theorem dX7_line_18 : decode cX7_line 18 = .ok (.isub, 1) := by decide +kernel
theorem dX7_line_19 : decode cX7_line 19 = .ok (.invokestatic 59, 3) := by decide +kernel
theorem dX7_line_22 : decode cX7_line 22 = .ok (.ifCond .eq 13, 3) := by decide +kernel
theorem dX7_line_25 : decode cX7_line 25 = .ok (.aload_n 0, 1) := by decide +kernel
theorem dX7_line_26 : decode cX7_line 26 = .ok (.iload_n 1, 1) := by decide +kernel
theorem dX7_line_27 : decode cX7_line 27 = .ok (.invokevirtual 165, 3) := by decide +kernel
theorem dX7_line_30 : decode cX7_line 30 = .ok (.iload_n 2, 1) := by decide +kernel
theorem dX7_line_31 : decode cX7_line 31 = .ok (.iaload, 1) := by decide +kernel
theorem dX7_line_32 : decode cX7_line 32 = .ok (.goto 8, 3) := by decide +kernel
theorem dX7_line_35 : decode cX7_line 35 = .ok (.aload_n 0, 1) := by decide +kernel
theorem dX7_line_36 : decode cX7_line 36 = .ok (.iconst 2, 1) := by decide +kernel
theorem dX7_line_37 : decode cX7_line 37 = .ok (.invokevirtual 85, 3) := by decide +kernel
theorem dX7_line_40 : decode cX7_line 40 = .ok (.ireturn, 1) := by decide +kernel
theorem dX7_rowMember_0 : decode cX7_rowMember 0 = .ok (.aload_n 0, 1) := by decide +kernel
theorem dX7_rowMember_1 : decode cX7_rowMember 1 = .ok (.iconst 0, 1) := by decide +kernel
theorem dX7_rowMember_2 : decode cX7_rowMember 2 = .ok (.iload_n 1, 1) := by decide +kernel
theorem dX7_rowMember_3 : decode cX7_rowMember 3 = .ok (.invokevirtual 184, 3) := by decide +kernel
theorem dX7_rowMember_6 : decode cX7_rowMember 6 = .ok (.ireturn, 1) := by decide +kernel
theorem dX7_columnMember_0 : decode cX7_columnMember 0 = .ok (.aload_n 0, 1) := by decide +kernel
theorem dX7_columnMember_1 : decode cX7_columnMember 1 = .ok (.iconst 2, 1) := by decide +kernel
theorem dX7_columnMember_2 : decode cX7_columnMember 2 = .ok (.iload_n 1, 1) := by decide +kernel
theorem dX7_columnMember_3 : decode cX7_columnMember 3 = .ok (.invokevirtual 184, 3) := by decide +kernel
theorem dX7_columnMember_6 : decode cX7_columnMember 6 = .ok (.ireturn, 1) := by decide +kernel
theorem dX7_cell_0 : decode cX7_cell 0 = .ok (.aload_n 0, 1) := by decide +kernel
theorem dX7_cell_1 : decode cX7_cell 1 = .ok (.invokevirtual 180, 3) := by decide +kernel
theorem dX7_cell_4 : decode cX7_cell 4 = .ok (.ifCond .ne 5, 3) := by decide +kernel
theorem dX7_cell_7 : decode cX7_cell 7 = .ok (.iconst 0, 1) := by decide +kernel
theorem dX7_cell_8 : decode cX7_cell 8 = .ok (.ireturn, 1) := by decide +kernel
theorem dX7_cell_9 : decode cX7_cell 9 = .ok (.aload_n 0, 1) := by decide +kernel
theorem dX7_cell_10 : decode cX7_cell 10 = .ok (.iconst 0, 1) := by decide +kernel
theorem dX7_cell_11 : decode cX7_cell 11 = .ok (.invokevirtual 165, 3) := by decide +kernel
theorem dX7_cell_14 : decode cX7_cell 14 = .ok (.astore_n 3, 1) := by decide +kernel
theorem dX7_cell_15 : decode cX7_cell 15 = .ok (.aload_n 0, 1) := by decide +kernel
theorem dX7_cell_16 : decode cX7_cell 16 = .ok (.iconst 2, 1) := by decide +kernel
theorem dX7_cell_17 : decode cX7_cell 17 = .ok (.invokevirtual 165, 3) := by decide +kernel
theorem dX7_cell_20 : decode cX7_cell 20 = .ok (.astore 4, 2) := by decide +kernel
theorem dX7_cell_22 : decode cX7_cell 22 = .ok (.iload_n 1, 1) := by decide +kernel
theorem dX7_cell_23 : decode cX7_cell 23 = .ok (.iconst 0, 1) := by decide +kernel
theorem dX7_cell_24 : decode cX7_cell 24 = .ok (.aload_n 3, 1) := by decide +kernel
theorem dX7_cell_25 : decode cX7_cell 25 = .ok (.arraylength, 1) := by decide +kernel
theorem dX7_cell_26 : decode cX7_cell 26 = .ok (.iconst 1, 1) := by decide +kernel
theorem dX7_cell_27 : decode cX7_cell 27 = .ok (.isub, 1) := by decide +kernel
theorem dX7_cell_28 : decode cX7_cell 28 = .ok (.invokestatic 59, 3) := by decide +kernel
theorem dX7_cell_31 : decode cX7_cell 31 = .ok (.ifCond .eq 30, 3) := by decide +kernel
theorem dX7_cell_34 : decode cX7_cell 34 = .ok (.iload_n 2, 1) := by decide +kernel
theorem dX7_cell_35 : decode cX7_cell 35 = .ok (.iconst 0, 1) := by decide +kernel
theorem dX7_cell_36 : decode cX7_cell 36 = .ok (.aload 4, 2) := by decide +kernel
theorem dX7_cell_38 : decode cX7_cell 38 = .ok (.arraylength, 1) := by decide +kernel
theorem dX7_cell_39 : decode cX7_cell 39 = .ok (.iconst 1, 1) := by decide +kernel
theorem dX7_cell_40 : decode cX7_cell 40 = .ok (.isub, 1) := by decide +kernel
theorem dX7_cell_41 : decode cX7_cell 41 = .ok (.invokestatic 59, 3) := by decide +kernel
theorem dX7_cell_44 : decode cX7_cell 44 = .ok (.ifCond .eq 17, 3) := by decide +kernel
theorem dX7_cell_47 : decode cX7_cell 47 = .ok (.aload_n 0, 1) := by decide +kernel
theorem dX7_cell_48 : decode cX7_cell 48 = .ok (.aload_n 3, 1) := by decide +kernel
theorem dX7_cell_49 : decode cX7_cell 49 = .ok (.iload_n 1, 1) := by decide +kernel
theorem dX7_cell_50 : decode cX7_cell 50 = .ok (.iaload, 1) := by decide +kernel
theorem dX7_cell_51 : decode cX7_cell 51 = .ok (.aload 4, 2) := by decide +kernel
theorem dX7_cell_53 : decode cX7_cell 53 = .ok (.iload_n 2, 1) := by decide +kernel
theorem dX7_cell_54 : decode cX7_cell 54 = .ok (.iaload, 1) := by decide +kernel
theorem dX7_cell_55 : decode cX7_cell 55 = .ok (.invokevirtual 187, 3) := by decide +kernel
theorem dX7_cell_58 : decode cX7_cell 58 = .ok (.goto 8, 3) := by decide +kernel
theorem dX7_cell_61 : decode cX7_cell 61 = .ok (.aload_n 0, 1) := by decide +kernel
theorem dX7_cell_62 : decode cX7_cell 62 = .ok (.iconst 2, 1) := by decide +kernel
theorem dX7_cell_63 : decode cX7_cell 63 = .ok (.invokevirtual 85, 3) := by decide +kernel
theorem dX7_cell_66 : decode cX7_cell 66 = .ok (.ireturn, 1) := by decide +kernel
theorem dX7_peak_0 : decode cX7_peak 0 = .ok (.aload_n 0, 1) := by decide +kernel
theorem dX7_peak_1 : decode cX7_peak 1 = .ok (.invokevirtual 180, 3) := by decide +kernel
theorem dX7_peak_4 : decode cX7_peak 4 = .ok (.ifCond .ne 5, 3) := by decide +kernel
theorem dX7_peak_7 : decode cX7_peak 7 = .ok (.iconst 0, 1) := by decide +kernel
theorem dX7_peak_8 : decode cX7_peak 8 = .ok (.ireturn, 1) := by decide +kernel
theorem dX7_peak_9 : decode cX7_peak 9 = .ok (.aload_n 0, 1) := by decide +kernel
theorem dX7_peak_10 : decode cX7_peak 10 = .ok (.iconst 0, 1) := by decide +kernel
theorem dX7_peak_11 : decode cX7_peak 11 = .ok (.invokevirtual 165, 3) := by decide +kernel
theorem dX7_peak_14 : decode cX7_peak 14 = .ok (.astore_n 2, 1) := by decide +kernel
theorem dX7_peak_15 : decode cX7_peak 15 = .ok (.iload_n 1, 1) := by decide +kernel
theorem dX7_peak_16 : decode cX7_peak 16 = .ok (.iconst 0, 1) := by decide +kernel
theorem dX7_peak_17 : decode cX7_peak 17 = .ok (.aload_n 2, 1) := by decide +kernel
theorem dX7_peak_18 : decode cX7_peak 18 = .ok (.arraylength, 1) := by decide +kernel
theorem dX7_peak_19 : decode cX7_peak 19 = .ok (.iconst 1, 1) := by decide +kernel
theorem dX7_peak_20 : decode cX7_peak 20 = .ok (.isub, 1) := by decide +kernel
theorem dX7_peak_21 : decode cX7_peak 21 = .ok (.invokestatic 59, 3) := by decide +kernel
theorem dX7_peak_24 : decode cX7_peak 24 = .ok (.ifCond .ne 9, 3) := by decide +kernel
theorem dX7_peak_27 : decode cX7_peak 27 = .ok (.aload_n 0, 1) := by decide +kernel
theorem dX7_peak_28 : decode cX7_peak 28 = .ok (.iconst 2, 1) := by decide +kernel
theorem dX7_peak_29 : decode cX7_peak 29 = .ok (.invokevirtual 85, 3) := by decide +kernel
theorem dX7_peak_32 : decode cX7_peak 32 = .ok (.ireturn, 1) := by decide +kernel
theorem dX7_peak_33 : decode cX7_peak 33 = .ok (.aload_n 0, 1) := by decide +kernel
theorem dX7_peak_34 : decode cX7_peak 34 = .ok (.iconst 2, 1) := by decide +kernel
theorem dX7_peak_35 : decode cX7_peak 35 = .ok (.invokevirtual 165, 3) := by decide +kernel
theorem dX7_peak_38 : decode cX7_peak 38 = .ok (.astore_n 3, 1) := by decide +kernel
theorem dX7_peak_39 : decode cX7_peak 39 = .ok (.iconst (-1), 1) := by decide +kernel
theorem dX7_peak_40 : decode cX7_peak 40 = .ok (.istore 4, 2) := by decide +kernel
theorem dX7_peak_42 : decode cX7_peak 42 = .ok (.iconst 0, 1) := by decide +kernel
theorem dX7_peak_43 : decode cX7_peak 43 = .ok (.istore 5, 2) := by decide +kernel
theorem dX7_peak_45 : decode cX7_peak 45 = .ok (.iconst 0, 1) := by decide +kernel
theorem dX7_peak_46 : decode cX7_peak 46 = .ok (.istore 6, 2) := by decide +kernel
theorem dX7_peak_48 : decode cX7_peak 48 = .ok (.iload 6, 2) := by decide +kernel
theorem dX7_peak_50 : decode cX7_peak 50 = .ok (.aload_n 3, 1) := by decide +kernel
theorem dX7_peak_51 : decode cX7_peak 51 = .ok (.arraylength, 1) := by decide +kernel
theorem dX7_peak_52 : decode cX7_peak 52 = .ok (.if_icmp .ge 46, 3) := by decide +kernel
theorem dX7_peak_55 : decode cX7_peak 55 = .ok (.aload_n 0, 1) := by decide +kernel
theorem dX7_peak_56 : decode cX7_peak 56 = .ok (.aload_n 2, 1) := by decide +kernel
theorem dX7_peak_57 : decode cX7_peak 57 = .ok (.iload_n 1, 1) := by decide +kernel
theorem dX7_peak_58 : decode cX7_peak 58 = .ok (.iaload, 1) := by decide +kernel
theorem dX7_peak_59 : decode cX7_peak 59 = .ok (.aload_n 3, 1) := by decide +kernel
theorem dX7_peak_60 : decode cX7_peak 60 = .ok (.iload 6, 2) := by decide +kernel
theorem dX7_peak_62 : decode cX7_peak 62 = .ok (.iaload, 1) := by decide +kernel
theorem dX7_peak_63 : decode cX7_peak 63 = .ok (.invokevirtual 187, 3) := by decide +kernel
theorem dX7_peak_66 : decode cX7_peak 66 = .ok (.istore 7, 2) := by decide +kernel
theorem dX7_peak_68 : decode cX7_peak 68 = .ok (.iload 4, 2) := by decide +kernel
theorem dX7_peak_70 : decode cX7_peak 70 = .ok (.iconst (-1), 1) := by decide +kernel
theorem dX7_peak_71 : decode cX7_peak 71 = .ok (.if_icmp .eq 13, 3) := by decide +kernel
theorem dX7_peak_74 : decode cX7_peak 74 = .ok (.iload 7, 2) := by decide +kernel
theorem dX7_peak_76 : decode cX7_peak 76 = .ok (.iload 5, 2) := by decide +kernel
theorem dX7_peak_78 : decode cX7_peak 78 = .ok (.if_icmp .gt 6, 3) := by decide +kernel
theorem dX7_peak_81 : decode cX7_peak 81 = .ok (.goto 11, 3) := by decide +kernel
theorem dX7_peak_84 : decode cX7_peak 84 = .ok (.iload 6, 2) := by decide +kernel
theorem dX7_peak_86 : decode cX7_peak 86 = .ok (.istore 4, 2) := by decide +kernel
theorem dX7_peak_88 : decode cX7_peak 88 = .ok (.iload 7, 2) := by decide +kernel
theorem dX7_peak_90 : decode cX7_peak 90 = .ok (.istore 5, 2) := by decide +kernel
theorem dX7_peak_92 : decode cX7_peak 92 = .ok (.iinc 6 1, 3) := by decide +kernel
theorem dX7_peak_95 : decode cX7_peak 95 = .ok (.goto (-47), 3) := by decide +kernel
theorem dX7_peak_98 : decode cX7_peak 98 = .ok (.iload 4, 2) := by decide +kernel
theorem dX7_peak_100 : decode cX7_peak 100 = .ok (.ireturn, 1) := by decide +kernel
/-! by program: wip/whole/gen.py out of wip/whole/src/41.table.eb -/
/-! EbbTableModel: the calls about a table -/
set_option maxRecDepth 100000 in
set_option maxHeartbeats 8000000 in
theorem c_X7_rows {l : Launch} {D : va_G} {cys : Nat → ClassId} {ad : Nat → Int → Nat} {L : List Nat} {g : Nat → va_E} {X : Int64} {Z : ZT} (hi : injA ad) {S : ZT} (hS : RMZ S Z) (hRL : RML cys ad S L g) (hW : WF S) : CM l D cys ad yX7_rows cX7_rows 1 (some .int) 9 232 51 1224 [.ref (ad 24 0)] L g X Z (PGI L g X Z (fun r L9 g9 X9 Z9 => ((S 0 0 7 = 1 ∧ r = (LN S 0).length ∧ MTH 0 Z Z9) ∨ (S 0 0 7 ≠ 1 ∧ r = 0 ∧ MTH 1 Z Z9)) ∧ EXT L g L9 g9 ∧ X9 = X)) := by
  refine cm_start hi (by decide +kernel) (Nat.le_of_ble_eq_true rfl) ?_
  intro p_ e_ s_ m_ args_ below_ meth_ c_ A_ Q_ hQ G hr hin
  refine j_aload_n G dX7_rows_0 rfl ?_
  refine j_cVIZ G cvX7_canLay ml7_180 (c_X7_canLay hi hS hW) dX7_rows_1 ⟨by decide, by decide⟩ (by first | exact ⟨by decide, by decide⟩ | (constructor <;> dsimp only <;> omega)) rfl rfl (Nat.le_of_ble_eq_true rfl) (by first | assumption | decide) rfl rfl rfl (fun r1 Z1 h1 => ?_)
  have h1r : (r1 = 1 ∧ S 0 0 7 = 1 ∧ Z1 = zS Z 24 0 0 0) ∨ (r1 = 0 ∧ S 0 0 7 ≠ 1 ∧ Z1 = zS Z 24 0 0 1) := by
    rcases h1 with z | z
    · exact Or.inl ⟨z.2.1, z.1, z.2.2⟩
    · exact Or.inr ⟨z.2.1, z.1, z.2.2⟩
  clear h1
  refine j_if_eq G 16 dX7_rows_4 (by decide) (by omega) (fun c4 => ?_) (fun c4 => ?_)
  · refine j_iconst G dX7_rows_16 ?_
    refine jr_GI G hQ hr dX7_rows_17 (by first | decide | omega) (by first | decide | omega) ?_
    first
    | exact ⟨Or.inl ⟨ha, (by first | rfl | trivial), rfl⟩, p3, (by first | rfl | trivial)⟩
    | (rcases h1r with z | z
       · exfalso; omega
       · exact ⟨Or.inr ⟨z.2.1, by first | rfl | trivial, z.2.2⟩, EXT.rf _ _, by first | rfl | trivial⟩)
  · have ha : S 0 0 7 = 1 := by omega
    have hm : Z1 = zS Z 24 0 0 0 := h1r.elim (fun z => z.2.2) (fun z => absurd ha z.2.1)
    subst hm
    have hS1 := hS.th 0
    have hl0 := LN_ok hW ha (i := 0) (by omega) (by omega)
    have hl1 := LN_ok hW ha (i := 1) (by omega) (by omega)
    have hq : ((0 : Int) = 0 ∧ (0 : Int) = 0 ∧ (1 : Int) = 1) ∨ ((0 : Int) = 2 ∧ (0 : Int) = 1 ∧ (1 : Int) = 0) := by decide
    refine j_aload_n G dX7_rows_7 rfl ?_
    refine j_iconst G dX7_rows_8 ?_
    refine j_cVGA G cvX7_lines ml7_165 (c_X7_lines hi hS1 hRL hW ha hq) dX7_rows_9 ⟨by decide, by decide⟩ (by first | exact ⟨by decide, by decide⟩ | (constructor <;> dsimp only <;> omega)) rfl rfl (Nat.le_of_ble_eq_true rfl) (by first | assumption | decide) rfl rfl rfl (fun r9 L9 g9 X9 Z9 h9 => ?_)
    obtain ⟨p1, p2, p3, eX, eZ⟩ := h9
    subst X9 Z9
    refine j_dnA G dX7_rows_12 (by assumption) ?_
    refine j_goto G 17 dX7_rows_13 (by decide) ?_
    refine jr_GI G hQ hr dX7_rows_17 (by first | decide | omega) (by first | decide | omega) ?_
    first
    | exact ⟨Or.inl ⟨ha, (by first | rfl | trivial), rfl⟩, p3, (by first | rfl | trivial)⟩
    | (rcases h1r with z | z
       · exfalso; omega
       · exact ⟨Or.inr ⟨z.2.1, by first | rfl | trivial, z.2.2⟩, EXT.rf _ _, by first | rfl | trivial⟩)
set_option maxRecDepth 100000 in
set_option maxHeartbeats 8000000 in
theorem c_X7_columns {l : Launch} {D : va_G} {cys : Nat → ClassId} {ad : Nat → Int → Nat} {L : List Nat} {g : Nat → va_E} {X : Int64} {Z : ZT} (hi : injA ad) {S : ZT} (hS : RMZ S Z) (hRL : RML cys ad S L g) (hW : WF S) : CM l D cys ad yX7_columns cX7_columns 1 (some .int) 9 232 51 1224 [.ref (ad 24 0)] L g X Z (PGI L g X Z (fun r L9 g9 X9 Z9 => ((S 0 0 7 = 1 ∧ r = (LN S 1).length ∧ MTH 0 Z Z9) ∨ (S 0 0 7 ≠ 1 ∧ r = 0 ∧ MTH 1 Z Z9)) ∧ EXT L g L9 g9 ∧ X9 = X)) := by
  refine cm_start hi (by decide +kernel) (Nat.le_of_ble_eq_true rfl) ?_
  intro p_ e_ s_ m_ args_ below_ meth_ c_ A_ Q_ hQ G hr hin
  refine j_aload_n G dX7_columns_0 rfl ?_
  refine j_cVIZ G cvX7_canLay ml7_180 (c_X7_canLay hi hS hW) dX7_columns_1 ⟨by decide, by decide⟩ (by first | exact ⟨by decide, by decide⟩ | (constructor <;> dsimp only <;> omega)) rfl rfl (Nat.le_of_ble_eq_true rfl) (by first | assumption | decide) rfl rfl rfl (fun r1 Z1 h1 => ?_)
  have h1r : (r1 = 1 ∧ S 0 0 7 = 1 ∧ Z1 = zS Z 24 0 0 0) ∨ (r1 = 0 ∧ S 0 0 7 ≠ 1 ∧ Z1 = zS Z 24 0 0 1) := by
    rcases h1 with z | z
    · exact Or.inl ⟨z.2.1, z.1, z.2.2⟩
    · exact Or.inr ⟨z.2.1, z.1, z.2.2⟩
  clear h1
  refine j_if_eq G 16 dX7_columns_4 (by decide) (by omega) (fun c4 => ?_) (fun c4 => ?_)
  · refine j_iconst G dX7_columns_16 ?_
    refine jr_GI G hQ hr dX7_columns_17 (by first | decide | omega) (by first | decide | omega) ?_
    first
    | exact ⟨Or.inl ⟨ha, (by first | rfl | trivial), rfl⟩, p3, (by first | rfl | trivial)⟩
    | (rcases h1r with z | z
       · exfalso; omega
       · exact ⟨Or.inr ⟨z.2.1, by first | rfl | trivial, z.2.2⟩, EXT.rf _ _, by first | rfl | trivial⟩)
  · have ha : S 0 0 7 = 1 := by omega
    have hm : Z1 = zS Z 24 0 0 0 := h1r.elim (fun z => z.2.2) (fun z => absurd ha z.2.1)
    subst hm
    have hS1 := hS.th 0
    have hl0 := LN_ok hW ha (i := 0) (by omega) (by omega)
    have hl1 := LN_ok hW ha (i := 1) (by omega) (by omega)
    have hq : ((2 : Int) = 0 ∧ (1 : Int) = 0 ∧ (0 : Int) = 1) ∨ ((2 : Int) = 2 ∧ (1 : Int) = 1 ∧ (0 : Int) = 0) := by decide
    refine j_aload_n G dX7_columns_7 rfl ?_
    refine j_iconst G dX7_columns_8 ?_
    refine j_cVGA G cvX7_lines ml7_165 (c_X7_lines hi hS1 hRL hW ha hq) dX7_columns_9 ⟨by decide, by decide⟩ (by first | exact ⟨by decide, by decide⟩ | (constructor <;> dsimp only <;> omega)) rfl rfl (Nat.le_of_ble_eq_true rfl) (by first | assumption | decide) rfl rfl rfl (fun r9 L9 g9 X9 Z9 h9 => ?_)
    obtain ⟨p1, p2, p3, eX, eZ⟩ := h9
    subst X9 Z9
    refine j_dnA G dX7_columns_12 (by assumption) ?_
    refine j_goto G 17 dX7_columns_13 (by decide) ?_
    refine jr_GI G hQ hr dX7_columns_17 (by first | decide | omega) (by first | decide | omega) ?_
    first
    | exact ⟨Or.inl ⟨ha, (by first | rfl | trivial), rfl⟩, p3, (by first | rfl | trivial)⟩
    | (rcases h1r with z | z
       · exfalso; omega
       · exact ⟨Or.inr ⟨z.2.1, by first | rfl | trivial, z.2.2⟩, EXT.rf _ _, by first | rfl | trivial⟩)
set_option maxRecDepth 100000 in
set_option maxHeartbeats 8000000 in
theorem c_X7_line {l : Launch} {D : va_G} {cys : Nat → ClassId} {ad : Nat → Int → Nat} {L : List Nat} {g : Nat → va_E} {X : Int64} {Z : ZT} (hi : injA ad) {S : ZT} {q i o w : Int} (hS : RMZ S Z) (hRL : RML cys ad S L g) (hW : WF S) (hq : (q = 0 ∧ i = 0 ∧ o = 1) ∨ (q = 2 ∧ i = 1 ∧ o = 0)) (hw : inR w) : CM l D cys ad yX7_line cX7_line 3 (some .int) 9 232 102 2448 [.ref (ad 24 0), .int (iI q), .int (iI w)] L g X Z (PGI L g X Z (fun r L9 g9 X9 Z9 => ((S 0 0 7 = 1 ∧ (0 ≤ w ∧ w < (LN S i).length) ∧ r = (LN S i).getD w.toNat 0 ∧ MTH 0 Z Z9) ∨ (S 0 0 7 ≠ 1 ∧ r = 0 ∧ MTH 1 Z Z9) ∨ (S 0 0 7 = 1 ∧ ¬ (0 ≤ w ∧ w < (LN S i).length) ∧ r = 0 ∧ MTH 2 Z Z9)) ∧ EXT L g L9 g9 ∧ X9 = X)) := by
  refine cm_start hi (by decide +kernel) (Nat.le_of_ble_eq_true rfl) ?_
  intro p_ e_ s_ m_ args_ below_ meth_ c_ A_ Q_ hQ G hr hin
  have h0r : inR 0 := by decide
  refine j_aload_n G dX7_line_0 rfl ?_
  refine j_cVIZ G cvX7_canLay ml7_180 (c_X7_canLay hi hS hW) dX7_line_1 ⟨by decide, by decide⟩ (by first | exact ⟨by decide, by decide⟩ | (constructor <;> dsimp only <;> omega)) rfl rfl (Nat.le_of_ble_eq_true rfl) (by first | assumption | decide) rfl rfl rfl (fun r1 Z1 h1 => ?_)
  have h1r : (r1 = 1 ∧ S 0 0 7 = 1 ∧ Z1 = zS Z 24 0 0 0) ∨ (r1 = 0 ∧ S 0 0 7 ≠ 1 ∧ Z1 = zS Z 24 0 0 1) := by
    rcases h1 with z | z
    · exact Or.inl ⟨z.2.1, z.1, z.2.2⟩
    · exact Or.inr ⟨z.2.1, z.1, z.2.2⟩
  clear h1
  refine j_if_ne G 9 dX7_line_4 (by decide) (by omega) (fun c4 => ?_) (fun c4 => ?_)
  · have ha : S 0 0 7 = 1 := by omega
    have hm : Z1 = zS Z 24 0 0 0 := h1r.elim (fun z => z.2.2) (fun z => absurd ha z.2.1)
    subst hm
    have hS1 := hS.th 0
    have hl0 := LN_ok hW ha (i := 0) (by omega) (by omega)
    have hl1 := LN_ok hW ha (i := 1) (by omega) (by omega)
    have hli : (LN S i).length ≤ 24 := by rcases hq with ⟨_, rfl, _⟩ | ⟨_, rfl, _⟩ <;> omega
    refine j_iload_n G dX7_line_9 rfl ?_
    refine j_iconst G dX7_line_10 ?_
    refine j_aload_n G dX7_line_11 rfl ?_
    refine j_iload_n G dX7_line_12 rfl ?_
    refine j_cVGA G cvX7_lines ml7_165 (c_X7_lines hi hS1 hRL hW ha hq) dX7_line_13 ⟨by decide, by decide⟩ (by first | exact ⟨by decide, by decide⟩ | (constructor <;> dsimp only <;> omega)) rfl rfl (Nat.le_of_ble_eq_true rfl) (by first | assumption | decide) rfl rfl rfl (fun r13 L13 g13 X13 Z13 h13 => ?_)
    obtain ⟨p1, p2, p3, eX, eZ⟩ := h13
    subst X13 Z13
    have hRL13 := hRL.ext p3
    have hbr : inR (((LN S i).length : Int) - 1) := by omega
    refine j_dnA G dX7_line_16 (by assumption) ?_
    refine j_iconst G dX7_line_17 ?_
    refine j_isub G dX7_line_18 ?_
    refine j_cSI G csX7_is ml7_59 rfl (c_X7_is hi hw h0r hbr) dX7_line_19 ⟨by decide, by decide⟩ (by first | exact ⟨by decide, by decide⟩ | (constructor <;> dsimp only <;> omega)) rfl rfl (Nat.le_of_ble_eq_true rfl) (fun r19 h19 => ?_)
    refine j_if_eq G 35 dX7_line_22 (by decide) (by omega) (fun c22 => ?_) (fun c22 => ?_)
    · refine j_aload_n G dX7_line_35 rfl ?_
      refine j_iconst G dX7_line_36 ?_
      refine j_cVIZ G cvX7_refuse ml7_85 (c_X7_refuse hi ) dX7_line_37 ⟨by decide, by decide⟩ (by first | exact ⟨by decide, by decide⟩ | (constructor <;> dsimp only <;> omega)) rfl rfl (Nat.le_of_ble_eq_true rfl) (by first | assumption | decide) rfl rfl rfl (fun r37 Z37 h37 => ?_)
      refine jr_GI G hQ hr dX7_line_40 (by first | decide | omega) (by first | decide | omega) ?_
      first
      | exact ⟨Or.inl ⟨ha, by omega, by first | rfl | trivial, rfl⟩, p3.tr s3, by first | rfl | trivial⟩
      | exact ⟨Or.inr (Or.inr ⟨ha, by omega, h37.1, MTH.up h37.2⟩), p3, by first | rfl | trivial⟩
    · refine j_aload_n G dX7_line_25 rfl ?_
      refine j_iload_n G dX7_line_26 rfl ?_
      refine j_cVGA G cvX7_lines ml7_165 (c_X7_lines hi hS1 hRL13 hW ha hq) dX7_line_27 ⟨by decide, by decide⟩ (by first | exact ⟨by decide, by decide⟩ | (constructor <;> dsimp only <;> omega)) rfl rfl (Nat.le_of_ble_eq_true rfl) (by first | assumption | decide) rfl rfl rfl (fun r27 L27 g27 X27 Z27 h27 => ?_)
      obtain ⟨s1, s2, s3, eX, eZ⟩ := h27
      subst X27 Z27
      refine j_iload_n G dX7_line_30 rfl ?_
      refine j_dlA G dX7_line_31 (by assumption) (by first | omega | decide) (by omega) (by omega) ?_
      refine j_goto G 40 dX7_line_32 (by decide) ?_
      refine jr_GI G hQ hr dX7_line_40 (by first | decide | omega) (by first | decide | omega) ?_
      first
      | exact ⟨Or.inl ⟨ha, by omega, by first | rfl | trivial, rfl⟩, p3.tr s3, by first | rfl | trivial⟩
      | exact ⟨Or.inr (Or.inr ⟨ha, by omega, h37.1, MTH.up h37.2⟩), p3, by first | rfl | trivial⟩
  · refine j_iconst G dX7_line_7 ?_
    refine jr_GI G hQ hr dX7_line_8 (by first | decide | omega) (by first | decide | omega) ?_
    first
    | (rcases h1r with z | z
       · exfalso; omega
       · exact ⟨Or.inr (Or.inl ⟨z.2.1, by first | rfl | trivial, z.2.2⟩), EXT.rf _ _, by first | rfl | trivial⟩)
set_option maxRecDepth 100000 in
set_option maxHeartbeats 8000000 in
theorem c_X7_rowMember {l : Launch} {D : va_G} {cys : Nat → ClassId} {ad : Nat → Int → Nat} {L : List Nat} {g : Nat → va_E} {X : Int64} {Z : ZT} (hi : injA ad) {S : ZT} {w : Int} (hS : RMZ S Z) (hRL : RML cys ad S L g) (hW : WF S) (hw : inR w) : CM l D cys ad yX7_rowMember cX7_rowMember 2 (some .int) 10 254 102 2448 [.ref (ad 24 0), .int (iI w)] L g X Z (PGI L g X Z (fun r L9 g9 X9 Z9 => ((S 0 0 7 = 1 ∧ (0 ≤ w ∧ w < (LN S 0).length) ∧ r = (LN S 0).getD w.toNat 0 ∧ MTH 0 Z Z9) ∨ (S 0 0 7 ≠ 1 ∧ r = 0 ∧ MTH 1 Z Z9) ∨ (S 0 0 7 = 1 ∧ ¬ (0 ≤ w ∧ w < (LN S 0).length) ∧ r = 0 ∧ MTH 2 Z Z9)) ∧ EXT L g L9 g9 ∧ X9 = X)) := by
  refine cm_start hi (by decide +kernel) (Nat.le_of_ble_eq_true rfl) ?_
  intro p_ e_ s_ m_ args_ below_ meth_ c_ A_ Q_ hQ G hr hin
  have hq : ((0 : Int) = 0 ∧ (0 : Int) = 0 ∧ (1 : Int) = 1) ∨ ((0 : Int) = 2 ∧ (0 : Int) = 1 ∧ (1 : Int) = 0) := by decide
  refine j_aload_n G dX7_rowMember_0 rfl ?_
  refine j_iconst G dX7_rowMember_1 ?_
  refine j_iload_n G dX7_rowMember_2 rfl ?_
  refine j_cVGI G cvX7_line ml7_184 (c_X7_line hi hS hRL hW hq hw) dX7_rowMember_3 ⟨by decide, by decide⟩ (by first | exact ⟨by decide, by decide⟩ | (constructor <;> dsimp only <;> omega)) rfl rfl (Nat.le_of_ble_eq_true rfl) (by first | assumption | decide) rfl rfl rfl (fun r3 L3 g3 X3 Z3 h3 => ?_)
  refine jr_GI G hQ hr dX7_rowMember_6 (by first | decide | omega) (by first | decide | omega) ?_
  exact h3
set_option maxRecDepth 100000 in
set_option maxHeartbeats 8000000 in
theorem c_X7_columnMember {l : Launch} {D : va_G} {cys : Nat → ClassId} {ad : Nat → Int → Nat} {L : List Nat} {g : Nat → va_E} {X : Int64} {Z : ZT} (hi : injA ad) {S : ZT} {w : Int} (hS : RMZ S Z) (hRL : RML cys ad S L g) (hW : WF S) (hw : inR w) : CM l D cys ad yX7_columnMember cX7_columnMember 2 (some .int) 10 254 102 2448 [.ref (ad 24 0), .int (iI w)] L g X Z (PGI L g X Z (fun r L9 g9 X9 Z9 => ((S 0 0 7 = 1 ∧ (0 ≤ w ∧ w < (LN S 1).length) ∧ r = (LN S 1).getD w.toNat 0 ∧ MTH 0 Z Z9) ∨ (S 0 0 7 ≠ 1 ∧ r = 0 ∧ MTH 1 Z Z9) ∨ (S 0 0 7 = 1 ∧ ¬ (0 ≤ w ∧ w < (LN S 1).length) ∧ r = 0 ∧ MTH 2 Z Z9)) ∧ EXT L g L9 g9 ∧ X9 = X)) := by
  refine cm_start hi (by decide +kernel) (Nat.le_of_ble_eq_true rfl) ?_
  intro p_ e_ s_ m_ args_ below_ meth_ c_ A_ Q_ hQ G hr hin
  have hq : ((2 : Int) = 0 ∧ (1 : Int) = 0 ∧ (0 : Int) = 1) ∨ ((2 : Int) = 2 ∧ (1 : Int) = 1 ∧ (0 : Int) = 0) := by decide
  refine j_aload_n G dX7_columnMember_0 rfl ?_
  refine j_iconst G dX7_columnMember_1 ?_
  refine j_iload_n G dX7_columnMember_2 rfl ?_
  refine j_cVGI G cvX7_line ml7_184 (c_X7_line hi hS hRL hW hq hw) dX7_columnMember_3 ⟨by decide, by decide⟩ (by first | exact ⟨by decide, by decide⟩ | (constructor <;> dsimp only <;> omega)) rfl rfl (Nat.le_of_ble_eq_true rfl) (by first | assumption | decide) rfl rfl rfl (fun r3 L3 g3 X3 Z3 h3 => ?_)
  refine jr_GI G hQ hr dX7_columnMember_6 (by first | decide | omega) (by first | decide | omega) ?_
  exact h3
set_option maxRecDepth 100000 in
set_option maxHeartbeats 8000000 in
theorem c_X7_cell {l : Launch} {D : va_G} {cys : Nat → ClassId} {ad : Nat → Int → Nat} {L : List Nat} {g : Nat → va_E} {X : Int64} {Z : ZT} (hi : injA ad) {S : ZT} {q w : Int} (hS : RMZ S Z) (hRL : RML cys ad S L g) (hW : WF S) (hq : inR q) (hw : inR w) : CM l D cys ad yX7_cell cX7_cell 5 (some .int) 9 232 102 2448 [.ref (ad 24 0), .int (iI q), .int (iI w)] L g X Z (PGI L g X Z (fun r L9 g9 X9 Z9 => ((S 0 0 7 = 1 ∧ (0 ≤ q ∧ q < (LN S 0).length ∧ 0 ≤ w ∧ w < (LN S 1).length) ∧ r = tsum S ((LN S 0).getD q.toNat 0) ((LN S 1).getD w.toNat 0) ∧ MTH 0 Z Z9) ∨ (S 0 0 7 ≠ 1 ∧ r = 0 ∧ MTH 1 Z Z9) ∨ (S 0 0 7 = 1 ∧ ¬ (0 ≤ q ∧ q < (LN S 0).length ∧ 0 ≤ w ∧ w < (LN S 1).length) ∧ r = 0 ∧ MTH 2 Z Z9)) ∧ EXT L g L9 g9 ∧ X9 = X)) := by
  refine cm_start hi (by decide +kernel) (Nat.le_of_ble_eq_true rfl) ?_
  intro p_ e_ s_ m_ args_ below_ meth_ c_ A_ Q_ hQ G hr hin
  have h0r : inR 0 := by decide
  refine j_aload_n G dX7_cell_0 rfl ?_
  refine j_cVIZ G cvX7_canLay ml7_180 (c_X7_canLay hi hS hW) dX7_cell_1 ⟨by decide, by decide⟩ (by first | exact ⟨by decide, by decide⟩ | (constructor <;> dsimp only <;> omega)) rfl rfl (Nat.le_of_ble_eq_true rfl) (by first | assumption | decide) rfl rfl rfl (fun r1 Z1 h1 => ?_)
  have h1r : (r1 = 1 ∧ S 0 0 7 = 1 ∧ Z1 = zS Z 24 0 0 0) ∨ (r1 = 0 ∧ S 0 0 7 ≠ 1 ∧ Z1 = zS Z 24 0 0 1) := by
    rcases h1 with z | z
    · exact Or.inl ⟨z.2.1, z.1, z.2.2⟩
    · exact Or.inr ⟨z.2.1, z.1, z.2.2⟩
  clear h1
  refine j_if_ne G 9 dX7_cell_4 (by decide) (by omega) (fun c4 => ?_) (fun c4 => ?_)
  · have ha : S 0 0 7 = 1 := by omega
    have hm : Z1 = zS Z 24 0 0 0 := h1r.elim (fun z => z.2.2) (fun z => absurd ha z.2.1)
    subst hm
    have hS1 := hS.th 0
    have hl0 := LN_ok hW ha (i := 0) (by omega) (by omega)
    have hl1 := LN_ok hW ha (i := 1) (by omega) (by omega)
    have hq0 : ((0 : Int) = 0 ∧ (0 : Int) = 0 ∧ (1 : Int) = 1) ∨ ((0 : Int) = 2 ∧ (0 : Int) = 1 ∧ (1 : Int) = 0) := by decide
    have hq2 : ((2 : Int) = 0 ∧ (1 : Int) = 0 ∧ (0 : Int) = 1) ∨ ((2 : Int) = 2 ∧ (1 : Int) = 1 ∧ (0 : Int) = 0) := by decide
    refine j_aload_n G dX7_cell_9 rfl ?_
    refine j_iconst G dX7_cell_10 ?_
    refine j_cVGA G cvX7_lines ml7_165 (c_X7_lines hi hS1 hRL hW ha hq0) dX7_cell_11 ⟨by decide, by decide⟩ (by first | exact ⟨by decide, by decide⟩ | (constructor <;> dsimp only <;> omega)) rfl rfl (Nat.le_of_ble_eq_true rfl) (by first | assumption | decide) rfl rfl rfl (fun r11 L11 g11 X11 Z11 h11 => ?_)
    obtain ⟨p1, p2, p3, eX, eZ⟩ := h11
    subst X11 Z11
    have hRL11 := hRL.ext p3
    refine j_astore_n G dX7_cell_14 (by decide) rfl ?_
    refine j_aload_n G dX7_cell_15 rfl ?_
    refine j_iconst G dX7_cell_16 ?_
    refine j_cVGA G cvX7_lines ml7_165 (c_X7_lines hi hS1 hRL11 hW ha hq2) dX7_cell_17 ⟨by decide, by decide⟩ (by first | exact ⟨by decide, by decide⟩ | (constructor <;> dsimp only <;> omega)) rfl rfl (Nat.le_of_ble_eq_true rfl) (by first | assumption | decide) rfl rfl rfl (fun r17 L17 g17 X17 Z17 h17 => ?_)
    obtain ⟨s1, s2, s3, eX, eZ⟩ := h17
    subst X17 Z17
    have hRL17 := hRL11.ext s3
    have p2' := p2.ext s3
    have hbr0 : inR (((LN S 0).length : Int) - 1) := by omega
    have hbr1 : inR (((LN S 1).length : Int) - 1) := by omega
    refine j_astore G dX7_cell_20 (by decide) rfl ?_
    refine j_iload_n G dX7_cell_22 rfl ?_
    refine j_iconst G dX7_cell_23 ?_
    refine j_aload_n G dX7_cell_24 rfl ?_
    refine j_dnA G dX7_cell_25 p2' ?_
    refine j_iconst G dX7_cell_26 ?_
    refine j_isub G dX7_cell_27 ?_
    refine j_cSI G csX7_is ml7_59 rfl (c_X7_is hi hq h0r hbr0) dX7_cell_28 ⟨by decide, by decide⟩ (by first | exact ⟨by decide, by decide⟩ | (constructor <;> dsimp only <;> omega)) rfl rfl (Nat.le_of_ble_eq_true rfl) (fun r28 h28 => ?_)
    refine j_if_eq G 61 dX7_cell_31 (by decide) (by omega) (fun c31 => ?_) (fun c31 => ?_)
    · refine j_aload_n G dX7_cell_61 rfl ?_
      refine j_iconst G dX7_cell_62 ?_
      refine j_cVIZ G cvX7_refuse ml7_85 (c_X7_refuse hi ) dX7_cell_63 ⟨by decide, by decide⟩ (by first | exact ⟨by decide, by decide⟩ | (constructor <;> dsimp only <;> omega)) rfl rfl (Nat.le_of_ble_eq_true rfl) (by first | assumption | decide) rfl rfl rfl (fun r63 Z63 h63 => ?_)
      refine jr_GI G hQ hr dX7_cell_66 (by first | decide | omega) (by first | decide | omega) ?_
      first
      | exact ⟨Or.inl ⟨ha, hqw, h55, rfl⟩, p3.tr s3, by first | rfl | trivial⟩
      | exact ⟨Or.inr (Or.inr ⟨ha, by omega, h63.1, MTH.up h63.2⟩), p3.tr s3, by first | rfl | trivial⟩
    · refine j_iload_n G dX7_cell_34 rfl ?_
      refine j_iconst G dX7_cell_35 ?_
      refine j_aload G dX7_cell_36 rfl ?_
      refine j_dnA G dX7_cell_38 s2 ?_
      refine j_iconst G dX7_cell_39 ?_
      refine j_isub G dX7_cell_40 ?_
      refine j_cSI G csX7_is ml7_59 rfl (c_X7_is hi hw h0r hbr1) dX7_cell_41 ⟨by decide, by decide⟩ (by first | exact ⟨by decide, by decide⟩ | (constructor <;> dsimp only <;> omega)) rfl rfl (Nat.le_of_ble_eq_true rfl) (fun r41 h41 => ?_)
      refine j_if_eq G 61 dX7_cell_44 (by decide) (by omega) (fun c44 => ?_) (fun c44 => ?_)
      · refine j_aload_n G dX7_cell_61 rfl ?_
        refine j_iconst G dX7_cell_62 ?_
        refine j_cVIZ G cvX7_refuse ml7_85 (c_X7_refuse hi ) dX7_cell_63 ⟨by decide, by decide⟩ (by first | exact ⟨by decide, by decide⟩ | (constructor <;> dsimp only <;> omega)) rfl rfl (Nat.le_of_ble_eq_true rfl) (by first | assumption | decide) rfl rfl rfl (fun r63 Z63 h63 => ?_)
        refine jr_GI G hQ hr dX7_cell_66 (by first | decide | omega) (by first | decide | omega) ?_
        first
        | exact ⟨Or.inl ⟨ha, hqw, h55, rfl⟩, p3.tr s3, by first | rfl | trivial⟩
        | exact ⟨Or.inr (Or.inr ⟨ha, by omega, h63.1, MTH.up h63.2⟩), p3.tr s3, by first | rfl | trivial⟩
      · have hqw : 0 ≤ q ∧ q < (LN S 0).length ∧ 0 ≤ w ∧ w < (LN S 1).length := by omega
        have hm0 := hl0.2 _ (getD_mem (W := LN S 0) hqw.1 hqw.2.1)
        have hm1 := hl1.2 _ (getD_mem (W := LN S 1) hqw.2.2.1 hqw.2.2.2)
        refine j_aload_n G dX7_cell_47 rfl ?_
        refine j_aload_n G dX7_cell_48 rfl ?_
        refine j_iload_n G dX7_cell_49 rfl ?_
        refine j_dlA G dX7_cell_50 p2' (by first | omega | decide) (by omega) (by omega) ?_
        refine j_aload G dX7_cell_51 rfl ?_
        refine j_iload_n G dX7_cell_53 rfl ?_
        refine j_dlA G dX7_cell_54 s2 (by first | omega | decide) (by omega) (by omega) ?_
        refine j_cVI G cvX7_cellOf ml7_187 (c_X7_cellOf hi hS1 hRL17 hW ha hm0 hm1) dX7_cell_55 ⟨by decide, by decide⟩ (by first | exact ⟨by decide, by decide⟩ | (constructor <;> dsimp only <;> omega)) rfl rfl (Nat.le_of_ble_eq_true rfl) (by first | assumption | decide) rfl rfl rfl (fun r55 h55 => ?_)
        refine j_goto G 66 dX7_cell_58 (by decide) ?_
        refine jr_GI G hQ hr dX7_cell_66 (by first | decide | omega) (by first | decide | omega) ?_
        first
        | exact ⟨Or.inl ⟨ha, hqw, h55, rfl⟩, p3.tr s3, by first | rfl | trivial⟩
        | exact ⟨Or.inr (Or.inr ⟨ha, by omega, h63.1, MTH.up h63.2⟩), p3.tr s3, by first | rfl | trivial⟩
  · refine j_iconst G dX7_cell_7 ?_
    refine jr_GI G hQ hr dX7_cell_8 (by first | decide | omega) (by first | decide | omega) ?_
    first
    | (rcases h1r with z | z
       · exfalso; omega
       · exact ⟨Or.inr (Or.inl ⟨z.2.1, by first | rfl | trivial, z.2.2⟩), EXT.rf _ _, by first | rfl | trivial⟩)
set_option maxRecDepth 100000 in
set_option maxHeartbeats 8000000 in
theorem c_X7_peak {l : Launch} {D : va_G} {cys : Nat → ClassId} {ad : Nat → Int → Nat} {L : List Nat} {g : Nat → va_E} {X : Int64} {Z : ZT} (hi : injA ad) {S : ZT} {q : Int} (hS : RMZ S Z) (hRL : RML cys ad S L g) (hW : WF S) (hq : inR q) : CM l D cys ad yX7_peak cX7_peak 8 (some .int) 9 232 102 2448 [.ref (ad 24 0), .int (iI q)] L g X Z (PGI L g X Z (fun r L9 g9 X9 Z9 => ((S 0 0 7 = 1 ∧ (0 ≤ q ∧ q < (LN S 0).length) ∧ r = pkF (fun w => tsum S ((LN S 0).getD q.toNat 0) ((LN S 1).getD w.toNat 0)) (LN S 1).length ∧ MTH 0 Z Z9) ∨ (S 0 0 7 ≠ 1 ∧ r = 0 ∧ MTH 1 Z Z9) ∨ (S 0 0 7 = 1 ∧ ¬ (0 ≤ q ∧ q < (LN S 0).length) ∧ r = 0 ∧ MTH 2 Z Z9)) ∧ EXT L g L9 g9 ∧ X9 = X)) := by
  refine cm_start hi (by decide +kernel) (Nat.le_of_ble_eq_true rfl) ?_
  intro p_ e_ s_ m_ args_ below_ meth_ c_ A_ Q_ hQ G hr hin
  have h0r : inR 0 := by decide
  refine j_aload_n G dX7_peak_0 rfl ?_
  refine j_cVIZ G cvX7_canLay ml7_180 (c_X7_canLay hi hS hW) dX7_peak_1 ⟨by decide, by decide⟩ (by first | exact ⟨by decide, by decide⟩ | (constructor <;> dsimp only <;> omega)) rfl rfl (Nat.le_of_ble_eq_true rfl) (by first | assumption | decide) rfl rfl rfl (fun r1 Z1 h1 => ?_)
  have h1r : (r1 = 1 ∧ S 0 0 7 = 1 ∧ Z1 = zS Z 24 0 0 0) ∨ (r1 = 0 ∧ S 0 0 7 ≠ 1 ∧ Z1 = zS Z 24 0 0 1) := by
    rcases h1 with z | z
    · exact Or.inl ⟨z.2.1, z.1, z.2.2⟩
    · exact Or.inr ⟨z.2.1, z.1, z.2.2⟩
  clear h1
  refine j_if_ne G 9 dX7_peak_4 (by decide) (by omega) (fun c4 => ?_) (fun c4 => ?_)
  · have ha : S 0 0 7 = 1 := by omega
    have hm : Z1 = zS Z 24 0 0 0 := h1r.elim (fun z => z.2.2) (fun z => absurd ha z.2.1)
    subst hm
    have hS1 := hS.th 0
    have hl0 := LN_ok hW ha (i := 0) (by omega) (by omega)
    have hl1 := LN_ok hW ha (i := 1) (by omega) (by omega)
    have hq0 : ((0 : Int) = 0 ∧ (0 : Int) = 0 ∧ (1 : Int) = 1) ∨ ((0 : Int) = 2 ∧ (0 : Int) = 1 ∧ (1 : Int) = 0) := by decide
    have hq2 : ((2 : Int) = 0 ∧ (1 : Int) = 0 ∧ (0 : Int) = 1) ∨ ((2 : Int) = 2 ∧ (1 : Int) = 1 ∧ (0 : Int) = 0) := by decide
    refine j_aload_n G dX7_peak_9 rfl ?_
    refine j_iconst G dX7_peak_10 ?_
    refine j_cVGA G cvX7_lines ml7_165 (c_X7_lines hi hS1 hRL hW ha hq0) dX7_peak_11 ⟨by decide, by decide⟩ (by first | exact ⟨by decide, by decide⟩ | (constructor <;> dsimp only <;> omega)) rfl rfl (Nat.le_of_ble_eq_true rfl) (by first | assumption | decide) rfl rfl rfl (fun r11 L11 g11 X11 Z11 h11 => ?_)
    obtain ⟨p1, p2, p3, eX, eZ⟩ := h11
    subst X11 Z11
    have hRL11 := hRL.ext p3
    have hbr0 : inR (((LN S 0).length : Int) - 1) := by omega
    refine j_astore_n G dX7_peak_14 (by decide) rfl ?_
    refine j_iload_n G dX7_peak_15 rfl ?_
    refine j_iconst G dX7_peak_16 ?_
    refine j_aload_n G dX7_peak_17 rfl ?_
    refine j_dnA G dX7_peak_18 p2 ?_
    refine j_iconst G dX7_peak_19 ?_
    refine j_isub G dX7_peak_20 ?_
    refine j_cSI G csX7_is ml7_59 rfl (c_X7_is hi hq h0r hbr0) dX7_peak_21 ⟨by decide, by decide⟩ (by first | exact ⟨by decide, by decide⟩ | (constructor <;> dsimp only <;> omega)) rfl rfl (Nat.le_of_ble_eq_true rfl) (fun r21 h21 => ?_)
    refine j_if_ne G 33 dX7_peak_24 (by decide) (by omega) (fun c24 => ?_) (fun c24 => ?_)
    · have hqq : 0 ≤ q ∧ q < (LN S 0).length := by omega
      have hm0 := hl0.2 _ (getD_mem (W := LN S 0) hqq.1 hqq.2)
      refine j_aload_n G dX7_peak_33 rfl ?_
      refine j_iconst G dX7_peak_34 ?_
      refine j_cVGA G cvX7_lines ml7_165 (c_X7_lines hi hS1 hRL11 hW ha hq2) dX7_peak_35 ⟨by decide, by decide⟩ (by first | exact ⟨by decide, by decide⟩ | (constructor <;> dsimp only <;> omega)) rfl rfl (Nat.le_of_ble_eq_true rfl) (by first | assumption | decide) rfl rfl rfl (fun r35 L35 g35 X35 Z35 h35 => ?_)
      obtain ⟨s1, s2, s3, eX, eZ⟩ := h35
      subst X35 Z35
      have hRL35 := hRL11.ext s3
      have p2' := p2.ext s3
      refine j_astore_n G dX7_peak_38 (by decide) rfl ?_
      refine j_iconst G dX7_peak_39 ?_
      refine j_istore G dX7_peak_40 (by decide) rfl ?_
      refine j_iconst G dX7_peak_42 ?_
      refine j_istore G dX7_peak_43 (by decide) rfl ?_
      refine j_iconst G dX7_peak_45 ?_
      refine j_istore G dX7_peak_46 (by decide) rfl ?_
      have loop : ∀ (n : Nat) (a b h : Int), 0 ≤ a → a ≤ (LN S 1).length → ((LN S 1).length - a).toNat = n → b = pkF (fun w => tsum S ((LN S 0).getD q.toNat 0) ((LN S 1).getD w.toNat 0)) a.toNat → (b ≠ -1 → h = tsum S ((LN S 0).getD q.toNat 0) ((LN S 1).getD b.toNat 0)) → inR h → JJ p_ l e_ { frames := 9, cells := 102, slots := 2448, locals := 232 } s_ m_ args_ below_ meth_ c_ D cys ad A_ Q_ 8 102 2448 L35 g35 X (zS Z 24 0 0 0) 48 [(0, .ref (ad 24 0)), (1, .int (iI q)), (2, .ref r11), (3, .ref r35), (4, .int (iI b)), (5, .int (iI h)), (6, .int (iI a))] [] := by
        intro n
        induction n with
        | zero =>
          intro a b h h0 h1 h2 h3 h4 h5
          have ea : a = (LN S 1).length := by omega
          subst ea
          refine j_iload G dX7_peak_48 rfl ?_
          refine j_aload_n G dX7_peak_50 rfl ?_
          refine j_dnA G dX7_peak_51 s2 ?_
          refine j_icmp_ge G 98 dX7_peak_52 (by decide) (by omega) (by omega) (fun c52 => ?_) (fun c52 => ?_)
          · refine j_iload G dX7_peak_98 rfl ?_
            refine jr_GI G hQ hr dX7_peak_100 (by first | decide | omega) (by first | decide | omega) ?_
            exact ⟨Or.inl ⟨ha, hqq, h3, rfl⟩, p3.tr s3, by first | rfl | trivial⟩
          · exfalso; omega
        | succ n ih =>
          intro a b h h0 h1 h2 h3 h4 h5
          have hpk := pkF_in (fun w => tsum S ((LN S 0).getD q.toNat 0) ((LN S 1).getD w.toNat 0)) a.toNat
          have hps := pkF_s (f := (fun w => tsum S ((LN S 0).getD q.toNat 0) ((LN S 1).getD w.toNat 0))) h0
          rw [← h3] at hpk hps
          have hbi : inR b := by omega
          have hm1 := hl1.2 _ (getD_mem (W := LN S 1) h0 (by omega))
          have htb := tsum_bd hW ((LN S 0).getD q.toNat 0) ((LN S 1).getD a.toNat 0)
          have hh1 : 0 ≤ a + 1 := by omega
          have hh2 : a + 1 ≤ (LN S 1).length := by omega
          have hh3 : ((LN S 1).length - (a + 1)).toNat = n := by omega
          refine j_iload G dX7_peak_48 rfl ?_
          refine j_aload_n G dX7_peak_50 rfl ?_
          refine j_dnA G dX7_peak_51 s2 ?_
          refine j_icmp_ge G 98 dX7_peak_52 (by decide) (by omega) (by omega) (fun c52 => ?_) (fun c52 => ?_)
          · exfalso; omega
          · refine j_aload_n G dX7_peak_55 rfl ?_
            refine j_aload_n G dX7_peak_56 rfl ?_
            refine j_iload_n G dX7_peak_57 rfl ?_
            refine j_dlA G dX7_peak_58 p2' (by first | omega | decide) (by omega) (by omega) ?_
            refine j_aload_n G dX7_peak_59 rfl ?_
            refine j_iload G dX7_peak_60 rfl ?_
            refine j_dlA G dX7_peak_62 s2 (by first | omega | decide) (by omega) (by omega) ?_
            refine j_cVI G cvX7_cellOf ml7_187 (c_X7_cellOf hi hS1 hRL35 hW ha hm0 hm1) dX7_peak_63 ⟨by decide, by decide⟩ (by first | exact ⟨by decide, by decide⟩ | (constructor <;> dsimp only <;> omega)) rfl rfl (Nat.le_of_ble_eq_true rfl) (by first | assumption | decide) rfl rfl rfl (fun r63 h63 => ?_)
            subst h63
            refine j_istore G dX7_peak_66 (by decide) rfl ?_
            refine j_iload G dX7_peak_68 rfl ?_
            refine j_iconst G dX7_peak_70 ?_
            refine j_icmp_eq G 84 dX7_peak_71 (by decide) (by omega) (by omega) (fun c71 => ?_) (fun c71 => ?_)
            · refine j_iload G dX7_peak_84 rfl ?_
              refine j_istore G dX7_peak_86 (by decide) rfl ?_
              refine j_iload G dX7_peak_88 rfl ?_
              refine j_istore G dX7_peak_90 (by decide) rfl ?_
              refine j_iinc G dX7_peak_92 rfl (by decide) rfl ?_
              refine j_goto G 48 dX7_peak_95 (by decide) ?_
              refine j_keep [0, 1, 2, 3, 4, 5, 6] ?_
              first
              | (refine ih (a + 1) a _ hh1 hh2 hh3 ?_ (fun _ => rfl) (by omega)
                 rw [hps, if_pos]
                 first
                 | exact Or.inl (by assumption)
                 | (refine Or.inr ?_
                    have h4' := h4 (by assumption)
                    show tsum _ _ _ < tsum _ _ _
                    omega))
              | (refine ih (a + 1) b h hh1 hh2 hh3 ?_ h4 h5
                 rw [hps, if_neg]
                 have h4' := h4 (by assumption)
                 rintro (z | z)
                 · omega
                 · have z : tsum S ((LN S 0).getD q.toNat 0) ((LN S 1).getD b.toNat 0) < tsum S ((LN S 0).getD q.toNat 0) ((LN S 1).getD a.toNat 0) := z
                   omega)
            · refine j_iload G dX7_peak_74 rfl ?_
              refine j_iload G dX7_peak_76 rfl ?_
              refine j_icmp_gt G 84 dX7_peak_78 (by decide) (by omega) (by omega) (fun c78 => ?_) (fun c78 => ?_)
              · refine j_iload G dX7_peak_84 rfl ?_
                refine j_istore G dX7_peak_86 (by decide) rfl ?_
                refine j_iload G dX7_peak_88 rfl ?_
                refine j_istore G dX7_peak_90 (by decide) rfl ?_
                refine j_iinc G dX7_peak_92 rfl (by decide) rfl ?_
                refine j_goto G 48 dX7_peak_95 (by decide) ?_
                refine j_keep [0, 1, 2, 3, 4, 5, 6] ?_
                first
                | (refine ih (a + 1) a _ hh1 hh2 hh3 ?_ (fun _ => rfl) (by omega)
                   rw [hps, if_pos]
                   first
                   | exact Or.inl (by assumption)
                   | (refine Or.inr ?_
                      have h4' := h4 (by assumption)
                      show tsum _ _ _ < tsum _ _ _
                      omega))
                | (refine ih (a + 1) b h hh1 hh2 hh3 ?_ h4 h5
                   rw [hps, if_neg]
                   have h4' := h4 (by assumption)
                   rintro (z | z)
                   · omega
                   · have z : tsum S ((LN S 0).getD q.toNat 0) ((LN S 1).getD b.toNat 0) < tsum S ((LN S 0).getD q.toNat 0) ((LN S 1).getD a.toNat 0) := z
                     omega)
              · refine j_goto G 92 dX7_peak_81 (by decide) ?_
                refine j_iinc G dX7_peak_92 rfl (by decide) rfl ?_
                refine j_goto G 48 dX7_peak_95 (by decide) ?_
                refine j_keep [0, 1, 2, 3, 4, 5, 6] ?_
                first
                | (refine ih (a + 1) a _ hh1 hh2 hh3 ?_ (fun _ => rfl) (by omega)
                   rw [hps, if_pos]
                   first
                   | exact Or.inl (by assumption)
                   | (refine Or.inr ?_
                      have h4' := h4 (by assumption)
                      show tsum _ _ _ < tsum _ _ _
                      omega))
                | (refine ih (a + 1) b h hh1 hh2 hh3 ?_ h4 h5
                   rw [hps, if_neg]
                   have h4' := h4 (by assumption)
                   rintro (z | z)
                   · omega
                   · have z : tsum S ((LN S 0).getD q.toNat 0) ((LN S 1).getD b.toNat 0) < tsum S ((LN S 0).getD q.toNat 0) ((LN S 1).getD a.toNat 0) := z
                     omega)
      exact loop _ 0 (-1) 0 (by omega) (by omega) rfl rfl (fun z => absurd rfl z) (by decide)
    · refine j_aload_n G dX7_peak_27 rfl ?_
      refine j_iconst G dX7_peak_28 ?_
      refine j_cVIZ G cvX7_refuse ml7_85 (c_X7_refuse hi ) dX7_peak_29 ⟨by decide, by decide⟩ (by first | exact ⟨by decide, by decide⟩ | (constructor <;> dsimp only <;> omega)) rfl rfl (Nat.le_of_ble_eq_true rfl) (by first | assumption | decide) rfl rfl rfl (fun r29 Z29 h29 => ?_)
      refine jr_GI G hQ hr dX7_peak_32 (by first | decide | omega) (by first | decide | omega) ?_
      exact ⟨Or.inr (Or.inr ⟨ha, by omega, h29.1, MTH.up h29.2⟩), p3, by first | rfl | trivial⟩
  · refine j_iconst G dX7_peak_7 ?_
    refine jr_GI G hQ hr dX7_peak_8 (by first | decide | omega) (by first | decide | omega) ?_
    first
    | (rcases h1r with z | z
       · exfalso; omega
       · exact ⟨Or.inr (Or.inl ⟨z.2.1, by first | rfl | trivial, z.2.2⟩), EXT.rf _ _, by first | rfl | trivial⟩)

