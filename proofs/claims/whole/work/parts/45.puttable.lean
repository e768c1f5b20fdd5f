theorem dX7_putTable_0 : decode cX7_putTable 0 = .ok (.aload_n 0, 1) := by decide +kernel
theorem dX7_putTable_1 : decode cX7_putTable 1 = .ok (.iconst 0, 1) := by decide +kernel
theorem dX7_putTable_2 : decode cX7_putTable 2 = .ok (.invokevirtual 165, 3) := by decide +kernel
theorem dX7_putTable_5 : decode cX7_putTable 5 = .ok (.astore_n 1, 1) := by decide +kernel
theorem dX7_putTable_6 : decode cX7_putTable 6 = .ok (.aload_n 0, 1) := by decide +kernel
theorem dX7_putTable_7 : decode cX7_putTable 7 = .ok (.iconst 2, 1) := by decide +kernel
theorem dX7_putTable_8 : decode cX7_putTable 8 = .ok (.invokevirtual 165, 3) := by decide +kernel
theorem dX7_putTable_11 : decode cX7_putTable 11 = .ok (.astore_n 2, 1) := by decide +kernel
theorem dX7_putTable_12 : decode cX7_putTable 12 = .ok (.aload_n 0, 1) := by decide +kernel
theorem dX7_putTable_13 : decode cX7_putTable 13 = .ok (.aload_n 1, 1) := by decide +kernel
theorem dX7_putTable_14 : decode cX7_putTable 14 = .ok (.arraylength, 1) := by decide +kernel
theorem dX7_putTable_15 : decode cX7_putTable 15 = .ok (.invokevirtual 235, 3) := by decide +kernel
theorem dX7_putTable_18 : decode cX7_putTable 18 = .ok (.aload_n 0, 1) := by decide +kernel
theorem dX7_putTable_19 : decode cX7_putTable 19 = .ok (.aload_n 2, 1) := by decide +kernel
theorem dX7_putTable_20 : decode cX7_putTable 20 = .ok (.arraylength, 1) := by decide +kernel
theorem dX7_putTable_21 : decode cX7_putTable 21 = .ok (.invokevirtual 235, 3) := by decide +kernel
theorem dX7_putTable_24 : decode cX7_putTable 24 = .ok (.aload_n 1, 1) := by decide +kernel
theorem dX7_putTable_25 : decode cX7_putTable 25 = .ok (.astore_n 3, 1) := by decide +kernel
theorem dX7_putTable_26 : decode cX7_putTable 26 = .ok (.aload_n 3, 1) := by decide +kernel
theorem dX7_putTable_27 : decode cX7_putTable 27 = .ok (.arraylength, 1) := by decide +kernel
theorem dX7_putTable_28 : decode cX7_putTable 28 = .ok (.istore 4, 2) := by decide +kernel
theorem dX7_putTable_30 : decode cX7_putTable 30 = .ok (.iconst 0, 1) := by decide +kernel
theorem dX7_putTable_31 : decode cX7_putTable 31 = .ok (.istore 5, 2) := by decide +kernel
theorem dX7_putTable_33 : decode cX7_putTable 33 = .ok (.iload 5, 2) := by decide +kernel
theorem dX7_putTable_35 : decode cX7_putTable 35 = .ok (.iload 4, 2) := by decide +kernel
theorem dX7_putTable_37 : decode cX7_putTable 37 = .ok (.if_icmp .ge 21, 3) := by decide +kernel
theorem dX7_putTable_40 : decode cX7_putTable 40 = .ok (.aload_n 3, 1) := by decide +kernel
theorem dX7_putTable_41 : decode cX7_putTable 41 = .ok (.iload 5, 2) := by decide +kernel
theorem dX7_putTable_43 : decode cX7_putTable 43 = .ok (.iaload, 1) := by decide +kernel
theorem dX7_putTable_44 : decode cX7_putTable 44 = .ok (.istore 6, 2) := by decide +kernel
theorem dX7_putTable_46 : decode cX7_putTable 46 = .ok (.aload_n 0, 1) := by decide +kernel
theorem dX7_putTable_47 : decode cX7_putTable 47 = .ok (.iload 6, 2) := by decide +kernel
theorem dX7_putTable_49 : decode cX7_putTable 49 = .ok (.invokevirtual 235, 3) := by decide +kernel
theorem dX7_putTable_52 : decode cX7_putTable 52 = .ok (.iinc 5 1, 3) := by decide +kernel
theorem dX7_putTable_55 : decode cX7_putTable 55 = .ok (.goto (-22), 3) := by decide +kernel
theorem dX7_putTable_58 : decode cX7_putTable 58 = .ok (.aload_n 2, 1) := by decide +kernel
theorem dX7_putTable_59 : decode cX7_putTable 59 = .ok (.astore_n 3, 1) := by decide +kernel
theorem dX7_putTable_60 : decode cX7_putTable 60 = .ok (.aload_n 3, 1) := by decide +kernel
theorem dX7_putTable_61 : decode cX7_putTable 61 = .ok (.arraylength, 1) := by decide +kernel
theorem dX7_putTable_62 : decode cX7_putTable 62 = .ok (.istore 4, 2) := by decide +kernel
theorem dX7_putTable_64 : decode cX7_putTable 64 = .ok (.iconst 0, 1) := by decide +kernel
theorem dX7_putTable_65 : decode cX7_putTable 65 = .ok (.istore 5, 2) := by decide +kernel
theorem dX7_putTable_67 : decode cX7_putTable 67 = .ok (.iload 5, 2) := by decide +kernel
theorem dX7_putTable_69 : decode cX7_putTable 69 = .ok (.iload 4, 2) := by decide +kernel
theorem dX7_putTable_71 : decode cX7_putTable 71 = .ok (.if_icmp .ge 21, 3) := by decide +kernel
theorem dX7_putTable_74 : decode cX7_putTable 74 = .ok (.aload_n 3, 1) := by decide +kernel
theorem dX7_putTable_75 : decode cX7_putTable 75 = .ok (.iload 5, 2) := by decide +kernel
theorem dX7_putTable_77 : decode cX7_putTable 77 = .ok (.iaload, 1) := by decide +kernel
theorem dX7_putTable_78 : decode cX7_putTable 78 = .ok (.istore 6, 2) := by decide +kernel
theorem dX7_putTable_80 : decode cX7_putTable 80 = .ok (.aload_n 0, 1) := by decide +kernel
theorem dX7_putTable_81 : decode cX7_putTable 81 = .ok (.iload 6, 2) := by decide +kernel
theorem dX7_putTable_83 : decode cX7_putTable 83 = .ok (.invokevirtual 235, 3) := by decide +kernel
theorem dX7_putTable_86 : decode cX7_putTable 86 = .ok (.iinc 5 1, 3) := by decide +kernel
theorem dX7_putTable_89 : decode cX7_putTable 89 = .ok (.goto (-22), 3) := by decide +kernel
theorem dX7_putTable_92 : decode cX7_putTable 92 = .ok (.aload_n 1, 1) := by decide +kernel
theorem dX7_putTable_93 : decode cX7_putTable 93 = .ok (.astore_n 3, 1) := by decide +kernel
theorem dX7_putTable_94 : decode cX7_putTable 94 = .ok (.aload_n 3, 1) := by decide +kernel
theorem dX7_putTable_95 : decode cX7_putTable 95 = .ok (.arraylength, 1) := by decide +kernel
theorem dX7_putTable_96 : decode cX7_putTable 96 = .ok (.istore 4, 2) := by decide +kernel
theorem dX7_putTable_98 : decode cX7_putTable 98 = .ok (.iconst 0, 1) := by decide +kernel
theorem dX7_putTable_99 : decode cX7_putTable 99 = .ok (.istore 5, 2) := by decide +kernel
theorem dX7_putTable_101 : decode cX7_putTable 101 = .ok (.iload 5, 2) := by decide +kernel
theorem dX7_putTable_103 : decode cX7_putTable 103 = .ok (.iload 4, 2) := by decide +kernel
theorem dX7_putTable_105 : decode cX7_putTable 105 = .ok (.if_icmp .ge 58, 3) := by decide +kernel
theorem dX7_putTable_108 : decode cX7_putTable 108 = .ok (.aload_n 3, 1) := by decide +kernel
theorem dX7_putTable_109 : decode cX7_putTable 109 = .ok (.iload 5, 2) := by decide +kernel
theorem dX7_putTable_111 : decode cX7_putTable 111 = .ok (.iaload, 1) := by decide +kernel
theorem dX7_putTable_112 : decode cX7_putTable 112 = .ok (.istore 6, 2) := by decide +kernel
theorem dX7_putTable_114 : decode cX7_putTable 114 = .ok (.aload_n 2, 1) := by decide +kernel
theorem dX7_putTable_115 : decode cX7_putTable 115 = .ok (.astore 7, 2) := by decide +kernel
theorem dX7_putTable_117 : decode cX7_putTable 117 = .ok (.aload 7, 2) := by decide +kernel
theorem dX7_putTable_119 : decode cX7_putTable 119 = .ok (.arraylength, 1) := by decide +kernel
theorem dX7_putTable_120 : decode cX7_putTable 120 = .ok (.istore 8, 2) := by decide +kernel
theorem dX7_putTable_122 : decode cX7_putTable 122 = .ok (.iconst 0, 1) := by decide +kernel
theorem dX7_putTable_123 : decode cX7_putTable 123 = .ok (.istore 9, 2) := by decide +kernel
theorem dX7_putTable_125 : decode cX7_putTable 125 = .ok (.iload 9, 2) := by decide +kernel
theorem dX7_putTable_127 : decode cX7_putTable 127 = .ok (.iload 8, 2) := by decide +kernel
theorem dX7_putTable_129 : decode cX7_putTable 129 = .ok (.if_icmp .ge 28, 3) := by decide +kernel
theorem dX7_putTable_132 : decode cX7_putTable 132 = .ok (.aload 7, 2) := by decide +kernel
theorem dX7_putTable_134 : decode cX7_putTable 134 = .ok (.iload 9, 2) := by decide +kernel
theorem dX7_putTable_136 : decode cX7_putTable 136 = .ok (.iaload, 1) := by decide +kernel
theorem dX7_putTable_137 : decode cX7_putTable 137 = .ok (.istore 10, 2) := by decide +kernel
theorem dX7_putTable_139 : decode cX7_putTable 139 = .ok (.aload_n 0, 1) := by decide +kernel
theorem dX7_putTable_140 : decode cX7_putTable 140 = .ok (.aload_n 0, 1) := by decide +kernel
theorem dX7_putTable_141 : decode cX7_putTable 141 = .ok (.iload 6, 2) := by decide +kernel
theorem dX7_putTable_143 : decode cX7_putTable 143 = .ok (.iload 10, 2) := by decide +kernel
theorem dX7_putTable_145 : decode cX7_putTable 145 = .ok (.invokevirtual 187, 3) := by decide +kernel
theorem dX7_putTable_148 : decode cX7_putTable 148 = .ok (.invokevirtual 235, 3) := by decide +kernel
theorem dX7_putTable_151 : decode cX7_putTable 151 = .ok (.iinc 9 1, 3) := by decide +kernel
theorem dX7_putTable_154 : decode cX7_putTable 154 = .ok (.goto (-29), 3) := by decide +kernel
theorem dX7_putTable_157 : decode cX7_putTable 157 = .ok (.iinc 5 1, 3) := by decide +kernel
theorem dX7_putTable_160 : decode cX7_putTable 160 = .ok (.goto (-59), 3) := by decide +kernel
theorem dX7_putTable_163 : decode cX7_putTable 163 = .ok (.return_, 1) := by decide +kernel
/-! by program: wip/whole/gen.py out of wip/whole/src/45.puttable.eb -/
/-! EbbTableModel: the table goes into the checksum -/
set_option maxRecDepth 100000 in
set_option maxHeartbeats 8000000 in
theorem c_X7_putTable {l : Launch} {D : va_G} {cys : Nat → ClassId} {ad : Nat → Int → Nat} {L : List Nat} {g : Nat → va_E} {X : Int64} {Z : ZT} (hi : injA ad) {S : ZT} (hS : RMZ S Z) (hRL : RML cys ad S L g) (hW : WF S) (ha : S 0 0 7 = 1) : CM l D cys ad yX7_putTable cX7_putTable 11 none 9 232 102 2448 [.ref (ad 24 0)] L g X Z (PGV L g X Z (fun L9 g9 X9 Z9 => X9 = DTB S X ∧ EXT L g L9 g9 ∧ Z9 = Z)) := by
  refine cm_start hi (by decide +kernel) (Nat.le_of_ble_eq_true rfl) ?_
  intro p_ e_ s_ m_ args_ below_ meth_ c_ A_ Q_ hQ G hr hin
  have hl0 := LN_ok hW ha (i := 0) (by omega) (by omega)
  have hl1 := LN_ok hW ha (i := 1) (by omega) (by omega)
  have hq0 : ((0 : Int) = 0 ∧ (0 : Int) = 0 ∧ (1 : Int) = 1) ∨ ((0 : Int) = 2 ∧ (0 : Int) = 1 ∧ (1 : Int) = 0) := by decide
  have hq2 : ((2 : Int) = 0 ∧ (1 : Int) = 0 ∧ (0 : Int) = 1) ∨ ((2 : Int) = 2 ∧ (1 : Int) = 1 ∧ (0 : Int) = 0) := by decide
  refine j_aload_n G dX7_putTable_0 rfl ?_
  refine j_iconst G dX7_putTable_1 ?_
  refine j_cVGA G cvX7_lines ml7_165 (c_X7_lines hi hS hRL hW ha hq0) dX7_putTable_2 ⟨by decide, by decide⟩ (by first | exact ⟨by decide, by decide⟩ | (constructor <;> dsimp only <;> omega)) rfl rfl (Nat.le_of_ble_eq_true rfl) (by first | assumption | decide) rfl rfl rfl (fun r2 L2 g2 X2 Z2 h2 => ?_)
  obtain ⟨p1, p2, p3, eX, eZ⟩ := h2
  subst X2 Z2
  have hRL2 := hRL.ext p3
  refine j_astore_n G dX7_putTable_5 (by decide) rfl ?_
  refine j_aload_n G dX7_putTable_6 rfl ?_
  refine j_iconst G dX7_putTable_7 ?_
  refine j_cVGA G cvX7_lines ml7_165 (c_X7_lines hi hS hRL2 hW ha hq2) dX7_putTable_8 ⟨by decide, by decide⟩ (by first | exact ⟨by decide, by decide⟩ | (constructor <;> dsimp only <;> omega)) rfl rfl (Nat.le_of_ble_eq_true rfl) (by first | assumption | decide) rfl rfl rfl (fun r8 L8 g8 X8 Z8 h8 => ?_)
  obtain ⟨s1, s2, s3, eX, eZ⟩ := h8
  subst X8 Z8
  have hRL8 := hRL2.ext s3
  have p2' := p2.ext s3
  refine j_astore_n G dX7_putTable_11 (by decide) rfl ?_
  refine j_aload_n G dX7_putTable_12 rfl ?_
  refine j_aload_n G dX7_putTable_13 rfl ?_
  refine j_dnA G dX7_putTable_14 p2' ?_
  refine j_cVGV G cvX7_put ml7_235 (c_X7_put hi ) dX7_putTable_15 ⟨by decide, by decide⟩ (by first | exact ⟨by decide, by decide⟩ | (constructor <;> dsimp only <;> omega)) rfl rfl (Nat.le_of_ble_eq_true rfl) (by first | assumption | decide) rfl rfl rfl (fun L15 g15 X15 Z15 h15 => ?_)
  obtain ⟨f1, f2, f3, f4⟩ := h15
  subst L15 g15 X15 Z15
  refine j_aload_n G dX7_putTable_18 rfl ?_
  refine j_aload_n G dX7_putTable_19 rfl ?_
  refine j_dnA G dX7_putTable_20 s2 ?_
  refine j_cVGV G cvX7_put ml7_235 (c_X7_put hi ) dX7_putTable_21 ⟨by decide, by decide⟩ (by first | exact ⟨by decide, by decide⟩ | (constructor <;> dsimp only <;> omega)) rfl rfl (Nat.le_of_ble_eq_true rfl) (by first | assumption | decide) rfl rfl rfl (fun L21 g21 X21 Z21 h21 => ?_)
  obtain ⟨f1, f2, f3, f4⟩ := h21
  subst L21 g21 X21 Z21
  have rowsL : ∀ (n : Nat) (k : Int), 0 ≤ k → k ≤ (LN S 0).length → ((LN S 0).length - k).toNat = n → JJ p_ l e_ { frames := 9, cells := 102, slots := 2448, locals := 232 } s_ m_ args_ below_ meth_ c_ D cys ad A_ Q_ 11 102 2448 L8 g8 (rtF S (LN S 0) (LN S 1) (ltF (LN S 1) (ltF (LN S 0) (mI (mI X (LN S 0).length) (LN S 1).length) (LN S 0).length) (LN S 1).length) k.toNat) Z 101 [(0, .ref (ad 24 0)), (1, .ref r2), (2, .ref r8), (3, .ref r2), (4, .int (iI (LN S 0).length)), (5, .int (iI k))] [] := by
    intro n
    induction n with
    | zero =>
      intro k h0 h1 h2
      have ek : k = (LN S 0).length := by omega
      subst ek
      refine j_iload G dX7_putTable_101 rfl ?_
      refine j_iload G dX7_putTable_103 rfl ?_
      refine j_icmp_ge G 163 dX7_putTable_105 (by decide) (by omega) (by omega) (fun c105 => ?_) (fun c105 => ?_)
      · refine jr_GV G hQ hr dX7_putTable_163 (by first | decide | omega) (by first | decide | omega) ?_
        exact ⟨by rw [Int.toNat_natCast]; rfl, p3.tr s3, rfl⟩
      · exfalso; omega
    | succ n ih =>
      intro k h0 h1 h2
      have hm0 := hl0.2 _ (getD_mem (W := LN S 0) h0 (by omega))
      have hs := nat_s (rtF S (LN S 0) (LN S 1) (ltF (LN S 1) (ltF (LN S 0) (mI (mI X (LN S 0).length) (LN S 1).length) (LN S 0).length) (LN S 1).length)) h0
      have colsL : ∀ (m : Nat) (c : Int), 0 ≤ c → c ≤ (LN S 1).length → ((LN S 1).length - c).toNat = m → JJ p_ l e_ { frames := 9, cells := 102, slots := 2448, locals := 232 } s_ m_ args_ below_ meth_ c_ D cys ad A_ Q_ 11 102 2448 L8 g8 (ctF S ((LN S 0).getD k.toNat 0) (LN S 1) (rtF S (LN S 0) (LN S 1) (ltF (LN S 1) (ltF (LN S 0) (mI (mI X (LN S 0).length) (LN S 1).length) (LN S 0).length) (LN S 1).length) k.toNat) c.toNat) Z 125 [(0, .ref (ad 24 0)), (1, .ref r2), (2, .ref r8), (3, .ref r2), (4, .int (iI (LN S 0).length)), (5, .int (iI k)), (6, .int (iI ((LN S 0).getD k.toNat 0))), (7, .ref r8), (8, .int (iI (LN S 1).length)), (9, .int (iI c))] [] := by
        intro m
        induction m with
        | zero =>
          intro c g0 g1 g2
          have ec : c = (LN S 1).length := by omega
          subst ec
          refine j_iload G dX7_putTable_125 rfl ?_
          refine j_iload G dX7_putTable_127 rfl ?_
          refine j_icmp_ge G 157 dX7_putTable_129 (by decide) (by omega) (by omega) (fun c129 => ?_) (fun c129 => ?_)
          · refine j_iinc G dX7_putTable_157 rfl (by decide) rfl ?_
            refine j_goto G 101 dX7_putTable_160 (by decide) ?_
            refine j_keep [0, 1, 2, 3, 4, 5] ?_
            have hI := ih (k + 1) (by omega) (by omega) (by omega)
            rw [hs] at hI
            rw [Int.toNat_natCast]
            exact hI
          · exfalso; omega
        | succ m ihm =>
          intro c g0 g1 g2
          have hm1 := hl1.2 _ (getD_mem (W := LN S 1) g0 (by omega))
          have hsc := nat_s (ctF S ((LN S 0).getD k.toNat 0) (LN S 1) (rtF S (LN S 0) (LN S 1) (ltF (LN S 1) (ltF (LN S 0) (mI (mI X (LN S 0).length) (LN S 1).length) (LN S 0).length) (LN S 1).length) k.toNat)) g0
          refine j_iload G dX7_putTable_125 rfl ?_
          refine j_iload G dX7_putTable_127 rfl ?_
          refine j_icmp_ge G 157 dX7_putTable_129 (by decide) (by omega) (by omega) (fun c129 => ?_) (fun c129 => ?_)
          · exfalso; omega
          · refine j_aload G dX7_putTable_132 rfl ?_
            refine j_iload G dX7_putTable_134 rfl ?_
            refine j_dlA G dX7_putTable_136 s2 (by first | omega | decide) (by omega) (by omega) ?_
            refine j_istore G dX7_putTable_137 (by decide) rfl ?_
            refine j_aload_n G dX7_putTable_139 rfl ?_
            refine j_aload_n G dX7_putTable_140 rfl ?_
            refine j_iload G dX7_putTable_141 rfl ?_
            refine j_iload G dX7_putTable_143 rfl ?_
            refine j_cVI G cvX7_cellOf ml7_187 (c_X7_cellOf hi hS hRL8 hW ha hm0 hm1) dX7_putTable_145 ⟨by decide, by decide⟩ (by first | exact ⟨by decide, by decide⟩ | (constructor <;> dsimp only <;> omega)) rfl rfl (Nat.le_of_ble_eq_true rfl) (by first | assumption | decide) rfl rfl rfl (fun r145 h145 => ?_)
            subst h145
            refine j_cVGV G cvX7_put ml7_235 (c_X7_put hi ) dX7_putTable_148 ⟨by decide, by decide⟩ (by first | exact ⟨by decide, by decide⟩ | (constructor <;> dsimp only <;> omega)) rfl rfl (Nat.le_of_ble_eq_true rfl) (by first | assumption | decide) rfl rfl rfl (fun L148 g148 X148 Z148 h148 => ?_)
            obtain ⟨f1, f2, f3, f4⟩ := h148
            subst L148 g148 X148 Z148
            refine j_iinc G dX7_putTable_151 rfl (by decide) rfl ?_
            refine j_goto G 125 dX7_putTable_154 (by decide) ?_
            refine j_keep [0, 1, 2, 3, 4, 5, 6, 7, 8, 9] ?_
            have hI := ihm (c + 1) (by omega) (by omega) (by omega)
            rw [hsc] at hI
            exact hI
      refine j_iload G dX7_putTable_101 rfl ?_
      refine j_iload G dX7_putTable_103 rfl ?_
      refine j_icmp_ge G 163 dX7_putTable_105 (by decide) (by omega) (by omega) (fun c105 => ?_) (fun c105 => ?_)
      · exfalso; omega
      · refine j_aload_n G dX7_putTable_108 rfl ?_
        refine j_iload G dX7_putTable_109 rfl ?_
        refine j_dlA G dX7_putTable_111 p2' (by first | omega | decide) (by omega) (by omega) ?_
        refine j_istore G dX7_putTable_112 (by decide) rfl ?_
        refine j_aload_n G dX7_putTable_114 rfl ?_
        refine j_astore G dX7_putTable_115 (by decide) rfl ?_
        refine j_aload G dX7_putTable_117 rfl ?_
        refine j_dnA G dX7_putTable_119 s2 ?_
        refine j_istore G dX7_putTable_120 (by decide) rfl ?_
        refine j_iconst G dX7_putTable_122 ?_
        refine j_istore G dX7_putTable_123 (by decide) rfl ?_
        exact colsL _ 0 (by omega) (by omega) rfl
  have c92 : JJ p_ l e_ { frames := 9, cells := 102, slots := 2448, locals := 232 } s_ m_ args_ below_ meth_ c_ D cys ad A_ Q_ 11 102 2448 L8 g8 (ltF (LN S 1) (ltF (LN S 0) (mI (mI X (LN S 0).length) (LN S 1).length) (LN S 0).length) (LN S 1).length) Z 92 [(0, .ref (ad 24 0)), (1, .ref r2), (2, .ref r8)] [] := by
    refine j_aload_n G dX7_putTable_92 rfl ?_
    refine j_astore_n G dX7_putTable_93 (by decide) rfl ?_
    refine j_aload_n G dX7_putTable_94 rfl ?_
    refine j_dnA G dX7_putTable_95 p2' ?_
    refine j_istore G dX7_putTable_96 (by decide) rfl ?_
    refine j_iconst G dX7_putTable_98 ?_
    refine j_istore G dX7_putTable_99 (by decide) rfl ?_
    exact rowsL _ 0 (by omega) (by omega) rfl
  have colL : ∀ (n : Nat) (k : Int), 0 ≤ k → k ≤ (LN S 1).length → ((LN S 1).length - k).toNat = n → JJ p_ l e_ { frames := 9, cells := 102, slots := 2448, locals := 232 } s_ m_ args_ below_ meth_ c_ D cys ad A_ Q_ 11 102 2448 L8 g8 (ltF (LN S 1) (ltF (LN S 0) (mI (mI X (LN S 0).length) (LN S 1).length) (LN S 0).length) k.toNat) Z 67 [(0, .ref (ad 24 0)), (1, .ref r2), (2, .ref r8), (3, .ref r8), (4, .int (iI (LN S 1).length)), (5, .int (iI k))] [] := by
    intro n
    induction n with
    | zero =>
      intro k h0 h1 h2
      have ek : k = (LN S 1).length := by omega
      subst ek
      refine j_iload G dX7_putTable_67 rfl ?_
      refine j_iload G dX7_putTable_69 rfl ?_
      refine j_icmp_ge G 92 dX7_putTable_71 (by decide) (by omega) (by omega) (fun c71 => ?_) (fun c71 => ?_)
      · rw [Int.toNat_natCast]
        refine j_keep [0, 1, 2] ?_
        exact c92
      · exfalso; omega
    | succ n ih =>
      intro k h0 h1 h2
      have hs := nat_s (ltF (LN S 1) (ltF (LN S 0) (mI (mI X (LN S 0).length) (LN S 1).length) (LN S 0).length)) h0
      refine j_iload G dX7_putTable_67 rfl ?_
      refine j_iload G dX7_putTable_69 rfl ?_
      refine j_icmp_ge G 92 dX7_putTable_71 (by decide) (by omega) (by omega) (fun c71 => ?_) (fun c71 => ?_)
      · exfalso; omega
      · refine j_aload_n G dX7_putTable_74 rfl ?_
        refine j_iload G dX7_putTable_75 rfl ?_
        refine j_dlA G dX7_putTable_77 s2 (by first | omega | decide) (by omega) (by omega) ?_
        refine j_istore G dX7_putTable_78 (by decide) rfl ?_
        refine j_aload_n G dX7_putTable_80 rfl ?_
        refine j_iload G dX7_putTable_81 rfl ?_
        refine j_cVGV G cvX7_put ml7_235 (c_X7_put hi ) dX7_putTable_83 ⟨by decide, by decide⟩ (by first | exact ⟨by decide, by decide⟩ | (constructor <;> dsimp only <;> omega)) rfl rfl (Nat.le_of_ble_eq_true rfl) (by first | assumption | decide) rfl rfl rfl (fun L83 g83 X83 Z83 h83 => ?_)
        obtain ⟨f1, f2, f3, f4⟩ := h83
        subst L83 g83 X83 Z83
        refine j_iinc G dX7_putTable_86 rfl (by decide) rfl ?_
        refine j_goto G 67 dX7_putTable_89 (by decide) ?_
        refine j_keep [0, 1, 2, 3, 4, 5] ?_
        have hI := ih (k + 1) (by omega) (by omega) (by omega)
        rw [hs] at hI
        exact hI
  have c58 : JJ p_ l e_ { frames := 9, cells := 102, slots := 2448, locals := 232 } s_ m_ args_ below_ meth_ c_ D cys ad A_ Q_ 11 102 2448 L8 g8 (ltF (LN S 0) (mI (mI X (LN S 0).length) (LN S 1).length) (LN S 0).length) Z 58 [(0, .ref (ad 24 0)), (1, .ref r2), (2, .ref r8)] [] := by
    refine j_aload_n G dX7_putTable_58 rfl ?_
    refine j_astore_n G dX7_putTable_59 (by decide) rfl ?_
    refine j_aload_n G dX7_putTable_60 rfl ?_
    refine j_dnA G dX7_putTable_61 s2 ?_
    refine j_istore G dX7_putTable_62 (by decide) rfl ?_
    refine j_iconst G dX7_putTable_64 ?_
    refine j_istore G dX7_putTable_65 (by decide) rfl ?_
    exact colL _ 0 (by omega) (by omega) rfl
  have rowL : ∀ (n : Nat) (k : Int), 0 ≤ k → k ≤ (LN S 0).length → ((LN S 0).length - k).toNat = n → JJ p_ l e_ { frames := 9, cells := 102, slots := 2448, locals := 232 } s_ m_ args_ below_ meth_ c_ D cys ad A_ Q_ 11 102 2448 L8 g8 (ltF (LN S 0) (mI (mI X (LN S 0).length) (LN S 1).length) k.toNat) Z 33 [(0, .ref (ad 24 0)), (1, .ref r2), (2, .ref r8), (3, .ref r2), (4, .int (iI (LN S 0).length)), (5, .int (iI k))] [] := by
    intro n
    induction n with
    | zero =>
      intro k h0 h1 h2
      have ek : k = (LN S 0).length := by omega
      subst ek
      refine j_iload G dX7_putTable_33 rfl ?_
      refine j_iload G dX7_putTable_35 rfl ?_
      refine j_icmp_ge G 58 dX7_putTable_37 (by decide) (by omega) (by omega) (fun c37 => ?_) (fun c37 => ?_)
      · rw [Int.toNat_natCast]
        refine j_keep [0, 1, 2] ?_
        exact c58
      · exfalso; omega
    | succ n ih =>
      intro k h0 h1 h2
      have hs := nat_s (ltF (LN S 0) (mI (mI X (LN S 0).length) (LN S 1).length)) h0
      refine j_iload G dX7_putTable_33 rfl ?_
      refine j_iload G dX7_putTable_35 rfl ?_
      refine j_icmp_ge G 58 dX7_putTable_37 (by decide) (by omega) (by omega) (fun c37 => ?_) (fun c37 => ?_)
      · exfalso; omega
      · refine j_aload_n G dX7_putTable_40 rfl ?_
        refine j_iload G dX7_putTable_41 rfl ?_
        refine j_dlA G dX7_putTable_43 p2' (by first | omega | decide) (by omega) (by omega) ?_
        refine j_istore G dX7_putTable_44 (by decide) rfl ?_
        refine j_aload_n G dX7_putTable_46 rfl ?_
        refine j_iload G dX7_putTable_47 rfl ?_
        refine j_cVGV G cvX7_put ml7_235 (c_X7_put hi ) dX7_putTable_49 ⟨by decide, by decide⟩ (by first | exact ⟨by decide, by decide⟩ | (constructor <;> dsimp only <;> omega)) rfl rfl (Nat.le_of_ble_eq_true rfl) (by first | assumption | decide) rfl rfl rfl (fun L49 g49 X49 Z49 h49 => ?_)
        obtain ⟨f1, f2, f3, f4⟩ := h49
        subst L49 g49 X49 Z49
        refine j_iinc G dX7_putTable_52 rfl (by decide) rfl ?_
        refine j_goto G 33 dX7_putTable_55 (by decide) ?_
        refine j_keep [0, 1, 2, 3, 4, 5] ?_
        have hI := ih (k + 1) (by omega) (by omega) (by omega)
        rw [hs] at hI
        exact hI
  refine j_aload_n G dX7_putTable_24 rfl ?_
  refine j_astore_n G dX7_putTable_25 (by decide) rfl ?_
  refine j_aload_n G dX7_putTable_26 rfl ?_
  refine j_dnA G dX7_putTable_27 p2' ?_
  refine j_istore G dX7_putTable_28 (by decide) rfl ?_
  refine j_iconst G dX7_putTable_30 ?_
  refine j_istore G dX7_putTable_31 (by decide) rfl ?_
  exact rowL _ 0 (by omega) (by omega) rfl

