theorem dL_areCostsRight_0 : decode cL_areCostsRight 0 = .ok (.aload_n 0, 1) := by decide +kernel
theorem dL_areCostsRight_1 : decode cL_areCostsRight 1 = .ok (.invokevirtual 178, 3) := by decide +kernel
theorem dL_areCostsRight_4 : decode cL_areCostsRight 4 = .ok (.aload_n 0, 1) := by decide +kernel
theorem dL_areCostsRight_5 : decode cL_areCostsRight 5 = .ok (.invokevirtual 59, 3) := by decide +kernel
theorem dL_areCostsRight_8 : decode cL_areCostsRight 8 = .ok (.if_icmp .gt 32, 3) := by decide +kernel
theorem dL_areCostsRight_11 : decode cL_areCostsRight 11 = .ok (.aload_n 0, 1) := by decide +kernel
theorem dL_areCostsRight_12 : decode cL_areCostsRight 12 = .ok (.invokevirtual 73, 3) := by decide +kernel
theorem dL_areCostsRight_15 : decode cL_areCostsRight 15 = .ok (.aload_n 0, 1) := by decide +kernel
theorem dL_areCostsRight_16 : decode cL_areCostsRight 16 = .ok (.invokevirtual 59, 3) := by decide +kernel
theorem dL_areCostsRight_19 : decode cL_areCostsRight 19 = .ok (.if_icmp .gt 21, 3) := by decide +kernel
theorem dL_areCostsRight_22 : decode cL_areCostsRight 22 = .ok (.aload_n 0, 1) := by decide +kernel
theorem dL_areCostsRight_23 : decode cL_areCostsRight 23 = .ok (.invokevirtual 56, 3) := by decide +kernel
theorem dL_areCostsRight_26 : decode cL_areCostsRight 26 = .ok (.ifCond .lt 14, 3) := by decide +kernel
theorem dL_areCostsRight_29 : decode cL_areCostsRight 29 = .ok (.aload_n 0, 1) := by decide +kernel
theorem dL_areCostsRight_30 : decode cL_areCostsRight 30 = .ok (.invokevirtual 181, 3) := by decide +kernel
theorem dL_areCostsRight_33 : decode cL_areCostsRight 33 = .ok (.aload_n 0, 1) := by decide +kernel
theorem dL_areCostsRight_34 : decode cL_areCostsRight 34 = .ok (.invokevirtual 184, 3) := by decide +kernel
theorem dL_areCostsRight_37 : decode cL_areCostsRight 37 = .ok (.if_icmp .lt 5, 3) := by decide +kernel
theorem dL_areCostsRight_40 : decode cL_areCostsRight 40 = .ok (.iconst 0, 1) := by decide +kernel
theorem dL_areCostsRight_41 : decode cL_areCostsRight 41 = .ok (.ireturn, 1) := by decide +kernel
theorem dL_areCostsRight_42 : decode cL_areCostsRight 42 = .ok (.aload_n 0, 1) := by decide +kernel
theorem dL_areCostsRight_43 : decode cL_areCostsRight 43 = .ok (.invokevirtual 181, 3) := by decide +kernel
theorem dL_areCostsRight_46 : decode cL_areCostsRight 46 = .ok (.istore_n 1, 1) := by decide +kernel
theorem dL_areCostsRight_47 : decode cL_areCostsRight 47 = .ok (.iload_n 1, 1) := by decide +kernel
theorem dL_areCostsRight_48 : decode cL_areCostsRight 48 = .ok (.ifCond .ge 14, 3) := by decide +kernel
theorem dL_areCostsRight_51 : decode cL_areCostsRight 51 = .ok (.aload_n 0, 1) := by decide +kernel
theorem dL_areCostsRight_52 : decode cL_areCostsRight 52 = .ok (.invokevirtual 178, 3) := by decide +kernel
theorem dL_areCostsRight_55 : decode cL_areCostsRight 55 = .ok (.aload_n 0, 1) := by decide +kernel
theorem dL_areCostsRight_56 : decode cL_areCostsRight 56 = .ok (.invokevirtual 59, 3) := by decide +kernel
theorem dL_areCostsRight_59 : decode cL_areCostsRight 59 = .ok (.if_icmp .ne 38, 3) := by decide +kernel
theorem dL_areCostsRight_62 : decode cL_areCostsRight 62 = .ok (.iload_n 1, 1) := by decide +kernel
theorem dL_areCostsRight_63 : decode cL_areCostsRight 63 = .ok (.ifCond .lt 36, 3) := by decide +kernel
theorem dL_areCostsRight_66 : decode cL_areCostsRight 66 = .ok (.aload_n 0, 1) := by decide +kernel
theorem dL_areCostsRight_67 : decode cL_areCostsRight 67 = .ok (.iload_n 1, 1) := by decide +kernel
theorem dL_areCostsRight_68 : decode cL_areCostsRight 68 = .ok (.invokevirtual 187, 3) := by decide +kernel
theorem dL_areCostsRight_71 : decode cL_areCostsRight 71 = .ok (.ifCond .ne 26, 3) := by decide +kernel
theorem dL_areCostsRight_74 : decode cL_areCostsRight 74 = .ok (.aload_n 0, 1) := by decide +kernel
theorem dL_areCostsRight_75 : decode cL_areCostsRight 75 = .ok (.iload_n 1, 1) := by decide +kernel
theorem dL_areCostsRight_76 : decode cL_areCostsRight 76 = .ok (.invokevirtual 191, 3) := by decide +kernel
theorem dL_areCostsRight_79 : decode cL_areCostsRight 79 = .ok (.aload_n 0, 1) := by decide +kernel
theorem dL_areCostsRight_80 : decode cL_areCostsRight 80 = .ok (.invokevirtual 178, 3) := by decide +kernel
theorem dL_areCostsRight_83 : decode cL_areCostsRight 83 = .ok (.if_icmp .ne 14, 3) := by decide +kernel
theorem dL_areCostsRight_86 : decode cL_areCostsRight 86 = .ok (.aload_n 0, 1) := by decide +kernel
theorem dL_areCostsRight_87 : decode cL_areCostsRight 87 = .ok (.invokevirtual 178, 3) := by decide +kernel
theorem dL_areCostsRight_90 : decode cL_areCostsRight 90 = .ok (.aload_n 0, 1) := by decide +kernel
theorem dL_areCostsRight_91 : decode cL_areCostsRight 91 = .ok (.invokevirtual 59, 3) := by decide +kernel
theorem dL_areCostsRight_94 : decode cL_areCostsRight 94 = .ok (.if_icmp .lt 5, 3) := by decide +kernel
theorem dL_areCostsRight_97 : decode cL_areCostsRight 97 = .ok (.iconst 0, 1) := by decide +kernel
theorem dL_areCostsRight_98 : decode cL_areCostsRight 98 = .ok (.ireturn, 1) := by decide +kernel
theorem dL_areCostsRight_99 : decode cL_areCostsRight 99 = .ok (.iconst 0, 1) := by decide +kernel
theorem dL_areCostsRight_100 : decode cL_areCostsRight 100 = .ok (.istore_n 2, 1) := by decide +kernel
theorem dL_areCostsRight_101 : decode cL_areCostsRight 101 = .ok (.iload_n 2, 1) := by decide +kernel
theorem dL_areCostsRight_102 : decode cL_areCostsRight 102 = .ok (.aload_n 0, 1) := by decide +kernel
theorem dL_areCostsRight_103 : decode cL_areCostsRight 103 = .ok (.invokevirtual 184, 3) := by decide +kernel
theorem dL_areCostsRight_106 : decode cL_areCostsRight 106 = .ok (.if_icmp .ge 31, 3) := by decide +kernel
theorem dL_areCostsRight_109 : decode cL_areCostsRight 109 = .ok (.aload_n 0, 1) := by decide +kernel
theorem dL_areCostsRight_110 : decode cL_areCostsRight 110 = .ok (.iload_n 2, 1) := by decide +kernel
theorem dL_areCostsRight_111 : decode cL_areCostsRight 111 = .ok (.invokevirtual 187, 3) := by decide +kernel
theorem dL_areCostsRight_114 : decode cL_areCostsRight 114 = .ok (.ifCond .ne 17, 3) := by decide +kernel
theorem dL_areCostsRight_117 : decode cL_areCostsRight 117 = .ok (.aload_n 0, 1) := by decide +kernel
theorem dL_areCostsRight_118 : decode cL_areCostsRight 118 = .ok (.iload_n 2, 1) := by decide +kernel
theorem dL_areCostsRight_119 : decode cL_areCostsRight 119 = .ok (.invokevirtual 191, 3) := by decide +kernel
theorem dL_areCostsRight_122 : decode cL_areCostsRight 122 = .ok (.aload_n 0, 1) := by decide +kernel
theorem dL_areCostsRight_123 : decode cL_areCostsRight 123 = .ok (.invokevirtual 59, 3) := by decide +kernel
theorem dL_areCostsRight_126 : decode cL_areCostsRight 126 = .ok (.if_icmp .le 5, 3) := by decide +kernel
theorem dL_areCostsRight_129 : decode cL_areCostsRight 129 = .ok (.iconst 0, 1) := by decide +kernel
theorem dL_areCostsRight_130 : decode cL_areCostsRight 130 = .ok (.ireturn, 1) := by decide +kernel
theorem dL_areCostsRight_131 : decode cL_areCostsRight 131 = .ok (.iinc 2 1, 3) := by decide +kernel
theorem dL_areCostsRight_134 : decode cL_areCostsRight 134 = .ok (.goto (-33), 3) := by decide +kernel
theorem dL_areCostsRight_137 : decode cL_areCostsRight 137 = .ok (.iconst 1, 1) := by decide +kernel
theorem dL_areCostsRight_138 : decode cL_areCostsRight 138 = .ok (.ireturn, 1) := by decide +kernel
theorem dL_areFinerMore_0 : decode cL_areFinerMore 0 = .ok (.iconst 0, 1) := by decide +kernel
theorem dL_areFinerMore_1 : decode cL_areFinerMore 1 = .ok (.istore_n 2, 1) := by decide +kernel
theorem dL_areFinerMore_2 : decode cL_areFinerMore 2 = .ok (.iload_n 2, 1) := by decide +kernel
theorem dL_areFinerMore_3 : decode cL_areFinerMore 3 = .ok (.aload_n 1, 1) := by decide +kernel
theorem dL_areFinerMore_4 : decode cL_areFinerMore 4 = .ok (.getfield 62, 3) := by decide +kernel
theorem dL_areFinerMore_7 : decode cL_areFinerMore 7 = .ok (.if_icmp .ge 74, 3) := by decide +kernel
theorem dL_areFinerMore_10 : decode cL_areFinerMore 10 = .ok (.aload_n 0, 1) := by decide +kernel
theorem dL_areFinerMore_11 : decode cL_areFinerMore 11 = .ok (.iload_n 2, 1) := by decide +kernel
theorem dL_areFinerMore_12 : decode cL_areFinerMore 12 = .ok (.iconst 0, 1) := by decide +kernel
theorem dL_areFinerMore_13 : decode cL_areFinerMore 13 = .ok (.invokevirtual 70, 3) := by decide +kernel
theorem dL_areFinerMore_16 : decode cL_areFinerMore 16 = .ok (.istore_n 3, 1) := by decide +kernel
theorem dL_areFinerMore_17 : decode cL_areFinerMore 17 = .ok (.aload_n 0, 1) := by decide +kernel
theorem dL_areFinerMore_18 : decode cL_areFinerMore 18 = .ok (.invokevirtual 73, 3) := by decide +kernel
theorem dL_areFinerMore_21 : decode cL_areFinerMore 21 = .ok (.istore 4, 2) := by decide +kernel
theorem dL_areFinerMore_23 : decode cL_areFinerMore 23 = .ok (.iconst 1, 1) := by decide +kernel
theorem dL_areFinerMore_24 : decode cL_areFinerMore 24 = .ok (.istore 5, 2) := by decide +kernel
theorem dL_areFinerMore_26 : decode cL_areFinerMore 26 = .ok (.iload 5, 2) := by decide +kernel
theorem dL_areFinerMore_28 : decode cL_areFinerMore 28 = .ok (.aload_n 1, 1) := by decide +kernel
theorem dL_areFinerMore_29 : decode cL_areFinerMore 29 = .ok (.getfield 66, 3) := by decide +kernel
theorem dL_areFinerMore_32 : decode cL_areFinerMore 32 = .ok (.iload_n 2, 1) := by decide +kernel
theorem dL_areFinerMore_33 : decode cL_areFinerMore 33 = .ok (.iaload, 1) := by decide +kernel
theorem dL_areFinerMore_34 : decode cL_areFinerMore 34 = .ok (.if_icmp .gt 34, 3) := by decide +kernel
theorem dL_areFinerMore_37 : decode cL_areFinerMore 37 = .ok (.aload_n 0, 1) := by decide +kernel
theorem dL_areFinerMore_38 : decode cL_areFinerMore 38 = .ok (.iload_n 2, 1) := by decide +kernel
theorem dL_areFinerMore_39 : decode cL_areFinerMore 39 = .ok (.iload 5, 2) := by decide +kernel
theorem dL_areFinerMore_41 : decode cL_areFinerMore 41 = .ok (.invokevirtual 70, 3) := by decide +kernel
theorem dL_areFinerMore_44 : decode cL_areFinerMore 44 = .ok (.pop, 1) := by decide +kernel
theorem dL_areFinerMore_45 : decode cL_areFinerMore 45 = .ok (.aload_n 0, 1) := by decide +kernel
theorem dL_areFinerMore_46 : decode cL_areFinerMore 46 = .ok (.invokevirtual 73, 3) := by decide +kernel
theorem dL_areFinerMore_49 : decode cL_areFinerMore 49 = .ok (.iload 4, 2) := by decide +kernel
theorem dL_areFinerMore_51 : decode cL_areFinerMore 51 = .ok (.if_icmp .ge 5, 3) := by decide +kernel
theorem dL_areFinerMore_54 : decode cL_areFinerMore 54 = .ok (.iconst 0, 1) := by decide +kernel
theorem dL_areFinerMore_55 : decode cL_areFinerMore 55 = .ok (.ireturn, 1) := by decide +kernel
theorem dL_areFinerMore_56 : decode cL_areFinerMore 56 = .ok (.aload_n 0, 1) := by decide +kernel
theorem dL_areFinerMore_57 : decode cL_areFinerMore 57 = .ok (.invokevirtual 73, 3) := by decide +kernel
theorem dL_areFinerMore_60 : decode cL_areFinerMore 60 = .ok (.istore 4, 2) := by decide +kernel
theorem dL_areFinerMore_62 : decode cL_areFinerMore 62 = .ok (.iinc 5 1, 3) := by decide +kernel
theorem dL_areFinerMore_65 : decode cL_areFinerMore 65 = .ok (.goto (-39), 3) := by decide +kernel
theorem dL_areFinerMore_68 : decode cL_areFinerMore 68 = .ok (.aload_n 0, 1) := by decide +kernel
theorem dL_areFinerMore_69 : decode cL_areFinerMore 69 = .ok (.iload_n 2, 1) := by decide +kernel
theorem dL_areFinerMore_70 : decode cL_areFinerMore 70 = .ok (.iload_n 3, 1) := by decide +kernel
theorem dL_areFinerMore_71 : decode cL_areFinerMore 71 = .ok (.invokevirtual 70, 3) := by decide +kernel
theorem dL_areFinerMore_74 : decode cL_areFinerMore 74 = .ok (.pop, 1) := by decide +kernel
theorem dL_areFinerMore_75 : decode cL_areFinerMore 75 = .ok (.iinc 2 1, 3) := by decide +kernel
theorem dL_areFinerMore_78 : decode cL_areFinerMore 78 = .ok (.goto (-76), 3) := by decide +kernel
theorem dL_areFinerMore_81 : decode cL_areFinerMore 81 = .ok (.iconst 1, 1) := by decide +kernel
theorem dL_areFinerMore_82 : decode cL_areFinerMore 82 = .ok (.ireturn, 1) := by decide +kernel
/-! by program: wip/whole/gen.py out of wip/whole/src/42.checks.eb -/
/-! the law's checks: costs, finer levels, parts -/
set_option maxRecDepth 100000 in
set_option maxHeartbeats 8000000 in
theorem c_L_areCostsRight {l : Launch} {D : va_G} {cys : Nat → ClassId} {ad : Nat → Int → Nat} {L : List Nat} {g : Nat → va_E} {X : Int64} {Z : ZT} (hi : injA ad) {S : ZT} (hst : l.stackTraces = false) (hS : SP S Z) (hW : WF S) (hv : SV S) : CM l D cys ad yL_areCostsRight cL_areCostsRight 3 (some .boolean) 8 137 20 120 [.ref (ad 0 0)] L g X Z (PIZ L g X Z (fun r Z' => r = 1 ∧ SP S Z')) := by
  refine cm_start hi (by decide +kernel) (Nat.le_of_ble_eq_true rfl) ?_
  intro p_ e_ s_ m_ args_ below_ meth_ c_ A_ Q_ hQ G hr hin
  have hC := COST_in hW (S 0 0 6)
  have hc2 := cost_le S (S 0 0 6)
  have hcl := CELLS_in hW (S 0 0 6)
  have hgn := GAIN_in hW hW.lv.2.1
  have hf := hW.f
  have hvw := hW.v
  have hvf : -1 ≤ VFOR S (S 0 0 6) ∧ VFOR S (S 0 0 6) < S 11 0 3 := by
    have := vfF_in S (S 0 0 6) (S 11 0 3).toNat
    unfold VFOR
    omega
  have K99 : ∀ (nn : Nat) (j : Int) (Z1 : ZT) (b : Int) (cells slots : Nat), (S 11 0 3 - j).toNat = nn → 0 ≤ j → j ≤ S 11 0 3 → SP S Z1 → cells + 2 * nn ≤ 20 → slots + 12 * nn ≤ 120 → JJ p_ l e_ { frames := 8, cells := 20, slots := 120, locals := 137 } s_ m_ args_ below_ meth_ c_ D cys ad A_ Q_ 3 cells slots L g X Z1 101 [(0, .ref (ad 0 0)), (1, .int (iI b)), (2, .int (iI j))] [] := by
    intro nn
    induction nn with
    | zero =>
      intro j Z1 b cells slots hnn j0 j1 hS1 hc hs
      have e6 : Z1 6 0 3 = S 6 0 3 := by rw [hS1.1 6 rfl]
      have e11 : Z1 11 0 3 = S 11 0 3 := by rw [hS1.1 11 rfl]
      refine j_iload_n G dL_areCostsRight_101 rfl ?_
      refine j_aload_n G dL_areCostsRight_102 rfl ?_
      refine j_cVI G cvX6_views mlL_184 (c_X6_views hi ) dL_areCostsRight_103 ⟨by decide, by decide⟩ (by first | exact ⟨by decide, by decide⟩ | (constructor <;> dsimp only <;> omega)) rfl rfl (Nat.le_of_ble_eq_true rfl) (by first | assumption | decide) rfl rfl rfl (fun r103 h103 => ?_)
      refine j_icmp_ge G 137 dL_areCostsRight_106 (by decide) (by omega) (by omega) (fun c106 => ?_) (fun c106 => ?_)
      · refine j_iconst G dL_areCostsRight_137 ?_
        refine jr_BZ G hQ hr dL_areCostsRight_138 (by first | decide | omega) (by first | decide | omega) (by omega) ?_
        exact ⟨rfl, hS1⟩
      · exfalso; omega
    | succ nn ih =>
      intro j Z1 b cells slots hnn j0 j1 hS1 hc hs
      have e6 : Z1 6 0 3 = S 6 0 3 := by rw [hS1.1 6 rfl]
      have e11 : Z1 11 0 3 = S 11 0 3 := by rw [hS1.1 11 rfl]
      have hjr : inR j := by omega
      have hjv : 0 ≤ j ∧ j < S 11 0 3 := by omega
      have h13 := hW.vw hjv.1 hjv.2
      have h14 := hW.st hjv.1 (by omega)
      have hsv := hv j hjv.1 hjv.2
      refine j_iload_n G dL_areCostsRight_101 rfl ?_
      refine j_aload_n G dL_areCostsRight_102 rfl ?_
      refine j_cVI G cvX6_views mlL_184 (c_X6_views hi ) dL_areCostsRight_103 ⟨by decide, by decide⟩ (by first | exact ⟨by decide, by decide⟩ | (constructor <;> dsimp only <;> omega)) rfl rfl (Nat.le_of_ble_eq_true rfl) (by first | assumption | decide) rfl rfl rfl (fun r103 h103 => ?_)
      refine j_icmp_ge G 137 dL_areCostsRight_106 (by decide) (by omega) (by omega) (fun c106 => ?_) (fun c106 => ?_)
      · exfalso; omega
      · refine j_aload_n G dL_areCostsRight_109 rfl ?_
        refine j_iload_n G dL_areCostsRight_110 rfl ?_
        refine j_cW_I G cvX6_isStale mlL_187 (cm_of (c_X6_isStale hi hst hS1 hW hjr) (by intro E9 L9 g9 X9 Z9 hx9; have hx9 := hx9.1; omega)) dL_areCostsRight_111 (by first | exact ⟨by decide, by decide⟩ | (constructor <;> dsimp only <;> omega)) (by first | exact ⟨by decide, by decide⟩ | (constructor <;> dsimp only <;> omega)) rfl rfl (Nat.le_of_ble_eq_true rfl) (by first | assumption | decide) rfl rfl rfl (fun r111 h111 => ?_)
        refine j_if_ne G 131 dL_areCostsRight_114 (by decide) (by omega) (fun c114 => ?_) (fun c114 => ?_)
        · refine j_iinc G dL_areCostsRight_131 rfl (by decide) rfl ?_
          refine j_goto G 101 dL_areCostsRight_134 (by decide) ?_
          refine j_keep [0, 1, 2] ?_
          exact ih (j + 1) Z1 b _ _ (by omega) (by omega) (by omega) hS1 (by omega) (by omega)
        · refine j_aload_n G dL_areCostsRight_117 rfl ?_
          refine j_iload_n G dL_areCostsRight_118 rfl ?_
          refine j_cW_I G cvX6_rowsOf mlL_191 (cm_of (c_X6_rowsOf hi hst hS1 hW hjr) (by intro E9 L9 g9 X9 Z9 hx9; have hx9 := hx9.1; omega)) dL_areCostsRight_119 (by first | exact ⟨by decide, by decide⟩ | (constructor <;> dsimp only <;> omega)) (by first | exact ⟨by decide, by decide⟩ | (constructor <;> dsimp only <;> omega)) rfl rfl (Nat.le_of_ble_eq_true rfl) (by first | assumption | decide) rfl rfl rfl (fun r119 h119 => ?_)
          refine j_aload_n G dL_areCostsRight_122 rfl ?_
          refine j_cVI G cvX6_facts mlL_59 (c_X6_facts hi ) dL_areCostsRight_123 ⟨by decide, by decide⟩ (by first | exact ⟨by decide, by decide⟩ | (constructor <;> dsimp only <;> omega)) rfl rfl (Nat.le_of_ble_eq_true rfl) (by first | assumption | decide) rfl rfl rfl (fun r123 h123 => ?_)
          refine j_icmp_le G 131 dL_areCostsRight_126 (by decide) (by omega) (by omega) (fun c126 => ?_) (fun c126 => ?_)
          · refine j_iinc G dL_areCostsRight_131 rfl (by decide) rfl ?_
            refine j_goto G 101 dL_areCostsRight_134 (by decide) ?_
            refine j_keep [0, 1, 2] ?_
            exact ih (j + 1) Z1 b _ _ (by omega) (by omega) (by omega) hS1 (by omega) (by omega)
          · exfalso
            have := hsv (by omega)
            omega
  have K62 : ∀ (Z1 : ZT), SP S Z1 → JJ p_ l e_ { frames := 8, cells := 20, slots := 120, locals := 137 } s_ m_ args_ below_ meth_ c_ D cys ad A_ Q_ 3 0 0 L g X Z1 62 [(0, .ref (ad 0 0)), (1, .int (iI (VFOR S (S 0 0 6))))] [] := by
    intro Z1 hS1
    have e6 : Z1 6 0 3 = S 6 0 3 := by rw [hS1.1 6 rfl]
    have e11 : Z1 11 0 3 = S 11 0 3 := by rw [hS1.1 11 rfl]
    have hbr : inR (VFOR S (S 0 0 6)) := by omega
    have hvi := vfor_is S (S 0 0 6)
    refine j_iload_n G dL_areCostsRight_62 rfl ?_
    refine j_if_lt G 99 dL_areCostsRight_63 (by decide) (by omega) (fun c63 => ?_) (fun c63 => ?_)
    · refine j_iconst G dL_areCostsRight_99 ?_
      refine j_istore_n G dL_areCostsRight_100 (by decide) rfl ?_
      refine j_keep [0, 1, 2] ?_
      exact K99 _ 0 Z1 _ _ _ rfl (by omega) (by omega) hS1 (by omega) (by omega)
    · have hvi := hvi (by omega)
      have hq := hW.vw (v := VFOR S (S 0 0 6)) (by omega) hvf.2
      refine j_aload_n G dL_areCostsRight_66 rfl ?_
      refine j_iload_n G dL_areCostsRight_67 rfl ?_
      refine j_cW_I G cvX6_isStale mlL_187 (cm_of (c_X6_isStale hi hst hS1 hW hbr) (by intro E9 L9 g9 X9 Z9 hx9; have hx9 := hx9.1; omega)) dL_areCostsRight_68 (by first | exact ⟨by decide, by decide⟩ | (constructor <;> dsimp only <;> omega)) (by first | exact ⟨by decide, by decide⟩ | (constructor <;> dsimp only <;> omega)) rfl rfl (Nat.le_of_ble_eq_true rfl) (by first | assumption | decide) rfl rfl rfl (fun r68 h68 => ?_)
      refine j_if_ne G 97 dL_areCostsRight_71 (by decide) (by omega) (fun c71 => ?_) (fun c71 => ?_)
      · exfalso; omega
      · refine j_aload_n G dL_areCostsRight_74 rfl ?_
        refine j_iload_n G dL_areCostsRight_75 rfl ?_
        refine j_cW_I G cvX6_rowsOf mlL_191 (cm_of (c_X6_rowsOf hi hst hS1 hW hbr) (by intro E9 L9 g9 X9 Z9 hx9; have hx9 := hx9.1; omega)) dL_areCostsRight_76 (by first | exact ⟨by decide, by decide⟩ | (constructor <;> dsimp only <;> omega)) (by first | exact ⟨by decide, by decide⟩ | (constructor <;> dsimp only <;> omega)) rfl rfl (Nat.le_of_ble_eq_true rfl) (by first | assumption | decide) rfl rfl rfl (fun r76 h76 => ?_)
        refine j_aload_n G dL_areCostsRight_79 rfl ?_
        refine j_cVI G cvX6_cost mlL_178 (c_X6_cost hi hS1 hW) dL_areCostsRight_80 ⟨by decide, by decide⟩ (by first | exact ⟨by decide, by decide⟩ | (constructor <;> dsimp only <;> omega)) rfl rfl (Nat.le_of_ble_eq_true rfl) (by first | assumption | decide) rfl rfl rfl (fun r80 h80 => ?_)
        refine j_icmp_ne G 97 dL_areCostsRight_83 (by decide) (by omega) (by omega) (fun c83 => ?_) (fun c83 => ?_)
        · exfalso; omega
        · refine j_aload_n G dL_areCostsRight_86 rfl ?_
          refine j_cVI G cvX6_cost mlL_178 (c_X6_cost hi hS1 hW) dL_areCostsRight_87 ⟨by decide, by decide⟩ (by first | exact ⟨by decide, by decide⟩ | (constructor <;> dsimp only <;> omega)) rfl rfl (Nat.le_of_ble_eq_true rfl) (by first | assumption | decide) rfl rfl rfl (fun r87 h87 => ?_)
          refine j_aload_n G dL_areCostsRight_90 rfl ?_
          refine j_cVI G cvX6_facts mlL_59 (c_X6_facts hi ) dL_areCostsRight_91 ⟨by decide, by decide⟩ (by first | exact ⟨by decide, by decide⟩ | (constructor <;> dsimp only <;> omega)) rfl rfl (Nat.le_of_ble_eq_true rfl) (by first | assumption | decide) rfl rfl rfl (fun r91 h91 => ?_)
          refine j_icmp_lt G 99 dL_areCostsRight_94 (by decide) (by omega) (by omega) (fun c94 => ?_) (fun c94 => ?_)
          · refine j_iconst G dL_areCostsRight_99 ?_
            refine j_istore_n G dL_areCostsRight_100 (by decide) rfl ?_
            refine j_keep [0, 1, 2] ?_
            exact K99 _ 0 Z1 _ _ _ rfl (by omega) (by omega) hS1 (by omega) (by omega)
          · exfalso; omega
  have e6 : Z 6 0 3 = S 6 0 3 := by rw [hS.1 6 rfl]
  refine j_aload_n G dL_areCostsRight_0 rfl ?_
  refine j_cVI G cvX6_cost mlL_178 (c_X6_cost hi hS hW) dL_areCostsRight_1 ⟨by decide, by decide⟩ (by first | exact ⟨by decide, by decide⟩ | (constructor <;> dsimp only <;> omega)) rfl rfl (Nat.le_of_ble_eq_true rfl) (by first | assumption | decide) rfl rfl rfl (fun r1 h1 => ?_)
  refine j_aload_n G dL_areCostsRight_4 rfl ?_
  refine j_cVI G cvX6_facts mlL_59 (c_X6_facts hi ) dL_areCostsRight_5 ⟨by decide, by decide⟩ (by first | exact ⟨by decide, by decide⟩ | (constructor <;> dsimp only <;> omega)) rfl rfl (Nat.le_of_ble_eq_true rfl) (by first | assumption | decide) rfl rfl rfl (fun r5 h5 => ?_)
  refine j_icmp_gt G 40 dL_areCostsRight_8 (by decide) (by omega) (by omega) (fun c8 => ?_) (fun c8 => ?_)
  · exfalso; omega
  · refine j_aload_n G dL_areCostsRight_11 rfl ?_
    refine j_cVIZ G cvX6_cellCount mlL_73 (c_X6_cellCount hi hS hW) dL_areCostsRight_12 ⟨by decide, by decide⟩ (by first | exact ⟨by decide, by decide⟩ | (constructor <;> dsimp only <;> omega)) rfl rfl (Nat.le_of_ble_eq_true rfl) (by first | assumption | decide) rfl rfl rfl (fun r12 Z12 h12 => ?_)
    obtain ⟨h12, hS2⟩ := h12
    have e6b : Z12 6 0 3 = S 6 0 3 := by rw [hS2.1 6 rfl]
    refine j_aload_n G dL_areCostsRight_15 rfl ?_
    refine j_cVI G cvX6_facts mlL_59 (c_X6_facts hi ) dL_areCostsRight_16 ⟨by decide, by decide⟩ (by first | exact ⟨by decide, by decide⟩ | (constructor <;> dsimp only <;> omega)) rfl rfl (Nat.le_of_ble_eq_true rfl) (by first | assumption | decide) rfl rfl rfl (fun r16 h16 => ?_)
    refine j_icmp_gt G 40 dL_areCostsRight_19 (by decide) (by omega) (by omega) (fun c19 => ?_) (fun c19 => ?_)
    · exfalso; omega
    · refine j_aload_n G dL_areCostsRight_22 rfl ?_
      refine j_cVIZ G cvX6_gain mlL_56 (c_X6_gain hi hS2 hW) dL_areCostsRight_23 ⟨by decide, by decide⟩ (by first | exact ⟨by decide, by decide⟩ | (constructor <;> dsimp only <;> omega)) rfl rfl (Nat.le_of_ble_eq_true rfl) (by first | assumption | decide) rfl rfl rfl (fun r23 Z23 h23 => ?_)
      obtain ⟨h23, hS3⟩ := h23
      have e6c : Z23 6 0 3 = S 6 0 3 := by rw [hS3.1 6 rfl]
      have e11c : Z23 11 0 3 = S 11 0 3 := by rw [hS3.1 11 rfl]
      refine j_if_lt G 40 dL_areCostsRight_26 (by decide) (by omega) (fun c26 => ?_) (fun c26 => ?_)
      · exfalso; omega
      · refine j_aload_n G dL_areCostsRight_29 rfl ?_
        refine j_cVI G cvX6_answeredBy mlL_181 (c_X6_answeredBy hi hS3 hW) dL_areCostsRight_30 ⟨by decide, by decide⟩ (by first | exact ⟨by decide, by decide⟩ | (constructor <;> dsimp only <;> omega)) rfl rfl (Nat.le_of_ble_eq_true rfl) (by first | assumption | decide) rfl rfl rfl (fun r30 h30 => ?_)
        refine j_aload_n G dL_areCostsRight_33 rfl ?_
        refine j_cVI G cvX6_views mlL_184 (c_X6_views hi ) dL_areCostsRight_34 ⟨by decide, by decide⟩ (by first | exact ⟨by decide, by decide⟩ | (constructor <;> dsimp only <;> omega)) rfl rfl (Nat.le_of_ble_eq_true rfl) (by first | assumption | decide) rfl rfl rfl (fun r34 h34 => ?_)
        refine j_icmp_lt G 42 dL_areCostsRight_37 (by decide) (by omega) (by omega) (fun c37 => ?_) (fun c37 => ?_)
        · refine j_aload_n G dL_areCostsRight_42 rfl ?_
          refine j_cVI G cvX6_answeredBy mlL_181 (c_X6_answeredBy hi hS3 hW) dL_areCostsRight_43 ⟨by decide, by decide⟩ (by first | exact ⟨by decide, by decide⟩ | (constructor <;> dsimp only <;> omega)) rfl rfl (Nat.le_of_ble_eq_true rfl) (by first | assumption | decide) rfl rfl rfl (fun r43 h43 => ?_)
          refine j_istore_n G dL_areCostsRight_46 (by decide) rfl ?_
          subst h43
          refine j_iload_n G dL_areCostsRight_47 rfl ?_
          refine j_if_ge G 62 dL_areCostsRight_48 (by decide) (by omega) (fun c48 => ?_) (fun c48 => ?_)
          · refine j_keep [0, 1] ?_
            exact K62 Z23 hS3
          · have hvn := vfor_no S (S 0 0 6) (by omega)
            refine j_aload_n G dL_areCostsRight_51 rfl ?_
            refine j_cVI G cvX6_cost mlL_178 (c_X6_cost hi hS3 hW) dL_areCostsRight_52 ⟨by decide, by decide⟩ (by first | exact ⟨by decide, by decide⟩ | (constructor <;> dsimp only <;> omega)) rfl rfl (Nat.le_of_ble_eq_true rfl) (by first | assumption | decide) rfl rfl rfl (fun r52 h52 => ?_)
            refine j_aload_n G dL_areCostsRight_55 rfl ?_
            refine j_cVI G cvX6_facts mlL_59 (c_X6_facts hi ) dL_areCostsRight_56 ⟨by decide, by decide⟩ (by first | exact ⟨by decide, by decide⟩ | (constructor <;> dsimp only <;> omega)) rfl rfl (Nat.le_of_ble_eq_true rfl) (by first | assumption | decide) rfl rfl rfl (fun r56 h56 => ?_)
            refine j_icmp_ne G 97 dL_areCostsRight_59 (by decide) (by omega) (by omega) (fun c59 => ?_) (fun c59 => ?_)
            · exfalso; omega
            · refine j_keep [0, 1] ?_
              exact K62 Z23 hS3
        · exfalso; omega
set_option maxRecDepth 100000 in
set_option maxHeartbeats 8000000 in
theorem c_L_areFinerMore {l : Launch} {D : va_G} {cys : Nat → ClassId} {ad : Nat → Int → Nat} {L : List Nat} {g : Nat → va_E} {X : Int64} {Z : ZT} (hi : injA ad) {S : ZT} {aw : Nat} {n : Int} {Wd : List Int} (hst : l.stackTraces = false) (hS : SP S Z) (hV : IV n Wd S) (hw : WRX cys ad L g aw n Wd) : CM l D cys ad yL_areFinerMore cL_areFinerMore 6 (some .boolean) 10 179 40 240 [.ref (ad 0 0), .ref aw] L g X Z (PIZ L g X Z (fun r Z' => r = 1 ∧ SP S Z')) := by
  refine cm_start hi (by decide +kernel) (Nat.le_of_ble_eq_true rfl) ?_
  intro p_ e_ s_ m_ args_ below_ meth_ c_ A_ Q_ hQ G hr hin
  have hW := hV.1.1
  have hn := hV.2.2.1
  have hn5 := hV.2.1
  obtain ⟨dp, v2, v3, v4, v5, v6, v7, v8, hO, hA, hl⟩ := hw
  have K : ∀ (nn : Nat) (d : Int) (Z1 : ZT) (cells slots : Nat), (n - d).toNat = nn → 0 ≤ d → d ≤ n → SP S Z1 → cells + 12 * nn ≤ 40 → slots + 72 * nn ≤ 240 → JJ p_ l e_ { frames := 10, cells := 40, slots := 240, locals := 179 } s_ m_ args_ below_ meth_ c_ D cys ad A_ Q_ 6 cells slots L g X Z1 2 [(0, .ref (ad 0 0)), (1, .ref aw), (2, .int (iI d))] [] := by
    intro nn
    induction nn with
    | zero =>
      intro d Z1 cells slots hnn d0 d1 hS1 hc hs
      refine j_iload_n G dL_areFinerMore_2 rfl ?_
      refine j_aload_n G dL_areFinerMore_3 rfl ?_
      refine jo_getN G 0 hO dL_areFinerMore_4 rfl rfl (by decide) (List.mem_of_getElem? (i := 0) rfl) (Or.inl rfl) inT7 ?_
      refine j_icmp_ge G 81 dL_areFinerMore_7 (by decide) (by omega) (by omega) (fun c7 => ?_) (fun c7 => ?_)
      · refine j_iconst G dL_areFinerMore_81 ?_
        refine jr_BZ G hQ hr dL_areFinerMore_82 (by first | decide | omega) (by first | decide | omega) (by omega) ?_
        exact ⟨rfl, hS1⟩
      · exfalso; omega
    | succ nn ih =>
      intro d Z1 cells slots hnn d0 d1 hS1 hc hs
      have hdr : inR d := by omega
      have hd4 : d < 4 := by omega
      have h0r : inR 0 := by decide
      have hdp := hW.deep d0 hd4
      have hWd := hV.2.2.2.1 d d0 (by omega)
      have hll := lvl_in (S 0 0 6) d
      have hlo := hW.lv.2.2 d d0 hd4
      have J : ∀ (mm : Nat) (j : Int) (Z2 : ZT) (cells slots : Nat), (S 2 d 3 + 1 - j).toNat = mm → 1 ≤ j → j ≤ S 2 d 3 + 1 → SP (lvS S d (j - 1)) Z2 → cells + 2 * mm + 2 + 12 * nn ≤ 40 → slots + 12 * mm + 12 + 72 * nn ≤ 240 → JJ p_ l e_ { frames := 10, cells := 40, slots := 240, locals := 179 } s_ m_ args_ below_ meth_ c_ D cys ad A_ Q_ 6 cells slots L g X Z2 26 [(0, .ref (ad 0 0)), (1, .ref aw), (2, .int (iI d)), (3, .int (iI (lvl (S 0 0 6) d))), (4, .int (iI (CELLS S (setL (S 0 0 6) d (j - 1))))), (5, .int (iI j))] [] := by
        intro mm
        induction mm with
        | zero =>
          intro j Z2 cells slots hmm j0 j1 hS2 hc hs
          have hW2 := (hV.lvS d0 hd4 (v := j - 1) (by omega) (by omega)).1.1
          have hlr : inR (lvl (S 0 0 6) d) := by omega
          have e5 := lvS_5 S d (j - 1)
          have e2 : lvS S d (j - 1) 2 d 3 = S 2 d 3 := by rw [lvS_k _ _ _ (by decide)]
          refine j_iload G dL_areFinerMore_26 rfl ?_
          refine j_aload_n G dL_areFinerMore_28 rfl ?_
          refine jo_getN G 1 hO dL_areFinerMore_29 rfl rfl (by decide) (List.mem_of_getElem? (i := 1) rfl) (Or.inl rfl) inT7 ?_
          refine j_iload_n G dL_areFinerMore_32 rfl ?_
          refine j_dlA G dL_areFinerMore_33 hA (by first | omega | decide) (by omega) (by omega) ?_
          refine j_icmp_gt G 68 dL_areFinerMore_34 (by decide) (by omega) (by omega) (fun c34 => ?_) (fun c34 => ?_)
          · refine j_aload_n G dL_areFinerMore_68 rfl ?_
            refine j_iload_n G dL_areFinerMore_69 rfl ?_
            refine j_iload_n G dL_areFinerMore_70 rfl ?_
            refine j_cW_IZ G cvX6_setLevel mlL_70 (cm_of (c_X6_setLevel2 hi hst hS2 hW2 hdr hlr) (by intro E9 L9 g9 X9 Z9 hx9; have hx9 := hx9.1; omega)) dL_areFinerMore_71 (by first | exact ⟨by decide, by decide⟩ | (constructor <;> dsimp only <;> omega)) (by first | exact ⟨by decide, by decide⟩ | (constructor <;> dsimp only <;> omega)) rfl rfl (Nat.le_of_ble_eq_true rfl) (by first | assumption | decide) rfl rfl rfl (fun r71 Z71 h71 => ?_)
            refine j_pop G dL_areFinerMore_74 rfl ?_
            refine j_iinc G dL_areFinerMore_75 rfl (by decide) rfl ?_
            refine j_goto G 2 dL_areFinerMore_78 (by decide) ?_
            obtain ⟨-, -, hS3⟩ := h71
            rw [lvS_back hW d0 hd4 (by omega) (by omega)] at hS3
            refine j_keep [0, 1, 2] ?_
            exact ih (d + 1) Z71 _ _ (by omega) (by omega) (by omega) hS3 (by omega) (by omega)
          · exfalso; omega
        | succ mm ihj =>
          intro j Z2 cells slots hmm j0 j1 hS2 hc hs
          have hW2 := (hV.lvS d0 hd4 (v := j - 1) (by omega) (by omega)).1.1
          have hW3 := (hV.lvS d0 hd4 (v := j) (by omega) (by omega)).1.1
          have hjr : inR j := by omega
          have e5 := lvS_5 S d (j - 1)
          have e2 : lvS S d (j - 1) 2 d 3 = S 2 d 3 := by rw [lvS_k _ _ _ (by decide)]
          have hca := CELLS_in hW (setL (S 0 0 6) d (j - 1))
          have hcb := CELLS_in hW (setL (S 0 0 6) d j)
          have hf := hW.f
          have hmo : CELLS S (setL (S 0 0 6) d (j - 1)) ≤ CELLS S (setL (S 0 0 6) d j) := by
            refine cells_mono hW (fun e e0 e1 => ?_)
            have hn4 := hW.n
            have a := (setL_ok hW.lv.1 hW.lv.2.1 d0 hd4 (v := j - 1) (by omega) (by omega)).2 e e0 (by omega)
            have b := (setL_ok hW.lv.1 hW.lv.2.1 d0 hd4 (v := j) (by omega) (by omega)).2 e e0 (by omega)
            rw [a, b]
            split <;> omega
          refine j_iload G dL_areFinerMore_26 rfl ?_
          refine j_aload_n G dL_areFinerMore_28 rfl ?_
          refine jo_getN G 1 hO dL_areFinerMore_29 rfl rfl (by decide) (List.mem_of_getElem? (i := 1) rfl) (Or.inl rfl) inT7 ?_
          refine j_iload_n G dL_areFinerMore_32 rfl ?_
          refine j_dlA G dL_areFinerMore_33 hA (by first | omega | decide) (by omega) (by omega) ?_
          refine j_icmp_gt G 68 dL_areFinerMore_34 (by decide) (by omega) (by omega) (fun c34 => ?_) (fun c34 => ?_)
          · exfalso; omega
          · refine j_aload_n G dL_areFinerMore_37 rfl ?_
            refine j_iload_n G dL_areFinerMore_38 rfl ?_
            refine j_iload G dL_areFinerMore_39 rfl ?_
            refine j_cW_IZ G cvX6_setLevel mlL_70 (cm_of (c_X6_setLevel2 hi hst hS2 hW2 hdr hjr) (by intro E9 L9 g9 X9 Z9 hx9; have hx9 := hx9.1; omega)) dL_areFinerMore_41 (by first | exact ⟨by decide, by decide⟩ | (constructor <;> dsimp only <;> omega)) (by first | exact ⟨by decide, by decide⟩ | (constructor <;> dsimp only <;> omega)) rfl rfl (Nat.le_of_ble_eq_true rfl) (by first | assumption | decide) rfl rfl rfl (fun r41 Z41 h41 => ?_)
            obtain ⟨-, -, hS3⟩ := h41
            rw [lvS_2 hW d0 hd4 (by omega) (by omega) (by omega) (by omega)] at hS3
            refine j_pop G dL_areFinerMore_44 rfl ?_
            refine j_aload_n G dL_areFinerMore_45 rfl ?_
            refine j_cVIZ G cvX6_cellCount mlL_73 (c_X6_cellCount hi hS3 hW3) dL_areFinerMore_46 ⟨by decide, by decide⟩ (by first | exact ⟨by decide, by decide⟩ | (constructor <;> dsimp only <;> omega)) rfl rfl (Nat.le_of_ble_eq_true rfl) (by first | assumption | decide) rfl rfl rfl (fun r46 Z46 h46 => ?_)
            obtain ⟨h46, hS4⟩ := h46
            rw [lvS_6] at h46
            have h46 : r46 = CELLS S (setL (S 0 0 6) d j) := by rw [h46]; exact CELLS_6 S _ _
            refine j_iload G dL_areFinerMore_49 rfl ?_
            refine j_icmp_ge G 56 dL_areFinerMore_51 (by decide) (by omega) (by omega) (fun c51 => ?_) (fun c51 => ?_)
            · refine j_aload_n G dL_areFinerMore_56 rfl ?_
              refine j_cVIZ G cvX6_cellCount mlL_73 (c_X6_cellCount hi hS4 hW3) dL_areFinerMore_57 ⟨by decide, by decide⟩ (by first | exact ⟨by decide, by decide⟩ | (constructor <;> dsimp only <;> omega)) rfl rfl (Nat.le_of_ble_eq_true rfl) (by first | assumption | decide) rfl rfl rfl (fun r57 Z57 h57 => ?_)
              obtain ⟨h57, hS5⟩ := h57
              rw [lvS_6] at h57
              have h57 : r57 = CELLS S (setL (S 0 0 6) d (j + 1 - 1)) := by rw [h57, show j + 1 - 1 = j by omega]; exact CELLS_6 S _ _
              subst h57
              refine j_istore G dL_areFinerMore_60 (by decide) rfl ?_
              refine j_iinc G dL_areFinerMore_62 rfl (by decide) rfl ?_
              refine j_goto G 26 dL_areFinerMore_65 (by decide) ?_
              refine j_keep [0, 1, 2, 3, 4, 5] ?_
              exact ihj (j + 1) Z57 _ _ (by omega) (by omega) (by omega) (by rw [show j + 1 - 1 = j by omega]; exact hS5) (by omega) (by omega)
            · exfalso; omega
      refine j_iload_n G dL_areFinerMore_2 rfl ?_
      refine j_aload_n G dL_areFinerMore_3 rfl ?_
      refine jo_getN G 0 hO dL_areFinerMore_4 rfl rfl (by decide) (List.mem_of_getElem? (i := 0) rfl) (Or.inl rfl) inT7 ?_
      refine j_icmp_ge G 81 dL_areFinerMore_7 (by decide) (by omega) (by omega) (fun c7 => ?_) (fun c7 => ?_)
      · exfalso; omega
      · refine j_aload_n G dL_areFinerMore_10 rfl ?_
        refine j_iload_n G dL_areFinerMore_11 rfl ?_
        refine j_iconst G dL_areFinerMore_12 ?_
        refine j_cW_IZ G cvX6_setLevel mlL_70 (cm_of (c_X6_setLevel2 hi hst hS1 hW hdr h0r) (by intro E9 L9 g9 X9 Z9 hx9; have hx9 := hx9.1; omega)) dL_areFinerMore_13 (by first | exact ⟨by decide, by decide⟩ | (constructor <;> dsimp only <;> omega)) (by first | exact ⟨by decide, by decide⟩ | (constructor <;> dsimp only <;> omega)) rfl rfl (Nat.le_of_ble_eq_true rfl) (by first | assumption | decide) rfl rfl rfl (fun r13 Z13 h13 => ?_)
        obtain ⟨-, h13, hS2⟩ := h13
        subst h13
        have hW2 := (hV.lvS d0 hd4 (v := 0) (by omega) (by omega)).1.1
        refine j_istore_n G dL_areFinerMore_16 (by decide) rfl ?_
        refine j_aload_n G dL_areFinerMore_17 rfl ?_
        refine j_cVIZ G cvX6_cellCount mlL_73 (c_X6_cellCount hi hS2 hW2) dL_areFinerMore_18 ⟨by decide, by decide⟩ (by first | exact ⟨by decide, by decide⟩ | (constructor <;> dsimp only <;> omega)) rfl rfl (Nat.le_of_ble_eq_true rfl) (by first | assumption | decide) rfl rfl rfl (fun r18 Z18 h18 => ?_)
        obtain ⟨h18, hS3⟩ := h18
        rw [lvS_6] at h18
        have h18 : r18 = CELLS S (setL (S 0 0 6) d (1 - 1)) := by rw [h18]; exact CELLS_6 S _ _
        subst h18
        refine j_istore G dL_areFinerMore_21 (by decide) rfl ?_
        refine j_iconst G dL_areFinerMore_23 ?_
        refine j_istore G dL_areFinerMore_24 (by decide) rfl ?_
        refine j_keep [0, 1, 2, 3, 4, 5] ?_
        exact J _ 1 Z18 _ _ rfl (by omega) (by omega) hS3 (by omega) (by omega)
  refine j_iconst G dL_areFinerMore_0 ?_
  refine j_istore_n G dL_areFinerMore_1 (by decide) rfl ?_
  exact K _ 0 Z _ _ rfl (by omega) (by omega) hS (by omega) (by omega)

