theorem dL_isTableWhole_0 : decode cL_isTableWhole 0 = .ok (.aload_n 0, 1) := by decide +kernel
theorem dL_isTableWhole_1 : decode cL_isTableWhole 1 = .ok (.invokevirtual 167, 3) := by decide +kernel
theorem dL_isTableWhole_4 : decode cL_isTableWhole 4 = .ok (.istore_n 1, 1) := by decide +kernel
theorem dL_isTableWhole_5 : decode cL_isTableWhole 5 = .ok (.goto 6, 3) := by decide +kernel
theorem dL_isTableWhole_8 : decode cL_isTableWhole 8 = .ok (.astore_n 2, 1) := by decide +kernel
theorem dL_isTableWhole_9 : decode cL_isTableWhole 9 = .ok (.iconst 1, 1) := by decide +kernel
theorem dL_isTableWhole_10 : decode cL_isTableWhole 10 = .ok (.ireturn, 1) := by decide +kernel
theorem dL_isTableWhole_11 : decode cL_isTableWhole 11 = .ok (.iconst 0, 1) := by decide +kernel
theorem dL_isTableWhole_12 : decode cL_isTableWhole 12 = .ok (.istore_n 2, 1) := by decide +kernel
theorem dL_isTableWhole_13 : decode cL_isTableWhole 13 = .ok (.iconst 0, 1) := by decide +kernel
theorem dL_isTableWhole_14 : decode cL_isTableWhole 14 = .ok (.istore_n 3, 1) := by decide +kernel
theorem dL_isTableWhole_15 : decode cL_isTableWhole 15 = .ok (.iload_n 3, 1) := by decide +kernel
theorem dL_isTableWhole_16 : decode cL_isTableWhole 16 = .ok (.iload_n 1, 1) := by decide +kernel
theorem dL_isTableWhole_17 : decode cL_isTableWhole 17 = .ok (.if_icmp .ge 105, 3) := by decide +kernel
theorem dL_isTableWhole_20 : decode cL_isTableWhole 20 = .ok (.aload_n 0, 1) := by decide +kernel
theorem dL_isTableWhole_21 : decode cL_isTableWhole 21 = .ok (.iload_n 3, 1) := by decide +kernel
theorem dL_isTableWhole_22 : decode cL_isTableWhole 22 = .ok (.invokevirtual 170, 3) := by decide +kernel
theorem dL_isTableWhole_25 : decode cL_isTableWhole 25 = .ok (.istore 4, 2) := by decide +kernel
theorem dL_isTableWhole_27 : decode cL_isTableWhole 27 = .ok (.iload 4, 2) := by decide +kernel
theorem dL_isTableWhole_29 : decode cL_isTableWhole 29 = .ok (.iconst (-1), 1) := by decide +kernel
theorem dL_isTableWhole_30 : decode cL_isTableWhole 30 = .ok (.if_icmp .lt 37, 3) := by decide +kernel
theorem dL_isTableWhole_33 : decode cL_isTableWhole 33 = .ok (.iload 4, 2) := by decide +kernel
theorem dL_isTableWhole_35 : decode cL_isTableWhole 35 = .ok (.aload_n 0, 1) := by decide +kernel
theorem dL_isTableWhole_36 : decode cL_isTableWhole 36 = .ok (.invokevirtual 173, 3) := by decide +kernel
theorem dL_isTableWhole_39 : decode cL_isTableWhole 39 = .ok (.if_icmp .ge 28, 3) := by decide +kernel
theorem dL_isTableWhole_42 : decode cL_isTableWhole 42 = .ok (.iload 4, 2) := by decide +kernel
theorem dL_isTableWhole_44 : decode cL_isTableWhole 44 = .ok (.ifCond .ge 7, 3) := by decide +kernel
theorem dL_isTableWhole_47 : decode cL_isTableWhole 47 = .ok (.iconst 1, 1) := by decide +kernel
theorem dL_isTableWhole_48 : decode cL_isTableWhole 48 = .ok (.goto 4, 3) := by decide +kernel
theorem dL_isTableWhole_51 : decode cL_isTableWhole 51 = .ok (.iconst 0, 1) := by decide +kernel
theorem dL_isTableWhole_52 : decode cL_isTableWhole 52 = .ok (.aload_n 0, 1) := by decide +kernel
theorem dL_isTableWhole_53 : decode cL_isTableWhole 53 = .ok (.invokevirtual 173, 3) := by decide +kernel
theorem dL_isTableWhole_56 : decode cL_isTableWhole 56 = .ok (.ifCond .ne 7, 3) := by decide +kernel
theorem dL_isTableWhole_59 : decode cL_isTableWhole 59 = .ok (.iconst 1, 1) := by decide +kernel
theorem dL_isTableWhole_60 : decode cL_isTableWhole 60 = .ok (.goto 4, 3) := by decide +kernel
theorem dL_isTableWhole_63 : decode cL_isTableWhole 63 = .ok (.iconst 0, 1) := by decide +kernel
theorem dL_isTableWhole_64 : decode cL_isTableWhole 64 = .ok (.if_icmp .eq 5, 3) := by decide +kernel
theorem dL_isTableWhole_67 : decode cL_isTableWhole 67 = .ok (.iconst 0, 1) := by decide +kernel
theorem dL_isTableWhole_68 : decode cL_isTableWhole 68 = .ok (.ireturn, 1) := by decide +kernel
theorem dL_isTableWhole_69 : decode cL_isTableWhole 69 = .ok (.iconst 0, 1) := by decide +kernel
theorem dL_isTableWhole_70 : decode cL_isTableWhole 70 = .ok (.istore 5, 2) := by decide +kernel
theorem dL_isTableWhole_72 : decode cL_isTableWhole 72 = .ok (.iload 5, 2) := by decide +kernel
theorem dL_isTableWhole_74 : decode cL_isTableWhole 74 = .ok (.aload_n 0, 1) := by decide +kernel
theorem dL_isTableWhole_75 : decode cL_isTableWhole 75 = .ok (.invokevirtual 173, 3) := by decide +kernel
theorem dL_isTableWhole_78 : decode cL_isTableWhole 78 = .ok (.if_icmp .ge 38, 3) := by decide +kernel
theorem dL_isTableWhole_81 : decode cL_isTableWhole 81 = .ok (.iload_n 2, 1) := by decide +kernel
theorem dL_isTableWhole_82 : decode cL_isTableWhole 82 = .ok (.aload_n 0, 1) := by decide +kernel
theorem dL_isTableWhole_83 : decode cL_isTableWhole 83 = .ok (.iload_n 3, 1) := by decide +kernel
theorem dL_isTableWhole_84 : decode cL_isTableWhole 84 = .ok (.iload 5, 2) := by decide +kernel
theorem dL_isTableWhole_86 : decode cL_isTableWhole 86 = .ok (.invokevirtual 176, 3) := by decide +kernel
theorem dL_isTableWhole_89 : decode cL_isTableWhole 89 = .ok (.iadd, 1) := by decide +kernel
theorem dL_isTableWhole_90 : decode cL_isTableWhole 90 = .ok (.istore_n 2, 1) := by decide +kernel
theorem dL_isTableWhole_91 : decode cL_isTableWhole 91 = .ok (.aload_n 0, 1) := by decide +kernel
theorem dL_isTableWhole_92 : decode cL_isTableWhole 92 = .ok (.iload_n 3, 1) := by decide +kernel
theorem dL_isTableWhole_93 : decode cL_isTableWhole 93 = .ok (.iload 5, 2) := by decide +kernel
theorem dL_isTableWhole_95 : decode cL_isTableWhole 95 = .ok (.invokevirtual 176, 3) := by decide +kernel
theorem dL_isTableWhole_98 : decode cL_isTableWhole 98 = .ok (.aload_n 0, 1) := by decide +kernel
theorem dL_isTableWhole_99 : decode cL_isTableWhole 99 = .ok (.iload_n 3, 1) := by decide +kernel
theorem dL_isTableWhole_100 : decode cL_isTableWhole 100 = .ok (.iload 4, 2) := by decide +kernel
theorem dL_isTableWhole_102 : decode cL_isTableWhole 102 = .ok (.invokevirtual 176, 3) := by decide +kernel
theorem dL_isTableWhole_105 : decode cL_isTableWhole 105 = .ok (.if_icmp .le 5, 3) := by decide +kernel
theorem dL_isTableWhole_108 : decode cL_isTableWhole 108 = .ok (.iconst 0, 1) := by decide +kernel
theorem dL_isTableWhole_109 : decode cL_isTableWhole 109 = .ok (.ireturn, 1) := by decide +kernel
theorem dL_isTableWhole_110 : decode cL_isTableWhole 110 = .ok (.iinc 5 1, 3) := by decide +kernel
theorem dL_isTableWhole_113 : decode cL_isTableWhole 113 = .ok (.goto (-41), 3) := by decide +kernel
theorem dL_isTableWhole_116 : decode cL_isTableWhole 116 = .ok (.iinc 3 1, 3) := by decide +kernel
theorem dL_isTableWhole_119 : decode cL_isTableWhole 119 = .ok (.goto (-104), 3) := by decide +kernel
theorem dL_isTableWhole_122 : decode cL_isTableWhole 122 = .ok (.iload_n 1, 1) := by decide +kernel
theorem dL_isTableWhole_123 : decode cL_isTableWhole 123 = .ok (.ifCond .eq 18, 3) := by decide +kernel
theorem dL_isTableWhole_126 : decode cL_isTableWhole 126 = .ok (.aload_n 0, 1) := by decide +kernel
theorem dL_isTableWhole_127 : decode cL_isTableWhole 127 = .ok (.invokevirtual 173, 3) := by decide +kernel
theorem dL_isTableWhole_130 : decode cL_isTableWhole 130 = .ok (.ifCond .eq 11, 3) := by decide +kernel
theorem dL_isTableWhole_133 : decode cL_isTableWhole 133 = .ok (.iload_n 2, 1) := by decide +kernel
theorem dL_isTableWhole_134 : decode cL_isTableWhole 134 = .ok (.aload_n 0, 1) := by decide +kernel
theorem dL_isTableWhole_135 : decode cL_isTableWhole 135 = .ok (.invokevirtual 161, 3) := by decide +kernel
theorem dL_isTableWhole_138 : decode cL_isTableWhole 138 = .ok (.if_icmp .ne 7, 3) := by decide +kernel
theorem dL_isTableWhole_141 : decode cL_isTableWhole 141 = .ok (.iconst 1, 1) := by decide +kernel
theorem dL_isTableWhole_142 : decode cL_isTableWhole 142 = .ok (.goto 4, 3) := by decide +kernel
theorem dL_isTableWhole_145 : decode cL_isTableWhole 145 = .ok (.iconst 0, 1) := by decide +kernel
theorem dL_isTableWhole_146 : decode cL_isTableWhole 146 = .ok (.ireturn, 1) := by decide +kernel
/-! by program: wip/whole/gen.py out of wip/whole/src/45.table.eb -/
/-! the law's check of a table -/
set_option maxRecDepth 100000 in
set_option maxHeartbeats 8000000 in
theorem c_L_isTableWhole {l : Launch} {D : va_G} {cys : Nat → ClassId} {ad : Nat → Int → Nat} {L : List Nat} {g : Nat → va_E} {X : Int64} {Z : ZT} (hi : injA ad) {S : ZT} (hst : l.stackTraces = false) (hS : SP S Z) (hW : WF S) : CW l D cys ad yL_isTableWhole cL_isTableWhole 6 (some .boolean) [(0, 5, 8, 132)] 8 159 6000 36000 [.ref (ad 0 0)] L g X Z (PIZ L g X Z (fun r Z' => r = 1 ∧ SP S Z')) := by
  refine cw_start hi (by decide +kernel) (Nat.le_of_ble_eq_true rfl) ?_
  intro p_ e_ s_ m_ args_ below_ meth_ c_ A_ Q_ hQ G hr hT
  refine j_aload_n G dL_isTableWhole_0 rfl ?_
  refine j_c1 G (PP := fun r Z' => S 0 0 7 = 1 ∧ r = (LN S 0).length ∧ SP S Z') (x1 := ({ startPc := 0, endPc := 5, handlerPc := 8, catchType := 132 } : ExceptionTableEntry)) (n1 := exS) hT (by decide) (by decide) (TW_of 848 (by decide +kernel) (by decide +kernel)) (List.mem_of_getElem? (i := 2) rfl) cvX6_rows mlL_167 (c_X6_rows hi hst hS hW) dL_isTableWhole_1 (by first | exact ⟨by decide, by decide⟩ | (constructor <;> dsimp only <;> omega)) (by first | exact ⟨by decide, by decide⟩ | (constructor <;> dsimp only <;> omega)) rfl rfl (Nat.le_of_ble_eq_true rfl) (by decide) rfl rfl rfl (fun E Z1 h => h.1) (fun v L1 g1 X1 Z1 h => h) (fun Z1 q h => ?_) (fun r1 Z1 h1 => ?_)
  · refine j_astore_n G dL_isTableWhole_8 (by decide) rfl ?_
    refine j_iconst G dL_isTableWhole_9 ?_
    refine jr_BZ G hQ hr dL_isTableWhole_10 (by decide) (by decide) (by omega) ?_
    exact ⟨rfl, by rw [h.2.2]; exact hS⟩
  obtain ⟨hax, rfl, hS1⟩ := h1
  have hax0 := hW.ai hax (i := 0) (by decide) (by decide)
  have hax1 := hW.ai hax (i := 1) (by decide) (by decide)
  have hl0 : (LN S 0).length ≤ (allL S 0).length := by unfold LN; exact List.length_filter_le _ _
  have hl1 : (LN S 1).length ≤ (allL S 1).length := by unfold LN; exact List.length_filter_le _ _
  have ha0 := (allL_ok hW hax (i := 0) (by decide) (by decide)).1
  have ha1 := (allL_ok hW hax (i := 1) (by decide) (by decide)).1
  have hsm := SUM_bd hW
  obtain ⟨C, hC⟩ : ∃ C : Nat, C = (LN S 1).length := ⟨_, rfl⟩
  obtain ⟨N, hN⟩ : ∃ N : Nat, N = (LN S 0).length := ⟨_, rfl⟩
  obtain ⟨ts, hts⟩ : ∃ ts : Int → Int → Int, ts = fun r w => tsum S ((LN S 0).getD r.toNat 0) ((LN S 1).getD w.toNat 0) := ⟨_, rfl⟩
  have htb : ∀ r w, -800000 ≤ ts r w ∧ ts r w ≤ 800000 := fun r w => by rw [hts]; exact tsum_bd hW _ _
  obtain ⟨rs, hrs⟩ : ∃ rs : Int → Int, rs = fun r => sumTo (ts r) C := ⟨_, rfl⟩
  have hrb : ∀ r, -19200000 ≤ rs r ∧ rs r ≤ 19200000 := fun r => by
    have := sumTo_bd (f := ts r) (n := C) (B := 800000) (fun k _ _ => htb r k)
    rw [hrs]
    show -19200000 ≤ sumTo (ts r) C ∧ sumTo (ts r) C ≤ 19200000
    omega
  have hpk : ∀ r, (0 < C → 0 ≤ pkF (ts r) C) ∧ (∀ c : Int, 0 ≤ c → c < C → ts r c ≤ ts r (pkF (ts r) C)) ∧ -1 ≤ pkF (ts r) C ∧ pkF (ts r) C < C := fun r => ⟨(pk_max (ts r) C).1, (pk_max (ts r) C).2, pkF_in (ts r) C⟩
  have htab : N ≠ 0 → C ≠ 0 → sumTo rs N = SUM S := fun a b => by
    rw [hrs, hts, hN, hC]
    exact table_sum hW hax (by omega) (by omega)
  have K : ∀ (nn : Nat) (r : Int) (Z2 : ZT) (cells slots : Nat), (N - r).toNat = nn → 0 ≤ r → r ≤ N → SP S Z2 → cells + 245 * nn ≤ 5990 → slots + 1470 * nn ≤ 35900 → JJ p_ l e_ { frames := 8, cells := 6000, slots := 36000, locals := 159 } s_ m_ args_ below_ meth_ c_ D cys ad A_ Q_ 6 cells slots L g X Z2 15 [(0, .ref (ad 0 0)), (1, .int (iI (LN S 0).length)), (2, .int (iI (sumTo rs r.toNat))), (3, .int (iI r))] [] := by
    intro nn
    induction nn with
    | zero =>
      intro r Z2 cells slots hnn r0 r1 hS2 hc hs
      have er : r.toNat = N := by omega
      rw [er]
      have hrb2 := sumTo_bd (f := rs) (n := N) (B := 19200000) (fun k _ _ => hrb k)
      refine j_iload_n G dL_isTableWhole_15 rfl ?_
      refine j_iload_n G dL_isTableWhole_16 rfl ?_
      refine j_icmp_ge G 122 dL_isTableWhole_17 (by decide) (by omega) (by omega) (fun c17 => ?_) (fun c17 => ?_)
      · refine j_iload_n G dL_isTableWhole_122 rfl ?_
        refine j_if_eq G 141 dL_isTableWhole_123 (by decide) (by omega) (fun c123 => ?_) (fun c123 => ?_)
        · refine j_iconst G dL_isTableWhole_141 ?_
          refine j_goto G 146 dL_isTableWhole_142 (by decide) ?_
          first
            | (exfalso; have := htab (by omega) (by omega); omega)
            | (refine jr_BZ G hQ hr dL_isTableWhole_146 (by first | decide | omega) (by first | decide | omega) (by omega) ?_
               first | exact ⟨rfl, hS3⟩ | exact ⟨rfl, hS2⟩)
        · refine j_aload_n G dL_isTableWhole_126 rfl ?_
          refine j_cW_IZ G cvX6_columns mlL_173 (cm_of (c_X6_columns hi hst hS2 hW) (by intro E9 L9 g9 X9 Z9 hx9; have hx9 := hx9.1; omega)) dL_isTableWhole_127 (by first | exact ⟨by decide, by decide⟩ | (constructor <;> dsimp only <;> omega)) (by first | exact ⟨by decide, by decide⟩ | (constructor <;> dsimp only <;> omega)) rfl rfl (Nat.le_of_ble_eq_true rfl) (by first | assumption | decide) rfl rfl rfl (fun r127 Z127 h127 => ?_)
          obtain ⟨-, h127, hS3⟩ := h127
          refine j_if_eq G 141 dL_isTableWhole_130 (by decide) (by omega) (fun c130 => ?_) (fun c130 => ?_)
          · refine j_iconst G dL_isTableWhole_141 ?_
            refine j_goto G 146 dL_isTableWhole_142 (by decide) ?_
            first
              | (exfalso; have := htab (by omega) (by omega); omega)
              | (refine jr_BZ G hQ hr dL_isTableWhole_146 (by first | decide | omega) (by first | decide | omega) (by omega) ?_
                 first | exact ⟨rfl, hS3⟩ | exact ⟨rfl, hS2⟩)
          · refine j_iload_n G dL_isTableWhole_133 rfl ?_
            refine j_aload_n G dL_isTableWhole_134 rfl ?_
            refine j_cVI G cvX6_sum mlL_161 (c_X6_sum hi hS3 hW) dL_isTableWhole_135 ⟨by decide, by decide⟩ (by first | exact ⟨by decide, by decide⟩ | (constructor <;> dsimp only <;> omega)) rfl rfl (Nat.le_of_ble_eq_true rfl) (by first | assumption | decide) rfl rfl rfl (fun r135 h135 => ?_)
            refine j_icmp_ne G 145 dL_isTableWhole_138 (by decide) (by omega) (by omega) (fun c138 => ?_) (fun c138 => ?_)
            · refine j_iconst G dL_isTableWhole_145 ?_
              first
                | (exfalso; have := htab (by omega) (by omega); omega)
                | (refine jr_BZ G hQ hr dL_isTableWhole_146 (by first | decide | omega) (by first | decide | omega) (by omega) ?_
                   first | exact ⟨rfl, hS3⟩ | exact ⟨rfl, hS2⟩)
            · skip
              refine j_iconst G dL_isTableWhole_141 ?_
              refine j_goto G 146 dL_isTableWhole_142 (by decide) ?_
              first
                | (exfalso; have := htab (by omega) (by omega); omega)
                | (refine jr_BZ G hQ hr dL_isTableWhole_146 (by first | decide | omega) (by first | decide | omega) (by omega) ?_
                   first | exact ⟨rfl, hS3⟩ | exact ⟨rfl, hS2⟩)
      · exfalso; omega
    | succ nn ih =>
      intro r Z2 cells slots hnn r0 r1 hS2 hc hs
      have hrb2 := sumTo_bd (f := rs) (n := r.toNat) (B := 19200000) (fun k _ _ => hrb k)
      have hrr : inR r := by omega
      have hpr := hpk r
      have hts1 : ∀ w : Int, tsum S ((LN S 0).getD r.toNat 0) ((LN S 1).getD w.toNat 0) = ts r w := fun w => by rw [hts]
      have J : ∀ (mm : Nat) (w : Int) (Z3 : ZT) (cells slots : Nat), (C - w).toNat = mm → 0 ≤ w → w ≤ C → SP S Z3 → cells + 10 * mm + 1 + 245 * nn ≤ 5990 → slots + 60 * mm + 6 + 1470 * nn ≤ 35900 → JJ p_ l e_ { frames := 8, cells := 6000, slots := 36000, locals := 159 } s_ m_ args_ below_ meth_ c_ D cys ad A_ Q_ 6 cells slots L g X Z3 72 [(0, .ref (ad 0 0)), (1, .int (iI (LN S 0).length)), (2, .int (iI (sumTo rs r.toNat + sumTo (ts r) w.toNat))), (3, .int (iI r)), (4, .int (iI (pkF (ts r) C))), (5, .int (iI w))] [] := by
        intro mm
        induction mm with
        | zero =>
          intro w Z3 cells slots hmm w0 w1 hS3 hc hs
          have ew : w.toNat = C := by omega
          have hst2 := sumTo_s (f := rs) r0
          have ers : rs r = sumTo (ts r) C := by rw [hrs]
          refine j_iload G dL_isTableWhole_72 rfl ?_
          refine j_aload_n G dL_isTableWhole_74 rfl ?_
          refine j_cW_IZ G cvX6_columns mlL_173 (cm_of (c_X6_columns hi hst hS3 hW) (by intro E9 L9 g9 X9 Z9 hx9; have hx9 := hx9.1; omega)) dL_isTableWhole_75 (by first | exact ⟨by decide, by decide⟩ | (constructor <;> dsimp only <;> omega)) (by first | exact ⟨by decide, by decide⟩ | (constructor <;> dsimp only <;> omega)) rfl rfl (Nat.le_of_ble_eq_true rfl) (by first | assumption | decide) rfl rfl rfl (fun r75 Z75 h75 => ?_)
          obtain ⟨-, h75, hS4⟩ := h75
          refine j_icmp_ge G 116 dL_isTableWhole_78 (by decide) (by omega) (by omega) (fun c78 => ?_) (fun c78 => ?_)
          · refine j_iinc G dL_isTableWhole_116 rfl (by decide) rfl ?_
            refine j_goto G 15 dL_isTableWhole_119 (by decide) ?_
            refine j_keep [0, 1, 2, 3] ?_
            rw [ew, ← ers, ← hst2]
            exact ih (r + 1) Z75 _ _ (by omega) (by omega) (by omega) hS4 (by omega) (by omega)
          · exfalso; omega
        | succ mm ihj =>
          intro w Z3 cells slots hmm w0 w1 hS3 hc hs
          have hwr : inR w := by omega
          have hpi : inR (pkF (ts r) C) := by omega
          have hpw := hpr.2.1 w w0 (by omega)
          have hp0 := hpr.1 (by omega)
          have hb1 := htb r w
          have hb2 := htb r (pkF (ts r) C)
          have hst2 := sumTo_s (f := ts r) w0
          refine j_iload G dL_isTableWhole_72 rfl ?_
          refine j_aload_n G dL_isTableWhole_74 rfl ?_
          refine j_cW_IZ G cvX6_columns mlL_173 (cm_of (c_X6_columns hi hst hS3 hW) (by intro E9 L9 g9 X9 Z9 hx9; have hx9 := hx9.1; omega)) dL_isTableWhole_75 (by first | exact ⟨by decide, by decide⟩ | (constructor <;> dsimp only <;> omega)) (by first | exact ⟨by decide, by decide⟩ | (constructor <;> dsimp only <;> omega)) rfl rfl (Nat.le_of_ble_eq_true rfl) (by first | assumption | decide) rfl rfl rfl (fun r75 Z75 h75 => ?_)
          obtain ⟨-, h75, hS4⟩ := h75
          refine j_icmp_ge G 116 dL_isTableWhole_78 (by decide) (by omega) (by omega) (fun c78 => ?_) (fun c78 => ?_)
          · exfalso; omega
          · refine j_iload_n G dL_isTableWhole_81 rfl ?_
            refine j_aload_n G dL_isTableWhole_82 rfl ?_
            refine j_iload_n G dL_isTableWhole_83 rfl ?_
            refine j_iload G dL_isTableWhole_84 rfl ?_
            refine j_cW_IZ G cvX6_cell mlL_176 (cm_of (c_X6_cell hi hst hS4 hW hrr hwr) (by intro E9 L9 g9 X9 Z9 hx9; have hx9 := hx9.1; omega)) dL_isTableWhole_86 (by first | exact ⟨by decide, by decide⟩ | (constructor <;> dsimp only <;> omega)) (by first | exact ⟨by decide, by decide⟩ | (constructor <;> dsimp only <;> omega)) rfl rfl (Nat.le_of_ble_eq_true rfl) (by first | assumption | decide) rfl rfl rfl (fun r86 Z86 h86 => ?_)
            obtain ⟨-, -, h86, hS5⟩ := h86
            rw [hts1] at h86
            subst h86
            refine j_iadd G dL_isTableWhole_89 ?_
            refine j_istore_n G dL_isTableWhole_90 (by decide) rfl ?_
            refine j_aload_n G dL_isTableWhole_91 rfl ?_
            refine j_iload_n G dL_isTableWhole_92 rfl ?_
            refine j_iload G dL_isTableWhole_93 rfl ?_
            refine j_cW_IZ G cvX6_cell mlL_176 (cm_of (c_X6_cell hi hst hS5 hW hrr hwr) (by intro E9 L9 g9 X9 Z9 hx9; have hx9 := hx9.1; omega)) dL_isTableWhole_95 (by first | exact ⟨by decide, by decide⟩ | (constructor <;> dsimp only <;> omega)) (by first | exact ⟨by decide, by decide⟩ | (constructor <;> dsimp only <;> omega)) rfl rfl (Nat.le_of_ble_eq_true rfl) (by first | assumption | decide) rfl rfl rfl (fun r95 Z95 h95 => ?_)
            obtain ⟨-, -, h95, hS6⟩ := h95
            rw [hts1] at h95
            subst h95
            refine j_aload_n G dL_isTableWhole_98 rfl ?_
            refine j_iload_n G dL_isTableWhole_99 rfl ?_
            refine j_iload G dL_isTableWhole_100 rfl ?_
            refine j_cW_IZ G cvX6_cell mlL_176 (cm_of (c_X6_cell hi hst hS6 hW hrr hpi) (by intro E9 L9 g9 X9 Z9 hx9; have hx9 := hx9.1; omega)) dL_isTableWhole_102 (by first | exact ⟨by decide, by decide⟩ | (constructor <;> dsimp only <;> omega)) (by first | exact ⟨by decide, by decide⟩ | (constructor <;> dsimp only <;> omega)) rfl rfl (Nat.le_of_ble_eq_true rfl) (by first | assumption | decide) rfl rfl rfl (fun r102 Z102 h102 => ?_)
            obtain ⟨-, -, h102, hS7⟩ := h102
            rw [hts1] at h102
            subst h102
            refine j_icmp_le G 110 dL_isTableWhole_105 (by decide) (by omega) (by omega) (fun c105 => ?_) (fun c105 => ?_)
            · refine j_iinc G dL_isTableWhole_110 rfl (by decide) rfl ?_
              refine j_goto G 72 dL_isTableWhole_113 (by decide) ?_
              refine j_keep [0, 1, 2, 3, 4, 5] ?_
              have e9 : sumTo rs r.toNat + sumTo (ts r) w.toNat + ts r w = sumTo rs r.toNat + sumTo (ts r) (w + 1).toNat := by rw [hst2]; omega
              rw [e9]
              exact ihj (w + 1) Z102 _ _ (by omega) (by omega) (by omega) hS7 (by omega) (by omega)
            · exfalso; omega
      refine j_iload_n G dL_isTableWhole_15 rfl ?_
      refine j_iload_n G dL_isTableWhole_16 rfl ?_
      refine j_icmp_ge G 122 dL_isTableWhole_17 (by decide) (by omega) (by omega) (fun c17 => ?_) (fun c17 => ?_)
      · exfalso; omega
      · refine j_aload_n G dL_isTableWhole_20 rfl ?_
        refine j_iload_n G dL_isTableWhole_21 rfl ?_
        refine j_cW_IZ G cvX6_peak mlL_170 (cm_of (c_X6_peak hi hst hS2 hW hrr) (by intro E9 L9 g9 X9 Z9 hx9; have hx9 := hx9.1; omega)) dL_isTableWhole_22 (by first | exact ⟨by decide, by decide⟩ | (constructor <;> dsimp only <;> omega)) (by first | exact ⟨by decide, by decide⟩ | (constructor <;> dsimp only <;> omega)) rfl rfl (Nat.le_of_ble_eq_true rfl) (by first | assumption | decide) rfl rfl rfl (fun r22 Z22 h22 => ?_)
        obtain ⟨-, -, h22, hS3⟩ := h22
        have h22 : r22 = pkF (ts r) C := by rw [h22, hts, hC]
        subst h22
        refine j_istore G dL_isTableWhole_25 (by decide) rfl ?_
        refine j_iload G dL_isTableWhole_27 rfl ?_
        refine j_iconst G dL_isTableWhole_29 ?_
        refine j_icmp_lt G 67 dL_isTableWhole_30 (by decide) (by omega) (by omega) (fun c30 => ?_) (fun c30 => ?_)
        · exfalso; omega
        · refine j_iload G dL_isTableWhole_33 rfl ?_
          refine j_aload_n G dL_isTableWhole_35 rfl ?_
          refine j_cW_IZ G cvX6_columns mlL_173 (cm_of (c_X6_columns hi hst hS3 hW) (by intro E9 L9 g9 X9 Z9 hx9; have hx9 := hx9.1; omega)) dL_isTableWhole_36 (by first | exact ⟨by decide, by decide⟩ | (constructor <;> dsimp only <;> omega)) (by first | exact ⟨by decide, by decide⟩ | (constructor <;> dsimp only <;> omega)) rfl rfl (Nat.le_of_ble_eq_true rfl) (by first | assumption | decide) rfl rfl rfl (fun r36 Z36 h36 => ?_)
          obtain ⟨-, h36, hS4⟩ := h36
          refine j_icmp_ge G 67 dL_isTableWhole_39 (by decide) (by omega) (by omega) (fun c39 => ?_) (fun c39 => ?_)
          · exfalso; omega
          · refine j_iload G dL_isTableWhole_42 rfl ?_
            refine j_if_ge G 51 dL_isTableWhole_44 (by decide) (by omega) (fun c44 => ?_) (fun c44 => ?_)
            · refine j_iconst G dL_isTableWhole_51 ?_
              refine j_aload_n G dL_isTableWhole_52 rfl ?_
              refine j_cW_IZ G cvX6_columns mlL_173 (cm_of (c_X6_columns hi hst hS4 hW) (by intro E9 L9 g9 X9 Z9 hx9; have hx9 := hx9.1; omega)) dL_isTableWhole_53 (by first | exact ⟨by decide, by decide⟩ | (constructor <;> dsimp only <;> omega)) (by first | exact ⟨by decide, by decide⟩ | (constructor <;> dsimp only <;> omega)) rfl rfl (Nat.le_of_ble_eq_true rfl) (by first | assumption | decide) rfl rfl rfl (fun r53 Z53 h53 => ?_)
              obtain ⟨-, h53, hS5⟩ := h53
              refine j_if_ne G 63 dL_isTableWhole_56 (by decide) (by omega) (fun c56 => ?_) (fun c56 => ?_)
              · refine j_iconst G dL_isTableWhole_63 ?_
                refine j_icmp_eq G 69 dL_isTableWhole_64 (by decide) (by omega) (by omega) (fun c64 => ?_) (fun c64 => ?_)
                · refine j_iconst G dL_isTableWhole_69 ?_
                  refine j_istore G dL_isTableWhole_70 (by decide) rfl ?_
                  first
                    | (exfalso; omega)
                    | (refine j_keep [0, 1, 2, 3, 4, 5] ?_
                       have e0 : sumTo rs r.toNat = sumTo rs r.toNat + sumTo (ts r) (0 : Int).toNat := by rw [show sumTo (ts r) (0 : Int).toNat = 0 from rfl]; omega
                       rw [e0]
                       exact J _ 0 Z53 _ _ rfl (by omega) (by omega) hS5 (by omega) (by omega))
                · exfalso; omega
              · refine j_iconst G dL_isTableWhole_59 ?_
                refine j_goto G 64 dL_isTableWhole_60 (by decide) ?_
                refine j_icmp_eq G 69 dL_isTableWhole_64 (by decide) (by omega) (by omega) (fun c64 => ?_) (fun c64 => ?_)
                · refine j_iconst G dL_isTableWhole_69 ?_
                  refine j_istore G dL_isTableWhole_70 (by decide) rfl ?_
                  first
                    | (exfalso; omega)
                    | (refine j_keep [0, 1, 2, 3, 4, 5] ?_
                       have e0 : sumTo rs r.toNat = sumTo rs r.toNat + sumTo (ts r) (0 : Int).toNat := by rw [show sumTo (ts r) (0 : Int).toNat = 0 from rfl]; omega
                       rw [e0]
                       exact J _ 0 Z53 _ _ rfl (by omega) (by omega) hS5 (by omega) (by omega))
                · exfalso; omega
            · refine j_iconst G dL_isTableWhole_47 ?_
              refine j_goto G 52 dL_isTableWhole_48 (by decide) ?_
              refine j_aload_n G dL_isTableWhole_52 rfl ?_
              refine j_cW_IZ G cvX6_columns mlL_173 (cm_of (c_X6_columns hi hst hS4 hW) (by intro E9 L9 g9 X9 Z9 hx9; have hx9 := hx9.1; omega)) dL_isTableWhole_53 (by first | exact ⟨by decide, by decide⟩ | (constructor <;> dsimp only <;> omega)) (by first | exact ⟨by decide, by decide⟩ | (constructor <;> dsimp only <;> omega)) rfl rfl (Nat.le_of_ble_eq_true rfl) (by first | assumption | decide) rfl rfl rfl (fun r53 Z53 h53 => ?_)
              obtain ⟨-, h53, hS5⟩ := h53
              refine j_if_ne G 63 dL_isTableWhole_56 (by decide) (by omega) (fun c56 => ?_) (fun c56 => ?_)
              · refine j_iconst G dL_isTableWhole_63 ?_
                refine j_icmp_eq G 69 dL_isTableWhole_64 (by decide) (by omega) (by omega) (fun c64 => ?_) (fun c64 => ?_)
                · refine j_iconst G dL_isTableWhole_69 ?_
                  refine j_istore G dL_isTableWhole_70 (by decide) rfl ?_
                  first
                    | (exfalso; omega)
                    | (refine j_keep [0, 1, 2, 3, 4, 5] ?_
                       have e0 : sumTo rs r.toNat = sumTo rs r.toNat + sumTo (ts r) (0 : Int).toNat := by rw [show sumTo (ts r) (0 : Int).toNat = 0 from rfl]; omega
                       rw [e0]
                       exact J _ 0 Z53 _ _ rfl (by omega) (by omega) hS5 (by omega) (by omega))
                · exfalso; omega
              · refine j_iconst G dL_isTableWhole_59 ?_
                refine j_goto G 64 dL_isTableWhole_60 (by decide) ?_
                refine j_icmp_eq G 69 dL_isTableWhole_64 (by decide) (by omega) (by omega) (fun c64 => ?_) (fun c64 => ?_)
                · refine j_iconst G dL_isTableWhole_69 ?_
                  refine j_istore G dL_isTableWhole_70 (by decide) rfl ?_
                  first
                    | (exfalso; omega)
                    | (refine j_keep [0, 1, 2, 3, 4, 5] ?_
                       have e0 : sumTo rs r.toNat = sumTo rs r.toNat + sumTo (ts r) (0 : Int).toNat := by rw [show sumTo (ts r) (0 : Int).toNat = 0 from rfl]; omega
                       rw [e0]
                       exact J _ 0 Z53 _ _ rfl (by omega) (by omega) hS5 (by omega) (by omega))
                · exfalso; omega
  refine j_istore_n G dL_isTableWhole_4 (by decide) rfl ?_
  refine j_goto G 11 dL_isTableWhole_5 (by decide) ?_
  refine j_iconst G dL_isTableWhole_11 ?_
  refine j_istore_n G dL_isTableWhole_12 (by decide) rfl ?_
  refine j_iconst G dL_isTableWhole_13 ?_
  refine j_istore_n G dL_isTableWhole_14 (by decide) rfl ?_
  refine j_keep [0, 1, 2, 3] ?_
  exact K _ 0 Z1 _ _ rfl (by omega) (by omega) hS1 (by omega) (by omega)

