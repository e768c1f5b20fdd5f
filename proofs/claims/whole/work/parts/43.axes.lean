theorem dX7_setAxes_0 : decode cX7_setAxes 0 = .ok (.aload_n 0, 1) := by decide +kernel
theorem dX7_setAxes_1 : decode cX7_setAxes 1 = .ok (.iconst 0, 1) := by decide +kernel
theorem dX7_setAxes_2 : decode cX7_setAxes 2 = .ok (.putfield 52, 3) := by decide +kernel
theorem dX7_setAxes_5 : decode cX7_setAxes 5 = .ok (.aload_n 0, 1) := by decide +kernel
theorem dX7_setAxes_6 : decode cX7_setAxes 6 = .ok (.iload_n 1, 1) := by decide +kernel
theorem dX7_setAxes_7 : decode cX7_setAxes 7 = .ok (.iload_n 2, 1) := by decide +kernel
theorem dX7_setAxes_8 : decode cX7_setAxes 8 = .ok (.invokevirtual 109, 3) := by decide +kernel
theorem dX7_setAxes_11 : decode cX7_setAxes 11 = .ok (.ifCond .eq 13, 3) := by decide +kernel
theorem dX7_setAxes_14 : decode cX7_setAxes 14 = .ok (.aload_n 0, 1) := by decide +kernel
theorem dX7_setAxes_15 : decode cX7_setAxes 15 = .ok (.iload_n 3, 1) := by decide +kernel
theorem dX7_setAxes_16 : decode cX7_setAxes 16 = .ok (.iload 4, 2) := by decide +kernel
theorem dX7_setAxes_18 : decode cX7_setAxes 18 = .ok (.invokevirtual 109, 3) := by decide +kernel
theorem dX7_setAxes_21 : decode cX7_setAxes 21 = .ok (.ifCond .ne 9, 3) := by decide +kernel
theorem dX7_setAxes_24 : decode cX7_setAxes 24 = .ok (.aload_n 0, 1) := by decide +kernel
theorem dX7_setAxes_25 : decode cX7_setAxes 25 = .ok (.iconst 1, 1) := by decide +kernel
theorem dX7_setAxes_26 : decode cX7_setAxes 26 = .ok (.invokevirtual 85, 3) := by decide +kernel
theorem dX7_setAxes_29 : decode cX7_setAxes 29 = .ok (.ireturn, 1) := by decide +kernel
theorem dX7_setAxes_30 : decode cX7_setAxes 30 = .ok (.iload_n 1, 1) := by decide +kernel
theorem dX7_setAxes_31 : decode cX7_setAxes 31 = .ok (.iload_n 3, 1) := by decide +kernel
theorem dX7_setAxes_32 : decode cX7_setAxes 32 = .ok (.if_icmp .ne 9, 3) := by decide +kernel
theorem dX7_setAxes_35 : decode cX7_setAxes 35 = .ok (.aload_n 0, 1) := by decide +kernel
theorem dX7_setAxes_36 : decode cX7_setAxes 36 = .ok (.iconst 2, 1) := by decide +kernel
theorem dX7_setAxes_37 : decode cX7_setAxes 37 = .ok (.invokevirtual 85, 3) := by decide +kernel
theorem dX7_setAxes_40 : decode cX7_setAxes 40 = .ok (.ireturn, 1) := by decide +kernel
theorem dX7_setAxes_41 : decode cX7_setAxes 41 = .ok (.iconst 4, 1) := by decide +kernel
theorem dX7_setAxes_42 : decode cX7_setAxes 42 = .ok (.newarray .int, 2) := by decide +kernel
theorem dX7_setAxes_44 : decode cX7_setAxes 44 = .ok (.dup, 1) := by decide +kernel
theorem dX7_setAxes_45 : decode cX7_setAxes 45 = .ok (.iconst 0, 1) := by decide +kernel
theorem dX7_setAxes_46 : decode cX7_setAxes 46 = .ok (.iload_n 1, 1) := by decide +kernel
theorem dX7_setAxes_47 : decode cX7_setAxes 47 = .ok (.iastore, 1) := by decide +kernel
theorem dX7_setAxes_48 : decode cX7_setAxes 48 = .ok (.dup, 1) := by decide +kernel
theorem dX7_setAxes_49 : decode cX7_setAxes 49 = .ok (.iconst 1, 1) := by decide +kernel
theorem dX7_setAxes_50 : decode cX7_setAxes 50 = .ok (.iload_n 2, 1) := by decide +kernel
theorem dX7_setAxes_51 : decode cX7_setAxes 51 = .ok (.iastore, 1) := by decide +kernel
theorem dX7_setAxes_52 : decode cX7_setAxes 52 = .ok (.dup, 1) := by decide +kernel
theorem dX7_setAxes_53 : decode cX7_setAxes 53 = .ok (.iconst 2, 1) := by decide +kernel
theorem dX7_setAxes_54 : decode cX7_setAxes 54 = .ok (.iload_n 3, 1) := by decide +kernel
theorem dX7_setAxes_55 : decode cX7_setAxes 55 = .ok (.iastore, 1) := by decide +kernel
theorem dX7_setAxes_56 : decode cX7_setAxes 56 = .ok (.dup, 1) := by decide +kernel
theorem dX7_setAxes_57 : decode cX7_setAxes 57 = .ok (.iconst 3, 1) := by decide +kernel
theorem dX7_setAxes_58 : decode cX7_setAxes 58 = .ok (.iload 4, 2) := by decide +kernel
theorem dX7_setAxes_60 : decode cX7_setAxes 60 = .ok (.iastore, 1) := by decide +kernel
theorem dX7_setAxes_61 : decode cX7_setAxes 61 = .ok (.astore 5, 2) := by decide +kernel
theorem dX7_setAxes_63 : decode cX7_setAxes 63 = .ok (.aload 5, 2) := by decide +kernel
theorem dX7_setAxes_65 : decode cX7_setAxes 65 = .ok (.iconst 0, 1) := by decide +kernel
theorem dX7_setAxes_66 : decode cX7_setAxes 66 = .ok (.aload_n 0, 1) := by decide +kernel
theorem dX7_setAxes_67 : decode cX7_setAxes 67 = .ok (.getfield 39, 3) := by decide +kernel
theorem dX7_setAxes_70 : decode cX7_setAxes 70 = .ok (.iconst 0, 1) := by decide +kernel
theorem dX7_setAxes_71 : decode cX7_setAxes 71 = .ok (.iconst 4, 1) := by decide +kernel
theorem dX7_setAxes_72 : decode cX7_setAxes 72 = .ok (.invokestatic 159, 3) := by decide +kernel
theorem dX7_setAxes_75 : decode cX7_setAxes 75 = .ok (.aload_n 0, 1) := by decide +kernel
theorem dX7_setAxes_76 : decode cX7_setAxes 76 = .ok (.iconst 1, 1) := by decide +kernel
theorem dX7_setAxes_77 : decode cX7_setAxes 77 = .ok (.putfield 95, 3) := by decide +kernel
theorem dX7_setAxes_80 : decode cX7_setAxes 80 = .ok (.aload_n 0, 1) := by decide +kernel
theorem dX7_setAxes_81 : decode cX7_setAxes 81 = .ok (.iconst 0, 1) := by decide +kernel
theorem dX7_setAxes_82 : decode cX7_setAxes 82 = .ok (.invokevirtual 165, 3) := by decide +kernel
theorem dX7_setAxes_85 : decode cX7_setAxes 85 = .ok (.arraylength, 1) := by decide +kernel
theorem dX7_setAxes_86 : decode cX7_setAxes 86 = .ok (.ireturn, 1) := by decide +kernel
/-! by program: wip/whole/gen.py out of wip/whole/src/43.axes.eb -/
/-! EbbTableModel: setAxes -/
set_option maxRecDepth 100000 in
set_option maxHeartbeats 8000000 in
theorem c_X7_setAxes {l : Launch} {D : va_G} {cys : Nat → ClassId} {ad : Nat → Int → Nat} {L : List Nat} {g : Nat → va_E} {X : Int64} {Z : ZT} (hi : injA ad) {S : ZT} {q ql w wl : Int} (hS : RMZ S Z) (hRL : RML cys ad S L g) (hW : WF S) (hq : inR q) (hql : inR ql) (hw : inR w) (hwl : inR wl) : CM l D cys ad yX7_setAxes cX7_setAxes 6 (some .int) 9 232 52 1228 [.ref (ad 24 0), .int (iI q), .int (iI ql), .int (iI w), .int (iI wl)] L g X Z (PGI L g X Z (fun r L9 g9 X9 Z9 => (((0 ≤ q ∧ q < S 0 0 5 ∧ 0 ≤ ql ∧ ql ≤ S 2 q 3) ∧ (0 ≤ w ∧ w < S 0 0 5 ∧ 0 ≤ wl ∧ wl ≤ S 2 w 3) ∧ q ≠ w ∧ r = (LN (axSt S q ql w wl) 0).length ∧ Z9 24 0 0 = 0 ∧ RMZ (axSt S q ql w wl) Z9 ∧ ∀ k : Nat, k < 24 → Z9 k = Z k) ∨ (¬ ((0 ≤ q ∧ q < S 0 0 5 ∧ 0 ≤ ql ∧ ql ≤ S 2 q 3) ∧ (0 ≤ w ∧ w < S 0 0 5 ∧ 0 ≤ wl ∧ wl ≤ S 2 w 3)) ∧ r = 0 ∧ MTH 1 Z Z9) ∨ ((0 ≤ q ∧ q < S 0 0 5 ∧ 0 ≤ ql ∧ ql ≤ S 2 q 3) ∧ (0 ≤ w ∧ w < S 0 0 5 ∧ 0 ≤ wl ∧ wl ≤ S 2 w 3) ∧ q = w ∧ r = 0 ∧ MTH 2 Z Z9)) ∧ EXT L g L9 g9 ∧ X9 = X)) := by
  refine cm_start hi (by decide +kernel) (Nat.le_of_ble_eq_true rfl) ?_
  intro p_ e_ s_ m_ args_ below_ meth_ c_ A_ Q_ hQ G hr hin
  have hS1 := hS.th 0
  refine j_aload_n G dX7_setAxes_0 rfl ?_
  refine j_iconst G dX7_setAxes_1 ?_
  refine pf_24_0 G dX7_setAxes_2 lf7_52 (by first | assumption | decide) ?_
  refine j_aload_n G dX7_setAxes_5 rfl ?_
  refine j_iload_n G dX7_setAxes_6 rfl ?_
  refine j_iload_n G dX7_setAxes_7 rfl ?_
  refine j_cVI G cvX7_isLevel ml7_109 (c_X7_isLevel hi hS1 hW hq hql) dX7_setAxes_8 ⟨by decide, by decide⟩ (by first | exact ⟨by decide, by decide⟩ | (constructor <;> dsimp only <;> omega)) rfl rfl (Nat.le_of_ble_eq_true rfl) (by first | assumption | decide) rfl rfl rfl (fun r8 h8 => ?_)
  refine j_if_eq G 24 dX7_setAxes_11 (by decide) (by omega) (fun c11 => ?_) (fun c11 => ?_)
  · refine j_aload_n G dX7_setAxes_24 rfl ?_
    refine j_iconst G dX7_setAxes_25 ?_
    refine j_cVIZ G cvX7_refuse ml7_85 (c_X7_refuse hi ) dX7_setAxes_26 ⟨by decide, by decide⟩ (by first | exact ⟨by decide, by decide⟩ | (constructor <;> dsimp only <;> omega)) rfl rfl (Nat.le_of_ble_eq_true rfl) (by first | assumption | decide) rfl rfl rfl (fun r26 Z26 h26 => ?_)
    refine jr_GI G hQ hr dX7_setAxes_29 (by first | decide | omega) (by first | decide | omega) ?_
    try simp (config := { decide := true }) only [zS_k, zS_s, zS_j, ne_eq]
    exact ⟨Or.inr (Or.inl ⟨by omega, h26.1, MTH.up h26.2⟩), EXT.rf _ _, by first | rfl | trivial⟩
  · refine j_aload_n G dX7_setAxes_14 rfl ?_
    refine j_iload_n G dX7_setAxes_15 rfl ?_
    refine j_iload G dX7_setAxes_16 rfl ?_
    refine j_cVI G cvX7_isLevel ml7_109 (c_X7_isLevel hi hS1 hW hw hwl) dX7_setAxes_18 ⟨by decide, by decide⟩ (by first | exact ⟨by decide, by decide⟩ | (constructor <;> dsimp only <;> omega)) rfl rfl (Nat.le_of_ble_eq_true rfl) (by first | assumption | decide) rfl rfl rfl (fun r18 h18 => ?_)
    refine j_if_ne G 30 dX7_setAxes_21 (by decide) (by omega) (fun c21 => ?_) (fun c21 => ?_)
    · refine j_iload_n G dX7_setAxes_30 rfl ?_
      refine j_iload_n G dX7_setAxes_31 rfl ?_
      refine j_icmp_ne G 41 dX7_setAxes_32 (by decide) (by omega) (by omega) (fun c32 => ?_) (fun c32 => ?_)
      · refine j_iconst G dX7_setAxes_41 ?_
        refine j_newI G dX7_setAxes_42 (TW_of 124 (by decide +kernel) (by decide +kernel)) (by omega) (by omega) (by first | exact ⟨by decide, by decide⟩ | (constructor <;> dsimp only <;> omega)) (fun a42 na42 ns42 => ?_)
        refine j_dup G dX7_setAxes_44 rfl ?_
        refine j_iconst G dX7_setAxes_45 ?_
        refine j_iload_n G dX7_setAxes_46 rfl ?_
        refine j_dst G dX7_setAxes_47 ⟨List.mem_append_right _ (List.mem_singleton.mpr rfl), ns42, va_up_self _ _ _⟩ (by first | omega | decide | (simp only [List.length_set, List.length_replicate]; decide)) (by omega) (by first | omega | (simp only [List.length_set, List.length_replicate]; decide)) ?_
        refine j_dup G dX7_setAxes_48 rfl ?_
        refine j_iconst G dX7_setAxes_49 ?_
        refine j_iload_n G dX7_setAxes_50 rfl ?_
        refine j_dst G dX7_setAxes_51 ⟨List.mem_append_right _ (List.mem_singleton.mpr rfl), ns42, va_up_self _ _ _⟩ (by first | omega | decide | (simp only [List.length_set, List.length_replicate]; decide)) (by omega) (by first | omega | (simp only [List.length_set, List.length_replicate]; decide)) ?_
        refine j_dup G dX7_setAxes_52 rfl ?_
        refine j_iconst G dX7_setAxes_53 ?_
        refine j_iload_n G dX7_setAxes_54 rfl ?_
        refine j_dst G dX7_setAxes_55 ⟨List.mem_append_right _ (List.mem_singleton.mpr rfl), ns42, va_up_self _ _ _⟩ (by first | omega | decide | (simp only [List.length_set, List.length_replicate]; decide)) (by omega) (by first | omega | (simp only [List.length_set, List.length_replicate]; decide)) ?_
        refine j_dup G dX7_setAxes_56 rfl ?_
        refine j_iconst G dX7_setAxes_57 ?_
        refine j_iload G dX7_setAxes_58 rfl ?_
        refine j_dst G dX7_setAxes_60 ⟨List.mem_append_right _ (List.mem_singleton.mpr rfl), ns42, va_up_self _ _ _⟩ (by first | omega | decide | (simp only [List.length_set, List.length_replicate]; decide)) (by omega) (by first | omega | (simp only [List.length_set, List.length_replicate]; decide)) ?_
        refine j_astore G dX7_setAxes_61 (by decide) rfl ?_
        refine j_aload G dX7_setAxes_63 rfl ?_
        refine j_iconst G dX7_setAxes_65 ?_
        refine j_aload_n G dX7_setAxes_66 rfl ?_
        refine gf_24_12 G dX7_setAxes_67 lf7_39 (by first | assumption | decide) ?_
        refine j_iconst G dX7_setAxes_70 ?_
        refine j_iconst G dX7_setAxes_71 ?_
        refine j_copyS G 35 0 (TW_of 1245 (by decide +kernel) (by decide +kernel)) dX7_setAxes_72 ⟨List.mem_append_right _ (List.mem_singleton.mpr rfl), ns42, va_up_self _ _ _⟩ (fun _ => rfl) (by decide) (by rfl) (by decide) ⟨by decide, Nat.le_of_ble_eq_true rfl⟩ (fun Z72 u72 w72 => ?_)
        refine j_aload_n G dX7_setAxes_75 rfl ?_
        refine j_iconst G dX7_setAxes_76 ?_
        refine pf_24_11 G dX7_setAxes_77 lf7_95 (by first | assumption | decide) (by omega) ?_
        have hqq : 0 ≤ q ∧ q < S 0 0 5 ∧ 0 ≤ ql ∧ ql ≤ S 2 q 3 := by omega
        have hww : 0 ≤ w ∧ w < S 0 0 5 ∧ 0 ≤ wl ∧ wl ≤ S 2 w 3 := by omega
        have x0 : Z72 35 0 0 = q := w72 0 (by omega) (by decide)
        have x1 : Z72 35 0 1 = ql := w72 1 (by omega) (by decide)
        have x2 : Z72 35 0 2 = w := w72 2 (by omega) (by decide)
        have x3 : Z72 35 0 3 = wl := w72 3 (by omega) (by decide)
        have hSA : RMZ (axSt S q ql w wl) (zS Z72 24 0 11 1) := hS.axes u72 x0 x1 x2 x3
        have hWA := hW.of_AX hqq.1 hqq.2.1 hqq.2.2.1 hqq.2.2.2 hww.1 hww.2.1 hww.2.2.1 hww.2.2.2 (by omega)
        have haA : axSt S q ql w wl 0 0 7 = 1 := by rw [axSt_0]; rfl
        have hq0 : ((0 : Int) = 0 ∧ (0 : Int) = 0 ∧ (1 : Int) = 1) ∨ ((0 : Int) = 2 ∧ (0 : Int) = 1 ∧ (1 : Int) = 0) := by decide
        refine j_aload_n G dX7_setAxes_80 rfl ?_
        refine j_iconst G dX7_setAxes_81 ?_
        refine j_cVGA G cvX7_lines ml7_165 (c_X7_lines hi hSA (RML.axes (hRL.ext (((((((EXT.rf L g).push na42 _).up na42 _).up na42 _).up na42 _).up na42 _)))) hWA haA hq0) dX7_setAxes_82 ⟨by decide, by decide⟩ (by first | exact ⟨by decide, by decide⟩ | (constructor <;> dsimp only <;> omega)) rfl rfl (Nat.le_of_ble_eq_true rfl) (by first | assumption | decide) rfl rfl rfl (fun r82 L82 g82 X82 Z82 h82 => ?_)
        obtain ⟨p1, p2, p3, eX, eZ⟩ := h82
        subst X82 Z82
        refine j_dnA G dX7_setAxes_85 (by assumption) ?_
        refine jr_GI G hQ hr dX7_setAxes_86 (by first | decide | omega) (by first | decide | omega) ?_
        try simp (config := { decide := true }) only [zS_k, zS_s, zS_j, ne_eq]
        refine ⟨Or.inl ⟨hqq, hww, by omega, by first | rfl | trivial, ?_, hSA, fun k hk => ?_⟩, ((((((EXT.rf L g).push na42 _).up na42 _).up na42 _).up na42 _).up na42 _).tr p3, by first | rfl | trivial⟩
        · rw [u72 24 0 (by decide), zS_s]
        · rw [zS_k (by omega)]
          funext i
          rw [u72 k i (by omega), zS_k (by omega)]
      · refine j_aload_n G dX7_setAxes_35 rfl ?_
        refine j_iconst G dX7_setAxes_36 ?_
        refine j_cVIZ G cvX7_refuse ml7_85 (c_X7_refuse hi ) dX7_setAxes_37 ⟨by decide, by decide⟩ (by first | exact ⟨by decide, by decide⟩ | (constructor <;> dsimp only <;> omega)) rfl rfl (Nat.le_of_ble_eq_true rfl) (by first | assumption | decide) rfl rfl rfl (fun r37 Z37 h37 => ?_)
        refine jr_GI G hQ hr dX7_setAxes_40 (by first | decide | omega) (by first | decide | omega) ?_
        try simp (config := { decide := true }) only [zS_k, zS_s, zS_j, ne_eq]
        exact ⟨Or.inr (Or.inr ⟨by omega, by omega, by omega, h37.1, MTH.up h37.2⟩), EXT.rf _ _, by first | rfl | trivial⟩
    · refine j_aload_n G dX7_setAxes_24 rfl ?_
      refine j_iconst G dX7_setAxes_25 ?_
      refine j_cVIZ G cvX7_refuse ml7_85 (c_X7_refuse hi ) dX7_setAxes_26 ⟨by decide, by decide⟩ (by first | exact ⟨by decide, by decide⟩ | (constructor <;> dsimp only <;> omega)) rfl rfl (Nat.le_of_ble_eq_true rfl) (by first | assumption | decide) rfl rfl rfl (fun r26 Z26 h26 => ?_)
      refine jr_GI G hQ hr dX7_setAxes_29 (by first | decide | omega) (by first | decide | omega) ?_
      try simp (config := { decide := true }) only [zS_k, zS_s, zS_j, ne_eq]
      exact ⟨Or.inr (Or.inl ⟨by omega, h26.1, MTH.up h26.2⟩), EXT.rf _ _, by first | rfl | trivial⟩

