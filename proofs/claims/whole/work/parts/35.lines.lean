theorem dX7_lines_0 : decode cX7_lines 0 = .ok (.aload_n 0, 1) := by decide +kernel
theorem dX7_lines_1 : decode cX7_lines 1 = .ok (.iload_n 1, 1) := by decide +kernel
theorem dX7_lines_2 : decode cX7_lines 2 = .ok (.invokevirtual 171, 3) := by decide +kernel
theorem dX7_lines_5 : decode cX7_lines 5 = .ok (.astore_n 2, 1) := by decide +kernel
theorem dX7_lines_6 : decode cX7_lines 6 = .ok (.aload_n 0, 1) := by decide +kernel
theorem dX7_lines_7 : decode cX7_lines 7 = .ok (.getfield 168, 3) := by decide +kernel
theorem dX7_lines_10 : decode cX7_lines 10 = .ok (.ifCond .ne 5, 3) := by decide +kernel
theorem dX7_lines_13 : decode cX7_lines 13 = .ok (.aload_n 2, 1) := by decide +kernel
theorem dX7_lines_14 : decode cX7_lines 14 = .ok (.areturn, 1) := by decide +kernel
theorem dX7_lines_15 : decode cX7_lines 15 = .ok (.iconst 0, 1) := by decide +kernel
theorem dX7_lines_16 : decode cX7_lines 16 = .ok (.istore_n 3, 1) := by decide +kernel
theorem dX7_lines_17 : decode cX7_lines 17 = .ok (.aload_n 2, 1) := by decide +kernel
theorem dX7_lines_18 : decode cX7_lines 18 = .ok (.astore 4, 2) := by decide +kernel
theorem dX7_lines_20 : decode cX7_lines 20 = .ok (.aload 4, 2) := by decide +kernel
theorem dX7_lines_22 : decode cX7_lines 22 = .ok (.arraylength, 1) := by decide +kernel
theorem dX7_lines_23 : decode cX7_lines 23 = .ok (.istore 5, 2) := by decide +kernel
theorem dX7_lines_25 : decode cX7_lines 25 = .ok (.iconst 0, 1) := by decide +kernel
theorem dX7_lines_26 : decode cX7_lines 26 = .ok (.istore 6, 2) := by decide +kernel
theorem dX7_lines_28 : decode cX7_lines 28 = .ok (.iload 6, 2) := by decide +kernel
theorem dX7_lines_30 : decode cX7_lines 30 = .ok (.iload 5, 2) := by decide +kernel
theorem dX7_lines_32 : decode cX7_lines 32 = .ok (.if_icmp .ge 37, 3) := by decide +kernel
theorem dX7_lines_35 : decode cX7_lines 35 = .ok (.aload 4, 2) := by decide +kernel
theorem dX7_lines_37 : decode cX7_lines 37 = .ok (.iload 6, 2) := by decide +kernel
theorem dX7_lines_39 : decode cX7_lines 39 = .ok (.iaload, 1) := by decide +kernel
theorem dX7_lines_40 : decode cX7_lines 40 = .ok (.istore 7, 2) := by decide +kernel
theorem dX7_lines_42 : decode cX7_lines 42 = .ok (.aload_n 0, 1) := by decide +kernel
theorem dX7_lines_43 : decode cX7_lines 43 = .ok (.iload_n 1, 1) := by decide +kernel
theorem dX7_lines_44 : decode cX7_lines 44 = .ok (.iload 7, 2) := by decide +kernel
theorem dX7_lines_46 : decode cX7_lines 46 = .ok (.invokevirtual 177, 3) := by decide +kernel
theorem dX7_lines_49 : decode cX7_lines 49 = .ok (.ifCond .ne 6, 3) := by decide +kernel
theorem dX7_lines_52 : decode cX7_lines 52 = .ok (.goto 11, 3) := by decide +kernel
theorem dX7_lines_55 : decode cX7_lines 55 = .ok (.aload_n 2, 1) := by decide +kernel
theorem dX7_lines_56 : decode cX7_lines 56 = .ok (.iload_n 3, 1) := by decide +kernel
theorem dX7_lines_57 : decode cX7_lines 57 = .ok (.iload 7, 2) := by decide +kernel
theorem dX7_lines_59 : decode cX7_lines 59 = .ok (.iastore, 1) := by decide +kernel
theorem dX7_lines_60 : decode cX7_lines 60 = .ok (.iinc 3 1, 3) := by decide +kernel
theorem dX7_lines_63 : decode cX7_lines 63 = .ok (.iinc 6 1, 3) := by decide +kernel
theorem dX7_lines_66 : decode cX7_lines 66 = .ok (.goto (-38), 3) := by decide +kernel
theorem dX7_lines_69 : decode cX7_lines 69 = .ok (.aload_n 2, 1) := by decide +kernel
theorem dX7_lines_70 : decode cX7_lines 70 = .ok (.iload_n 3, 1) := by decide +kernel
theorem dX7_lines_71 : decode cX7_lines 71 = .ok (.invokestatic 75, 3) := by decide +kernel
theorem dX7_lines_74 : decode cX7_lines 74 = .ok (.areturn, 1) := by decide +kernel
/-! by program: wip/whole/gen.py out of wip/whole/src/35.lines.eb -/
/-! EbbTableModel: the lines that are shown -/
set_option maxRecDepth 100000 in
set_option maxHeartbeats 8000000 in
theorem c_X7_lines {l : Launch} {D : va_G} {cys : Nat → ClassId} {ad : Nat → Int → Nat} {L : List Nat} {g : Nat → va_E} {X : Int64} {Z : ZT} (hi : injA ad) {S : ZT} {q i o : Int} (hS : RMZ S Z) (hRL : RML cys ad S L g) (hW : WF S) (ha : S 0 0 7 = 1) (hq : (q = 0 ∧ i = 0 ∧ o = 1) ∨ (q = 2 ∧ i = 1 ∧ o = 0)) : CM l D cys ad yX7_lines cX7_lines 8 (some (.array .int)) 8 205 51 1224 [.ref (ad 24 0), .int (iI q)] L g X Z (PGA L g X Z (fun r L9 g9 X9 Z9 => r ∉ L ∧ AR cys ad L9 g9 r (LN S i) ∧ EXT L g L9 g9 ∧ X9 = X ∧ Z9 = Z)) := by
  refine cm_start hi (by decide +kernel) (Nat.le_of_ble_eq_true rfl) ?_
  intro p_ e_ s_ m_ args_ below_ meth_ c_ A_ Q_ hQ G hr hin
  have hba := hW.ba
  have e13 := hS.a.2.2.2.1
  have hi2 : 0 ≤ i ∧ i < 2 := by omega
  have hal := allL_ok hW ha hi2.1 hi2.2
  have hal1 := hal.1
  have hq2 : (q = 0 ∧ i = 0) ∨ (q = 2 ∧ i = 1) := by omega
  have hus : ∀ m, usedP S i m ↔ usedA S i o (S 6 0 3) m := fun m => by
    rcases hq with ⟨_, rfl, rfl⟩ | ⟨_, rfl, rfl⟩ <;> exact Iff.rfl
  refine j_aload_n G dX7_lines_0 rfl ?_
  refine j_iload_n G dX7_lines_1 rfl ?_
  refine j_cVGA G cvX7_allLines ml7_171 (c_X7_allLines hi hS hW ha hq2) dX7_lines_2 ⟨by decide, by decide⟩ (by first | exact ⟨by decide, by decide⟩ | (constructor <;> dsimp only <;> omega)) rfl rfl (Nat.le_of_ble_eq_true rfl) (by first | assumption | decide) rfl rfl rfl (fun r2 L2 g2 X2 Z2 h2 => ?_)
  obtain ⟨p1, p2, p3, eX, eZ⟩ := h2
  subst X2 Z2
  refine j_astore_n G dX7_lines_5 (by decide) rfl ?_
  refine j_aload_n G dX7_lines_6 rfl ?_
  refine gf_24_13 G dX7_lines_7 lf7_168 (by first | assumption | decide) ?_
  refine j_if_ne G 15 dX7_lines_10 (by decide) (by omega) (fun c10 => ?_) (fun c10 => ?_)
  · refine j_iconst G dX7_lines_15 ?_
    refine j_istore_n G dX7_lines_16 (by decide) rfl ?_
    refine j_aload_n G dX7_lines_17 rfl ?_
    refine j_astore G dX7_lines_18 (by decide) rfl ?_
    have hbr : S 0 0 8 ≠ 0 := by omega
    refine j_aload G dX7_lines_20 rfl ?_
    refine j_dnA G dX7_lines_22 (by assumption) ?_
    refine j_istore G dX7_lines_23 (by decide) rfl ?_
    refine j_iconst G dX7_lines_25 ?_
    refine j_istore G dX7_lines_26 (by decide) rfl ?_
    have loop : ∀ (n : Nat) (k : Int) (V F : List Int) (c : Int) (L1 : List Nat) (g1 : Nat → va_E), 0 ≤ k → k ≤ (allL S i).length → ((allL S i).length - k).toNat = n → F = ((allL S i).take k.toNat).filter (fun m => @decide (S 0 0 8 = 0 ∨ usedP S i m) (Classical.propDecidable _)) → V.length = (allL S i).length → V.take F.length = F → (F.length : Int) ≤ k → (∀ j : Nat, k ≤ j → j < (allL S i).length → V.getD j 0 = (allL S i).getD j 0) → AR cys ad L1 g1 r2 V → EXT L g L1 g1 → c = F.length → JJ p_ l e_ { frames := 8, cells := 51, slots := 1224, locals := 205 } s_ m_ args_ below_ meth_ c_ D cys ad A_ Q_ 8 (2 + 2 * k.toNat) (48 + 48 * k.toNat) L1 g1 X Z 28 [(0, .ref (ad 24 0)), (1, .int (iI q)), (2, .ref r2), (3, .int (iI c)), (4, .ref r2), (5, .int (iI (allL S i).length)), (6, .int (iI k))] [] := by
      intro n
      induction n with
      | zero =>
        intro k V F c L1 g1 h0 h1 h2 h3 h4 h5 h6 h7 h8 h9 hcF
        have ek : k = (allL S i).length := by omega
        subst ek
        subst hcF
        rw [Int.toNat_natCast, List.take_length] at h3
        have h3 : F = LN S i := h3
        have hn1 : (0 : Int) ≤ F.length ∧ (F.length : Int) ≤ V.length := by omega
        have hVl : V.length ≤ 24 := by omega
        refine j_iload G dX7_lines_28 rfl ?_
        refine j_iload G dX7_lines_30 rfl ?_
        refine j_icmp_ge G 69 dX7_lines_32 (by decide) (by omega) (by omega) (fun c32 => ?_) (fun c32 => ?_)
        · refine j_aload_n G dX7_lines_69 rfl ?_
          refine j_iload_n G dX7_lines_70 rfl ?_
          refine j_cTGA G csJ7_copyOf_59c91 ml7_75 (c_J7_copyOf_59c91 hi h8 hn1 hVl) dX7_lines_71 ⟨by decide, by decide⟩ (by first | exact ⟨by decide, by decide⟩ | (constructor <;> dsimp only <;> omega)) rfl rfl (Nat.le_of_ble_eq_true rfl) (fun r71 L71 g71 X71 Z71 h71 => ?_)
          refine jr_GA G hQ hr (Or.inr ⟨_, rfl⟩) dX7_lines_74 (by first | decide | omega) (by first | decide | omega) ?_
          obtain ⟨s1, s2, s3, s4, s5⟩ := h71
          rw [Int.toNat_natCast, h5, h3] at s2
          exact ⟨fun z => s1 (h9.1 _ z), s2, h9.tr s3, s4, s5⟩
        · exfalso; omega
      | succ n ih =>
        intro k V F c L1 g1 h0 h1 h2 h3 h4 h5 h6 h7 h8 h9 hcF
        subst hcF
        have hk : 0 ≤ k ∧ k < (allL S i).length := by omega
        have hgm := (hal.2.2 _ (getD_mem (W := allL S i) h0 hk.2)).1
        have hRL1 := hRL.ext h9
        have hVk := h7 k.toNat (by omega) (by omega)
        have hF1 := take_getD (W := allL S i) h0 hk.2
        have hh1 : 0 ≤ k + 1 := by omega
        have hh2 : k + 1 ≤ (allL S i).length := by omega
        have hh3 : ((allL S i).length - (k + 1)).toNat = n := by omega
        refine j_iload G dX7_lines_28 rfl ?_
        refine j_iload G dX7_lines_30 rfl ?_
        refine j_icmp_ge G 69 dX7_lines_32 (by decide) (by omega) (by omega) (fun c32 => ?_) (fun c32 => ?_)
        · exfalso; omega
        · refine j_aload G dX7_lines_35 rfl ?_
          refine j_iload G dX7_lines_37 rfl ?_
          refine j_dlA G dX7_lines_39 (by assumption) (by first | omega | decide) (by omega) (by omega) ?_
          rw [hVk]
          refine j_istore G dX7_lines_40 (by decide) rfl ?_
          refine j_aload_n G dX7_lines_42 rfl ?_
          refine j_iload_n G dX7_lines_43 rfl ?_
          refine j_iload G dX7_lines_44 rfl ?_
          refine j_cVGI G cvX7_hasFact ml7_177 (c_X7_hasFact hi hS hRL1 hW ha hq hgm) dX7_lines_46 ⟨by decide, by decide⟩ (by first | exact ⟨by decide, by decide⟩ | (constructor <;> dsimp only <;> omega)) rfl rfl (Nat.le_of_ble_eq_true rfl) (by first | assumption | decide) rfl rfl rfl (fun r46 L46 g46 X46 Z46 h46 => ?_)
          obtain ⟨hu, u3, eX, eZ⟩ := h46
          subst X46 Z46
          have hu' : (r46 = 0 ∨ r46 = 1) ∧ (r46 = 0 → ¬ usedP S i ((allL S i).getD k.toNat 0)) ∧ (r46 = 1 → usedP S i ((allL S i).getD k.toNat 0)) := by
            rcases hu with z | z
            · exact ⟨Or.inr z.1, fun y => by omega, fun _ => (hus _).mpr z.2⟩
            · exact ⟨Or.inl z.1, fun _ y => z.2 ((hus _).mp y), fun y => by omega⟩
          clear hu
          have hA46 := h8.ext u3
          refine j_if_ne G 55 dX7_lines_49 (by decide) (by omega) (fun c49 => ?_) (fun c49 => ?_)
          · refine j_aload_n G dX7_lines_55 rfl ?_
            refine j_iload_n G dX7_lines_56 rfl ?_
            refine j_iload G dX7_lines_57 rfl ?_
            refine j_dst G dX7_lines_59 hA46 (by first | omega | decide) (by omega) (by omega) ?_
            refine j_iinc G dX7_lines_60 rfl (by decide) rfl ?_
            refine j_iinc G dX7_lines_63 rfl (by decide) rfl ?_
            refine j_goto G 28 dX7_lines_66 (by decide) ?_
            rw [show 2 + 2 * k.toNat + 2 = 2 + 2 * (k + 1).toNat by omega, show 48 + 48 * k.toNat + 48 = 48 + 48 * (k + 1).toNat by omega]
            refine j_keep [0, 1, 2, 3, 4, 5, 6] ?_
            first
            | (refine ih (k + 1) V F _ _ _ hh1 hh2 hh3 ?_ h4 h5 (by omega) (fun j j0 j1 => h7 j (by omega) j1) hA46 (h9.tr u3) rfl
               rw [hF1, List.filter_append, List.filter_cons_of_neg, List.filter_nil, List.append_nil]
               · exact h3
               · have hz := hu'.2.1 (by omega)
                 simp only [decide_eq_true_eq]
                 exact fun z => z.elim hbr hz)
            | (refine ih (k + 1) (V.set F.length ((allL S i).getD k.toNat 0)) (F ++ [(allL S i).getD k.toNat 0]) _ _ _ hh1 hh2 hh3 ?_ (by rw [List.length_set]; exact h4) ?_ ?_ (fun j j0 j1 => ?_) ⟨hA46.1, hA46.2.1, ?_⟩ ((h9.tr u3).up p1 _) ?_
               · rw [hF1, List.filter_append, List.filter_cons_of_pos, List.filter_nil, ← h3]
                 have hz := hu'.2.2 (by omega)
                 simp only [decide_eq_true_eq]
                 exact Or.inr hz
               · rw [List.length_append, List.length_singleton, set_take (by omega), h5]
               · rw [List.length_append, List.length_singleton]; omega
               · rw [getD_set (by omega), if_neg (by omega)]
                 exact h7 j (by omega) j1
               · rw [va_up_self, Int.toNat_natCast]
               · rw [List.length_append, List.length_singleton]; omega)
          · refine j_goto G 63 dX7_lines_52 (by decide) ?_
            refine j_iinc G dX7_lines_63 rfl (by decide) rfl ?_
            refine j_goto G 28 dX7_lines_66 (by decide) ?_
            rw [show 2 + 2 * k.toNat + 2 = 2 + 2 * (k + 1).toNat by omega, show 48 + 48 * k.toNat + 48 = 48 + 48 * (k + 1).toNat by omega]
            refine j_keep [0, 1, 2, 3, 4, 5, 6] ?_
            first
            | (refine ih (k + 1) V F _ _ _ hh1 hh2 hh3 ?_ h4 h5 (by omega) (fun j j0 j1 => h7 j (by omega) j1) hA46 (h9.tr u3) rfl
               rw [hF1, List.filter_append, List.filter_cons_of_neg, List.filter_nil, List.append_nil]
               · exact h3
               · have hz := hu'.2.1 (by omega)
                 simp only [decide_eq_true_eq]
                 exact fun z => z.elim hbr hz)
            | (refine ih (k + 1) (V.set F.length ((allL S i).getD k.toNat 0)) (F ++ [(allL S i).getD k.toNat 0]) _ _ _ hh1 hh2 hh3 ?_ (by rw [List.length_set]; exact h4) ?_ ?_ (fun j j0 j1 => ?_) ⟨hA46.1, hA46.2.1, ?_⟩ ((h9.tr u3).up p1 _) ?_
               · rw [hF1, List.filter_append, List.filter_cons_of_pos, List.filter_nil, ← h3]
                 have hz := hu'.2.2 (by omega)
                 simp only [decide_eq_true_eq]
                 exact Or.inr hz
               · rw [List.length_append, List.length_singleton, set_take (by omega), h5]
               · rw [List.length_append, List.length_singleton]; omega
               · rw [getD_set (by omega), if_neg (by omega)]
                 exact h7 j (by omega) j1
               · rw [va_up_self, Int.toNat_natCast]
               · rw [List.length_append, List.length_singleton]; omega)
    exact loop _ 0 (allL S i) [] 0 L2 g2 (by omega) (by omega) rfl rfl rfl rfl (by show (0 : Int) ≤ 0; omega) (fun _ _ _ => rfl) p2 p3 rfl
  · refine j_aload_n G dX7_lines_13 rfl ?_
    refine jr_GA G hQ hr (Or.inr ⟨_, rfl⟩) dX7_lines_14 (by first | decide | omega) (by first | decide | omega) ?_
    rw [LN_bare (by omega)]
    exact ⟨p1, p2, p3, rfl, rfl⟩

