theorem dX7_hasFact_0 : decode cX7_hasFact 0 = .ok (.iconst 0, 1) := by decide +kernel
theorem dX7_hasFact_1 : decode cX7_hasFact 1 = .ok (.istore_n 3, 1) := by decide +kernel
theorem dX7_hasFact_2 : decode cX7_hasFact 2 = .ok (.aload_n 0, 1) := by decide +kernel
theorem dX7_hasFact_3 : decode cX7_hasFact 3 = .ok (.iconst 2, 1) := by decide +kernel
theorem dX7_hasFact_4 : decode cX7_hasFact 4 = .ok (.iload_n 1, 1) := by decide +kernel
theorem dX7_hasFact_5 : decode cX7_hasFact 5 = .ok (.isub, 1) := by decide +kernel
theorem dX7_hasFact_6 : decode cX7_hasFact 6 = .ok (.invokevirtual 171, 3) := by decide +kernel
theorem dX7_hasFact_9 : decode cX7_hasFact 9 = .ok (.astore 4, 2) := by decide +kernel
theorem dX7_hasFact_11 : decode cX7_hasFact 11 = .ok (.aload 4, 2) := by decide +kernel
theorem dX7_hasFact_13 : decode cX7_hasFact 13 = .ok (.arraylength, 1) := by decide +kernel
theorem dX7_hasFact_14 : decode cX7_hasFact 14 = .ok (.istore 5, 2) := by decide +kernel
theorem dX7_hasFact_16 : decode cX7_hasFact 16 = .ok (.iconst 0, 1) := by decide +kernel
theorem dX7_hasFact_17 : decode cX7_hasFact 17 = .ok (.istore 6, 2) := by decide +kernel
theorem dX7_hasFact_19 : decode cX7_hasFact 19 = .ok (.iload 6, 2) := by decide +kernel
theorem dX7_hasFact_21 : decode cX7_hasFact 21 = .ok (.iload 5, 2) := by decide +kernel
theorem dX7_hasFact_23 : decode cX7_hasFact 23 = .ok (.if_icmp .ge 62, 3) := by decide +kernel
theorem dX7_hasFact_26 : decode cX7_hasFact 26 = .ok (.aload 4, 2) := by decide +kernel
theorem dX7_hasFact_28 : decode cX7_hasFact 28 = .ok (.iload 6, 2) := by decide +kernel
theorem dX7_hasFact_30 : decode cX7_hasFact 30 = .ok (.iaload, 1) := by decide +kernel
theorem dX7_hasFact_31 : decode cX7_hasFact 31 = .ok (.istore 7, 2) := by decide +kernel
theorem dX7_hasFact_33 : decode cX7_hasFact 33 = .ok (.iconst 0, 1) := by decide +kernel
theorem dX7_hasFact_34 : decode cX7_hasFact 34 = .ok (.istore 8, 2) := by decide +kernel
theorem dX7_hasFact_36 : decode cX7_hasFact 36 = .ok (.iload 8, 2) := by decide +kernel
theorem dX7_hasFact_38 : decode cX7_hasFact 38 = .ok (.aload_n 0, 1) := by decide +kernel
theorem dX7_hasFact_39 : decode cX7_hasFact 39 = .ok (.getfield 89, 3) := by decide +kernel
theorem dX7_hasFact_42 : decode cX7_hasFact 42 = .ok (.if_icmp .ge 37, 3) := by decide +kernel
theorem dX7_hasFact_45 : decode cX7_hasFact 45 = .ok (.iload_n 3, 1) := by decide +kernel
theorem dX7_hasFact_46 : decode cX7_hasFact 46 = .ok (.iload_n 1, 1) := by decide +kernel
theorem dX7_hasFact_47 : decode cX7_hasFact 47 = .ok (.ifCond .ne 15, 3) := by decide +kernel
theorem dX7_hasFact_50 : decode cX7_hasFact 50 = .ok (.aload_n 0, 1) := by decide +kernel
theorem dX7_hasFact_51 : decode cX7_hasFact 51 = .ok (.iload 8, 2) := by decide +kernel
theorem dX7_hasFact_53 : decode cX7_hasFact 53 = .ok (.iload_n 2, 1) := by decide +kernel
theorem dX7_hasFact_54 : decode cX7_hasFact 54 = .ok (.iload 7, 2) := by decide +kernel
theorem dX7_hasFact_56 : decode cX7_hasFact 56 = .ok (.invokevirtual 174, 3) := by decide +kernel
theorem dX7_hasFact_59 : decode cX7_hasFact 59 = .ok (.goto 12, 3) := by decide +kernel
theorem dX7_hasFact_62 : decode cX7_hasFact 62 = .ok (.aload_n 0, 1) := by decide +kernel
theorem dX7_hasFact_63 : decode cX7_hasFact 63 = .ok (.iload 8, 2) := by decide +kernel
theorem dX7_hasFact_65 : decode cX7_hasFact 65 = .ok (.iload 7, 2) := by decide +kernel
theorem dX7_hasFact_67 : decode cX7_hasFact 67 = .ok (.iload_n 2, 1) := by decide +kernel
theorem dX7_hasFact_68 : decode cX7_hasFact 68 = .ok (.invokevirtual 174, 3) := by decide +kernel
theorem dX7_hasFact_71 : decode cX7_hasFact 71 = .ok (.ior, 1) := by decide +kernel
theorem dX7_hasFact_72 : decode cX7_hasFact 72 = .ok (.istore_n 3, 1) := by decide +kernel
theorem dX7_hasFact_73 : decode cX7_hasFact 73 = .ok (.iinc 8 1, 3) := by decide +kernel
theorem dX7_hasFact_76 : decode cX7_hasFact 76 = .ok (.goto (-40), 3) := by decide +kernel
theorem dX7_hasFact_79 : decode cX7_hasFact 79 = .ok (.iinc 6 1, 3) := by decide +kernel
theorem dX7_hasFact_82 : decode cX7_hasFact 82 = .ok (.goto (-63), 3) := by decide +kernel
theorem dX7_hasFact_85 : decode cX7_hasFact 85 = .ok (.iload_n 3, 1) := by decide +kernel
theorem dX7_hasFact_86 : decode cX7_hasFact 86 = .ok (.ireturn, 1) := by decide +kernel
/-! by program: wip/whole/gen.py out of wip/whole/src/34.lines.eb -/
/-! EbbTableModel: which lines there are -/
set_option maxRecDepth 100000 in
set_option maxHeartbeats 8000000 in
theorem c_X7_hasFact {l : Launch} {D : va_G} {cys : Nat → ClassId} {ad : Nat → Int → Nat} {L : List Nat} {g : Nat → va_E} {X : Int64} {Z : ZT} (hi : injA ad) {S : ZT} {q i o w : Int} (hS : RMZ S Z) (hRL : RML cys ad S L g) (hW : WF S) (ha : S 0 0 7 = 1) (hq : (q = 0 ∧ i = 0 ∧ o = 1) ∨ (q = 2 ∧ i = 1 ∧ o = 0)) (hw : 0 ≤ w ∧ w < S 2 (S 15 i 4) 4) : CM l D cys ad yX7_hasFact cX7_hasFact 9 (some .boolean) 7 177 2 48 [.ref (ad 24 0), .int (iI q), .int (iI w)] L g X Z (PGI L g X Z (fun r L9 g9 X9 Z9 => ((r = 1 ∧ usedA S i o (S 6 0 3) w) ∨ (r = 0 ∧ ¬ usedA S i o (S 6 0 3) w)) ∧ EXT L g L9 g9 ∧ X9 = X ∧ Z9 = Z)) := by
  refine cm_start hi (by decide +kernel) (Nat.le_of_ble_eq_true rfl) ?_
  intro p_ e_ s_ m_ args_ below_ meth_ c_ A_ Q_ hQ G hr hin
  have hf := hW.f
  have e63 := hS.a.2.1
  have ho2 : 0 ≤ o ∧ o < 2 := by omega
  have hal := allL_ok hW ha ho2.1 ho2.2
  rcases hq with ⟨rfl, rfl, rfl⟩ | ⟨rfl, rfl, rfl⟩
  · have hq2 : ((2 : Int) - 0 = 0 ∧ (1 : Int) = 0) ∨ ((2 : Int) - 0 = 2 ∧ (1 : Int) = 1) := by omega
    refine j_iconst G dX7_hasFact_0 ?_
    refine j_istore_n G dX7_hasFact_1 (by decide) rfl ?_
    refine j_aload_n G dX7_hasFact_2 rfl ?_
    refine j_iconst G dX7_hasFact_3 ?_
    refine j_iload_n G dX7_hasFact_4 rfl ?_
    refine j_isub G dX7_hasFact_5 ?_
    refine j_cVGA G cvX7_allLines ml7_171 (c_X7_allLines hi hS hW ha hq2) dX7_hasFact_6 ⟨by decide, by decide⟩ (by first | exact ⟨by decide, by decide⟩ | (constructor <;> dsimp only <;> omega)) rfl rfl (Nat.le_of_ble_eq_true rfl) (by first | assumption | decide) rfl rfl rfl (fun r6 L6 g6 X6 Z6 h6 => ?_)
    obtain ⟨p1, p2, p3, eX, eZ⟩ := h6
    subst X6 Z6
    have hRL6 := hRL.ext p3
    refine j_astore G dX7_hasFact_9 (by decide) rfl ?_
    refine j_aload G dX7_hasFact_11 rfl ?_
    refine j_dnA G dX7_hasFact_13 (by assumption) ?_
    refine j_istore G dX7_hasFact_14 (by decide) rfl ?_
    refine j_iconst G dX7_hasFact_16 ?_
    refine j_istore G dX7_hasFact_17 (by decide) rfl ?_
    have loop : ∀ (n : Nat) (a b : Int) (vs7 : List (Nat × Value)), 0 ≤ a → a ≤ (allL S 1).length → ((allL S 1).length - a).toNat = n → (b = 0 ∨ b = 1) → (b = 1 ↔ HFQ S 0 1 w a) → JJ p_ l e_ { frames := 7, cells := 2, slots := 48, locals := 177 } s_ m_ args_ below_ meth_ c_ D cys ad A_ Q_ 9 2 48 L6 g6 X Z 19 [(0, .ref (ad 24 0)), (1, .int (iI 0)), (2, .int (iI w)), (3, .int (iI b)), (4, .ref r6), (5, .int (iI (allL S 1).length)), (6, .int (iI a))] [] := by
      intro n
      induction n with
      | zero =>
        intro a b vs7 h0 h1 h2 h3 h4
        have ea : a = (allL S 1).length := by omega
        subst ea
        refine j_iload G dX7_hasFact_19 rfl ?_
        refine j_iload G dX7_hasFact_21 rfl ?_
        refine j_icmp_ge G 85 dX7_hasFact_23 (by decide) (by omega) (by omega) (fun c23 => ?_) (fun c23 => ?_)
        · refine j_iload_n G dX7_hasFact_85 rfl ?_
          refine jr_GB G hQ hr dX7_hasFact_86 (by first | decide | omega) (by first | decide | omega) (by omega) ?_
          refine ⟨?_, p3, rfl, rfl⟩
          rw [← HFQ_e]
          rcases h3 with z | z
          · exact Or.inr ⟨z, fun y => by have := h4.mpr y; omega⟩
          · exact Or.inl ⟨z, h4.mp z⟩
        · exfalso; omega
      | succ n ih =>
        intro a b vs7 h0 h1 h2 h3 h4
        have hgm := hal.2.2 _ (getD_mem (W := allL S 1) h0 (by omega))
        have hother : 0 ≤ (allL S 1).getD a.toNat 0 ∧ (allL S 1).getD a.toNat 0 < S 2 (S 15 1 4) 4 := hgm.1
        have inner : ∀ (m : Nat) (c f : Int), 0 ≤ c → c ≤ S 6 0 3 → (S 6 0 3 - c).toNat = m → (f = 0 ∨ f = 1) → (f = 1 ↔ (HFQ S 0 1 w a ∨ ∃ k, 0 ≤ k ∧ k < c ∧ HFP S 0 1 w ((allL S 1).getD a.toNat 0) k)) → JJ p_ l e_ { frames := 7, cells := 2, slots := 48, locals := 177 } s_ m_ args_ below_ meth_ c_ D cys ad A_ Q_ 9 2 48 L6 g6 X Z 36 [(0, .ref (ad 24 0)), (1, .int (iI 0)), (2, .int (iI w)), (3, .int (iI f)), (4, .ref r6), (5, .int (iI (allL S 1).length)), (6, .int (iI a)), (7, .int (iI ((allL S 1).getD a.toNat 0))), (8, .int (iI c))] [] := by
          intro m
          induction m with
          | zero =>
            intro c f g0 g1 g2 g3 g4
            have ec : c = S 6 0 3 := by omega
            subst ec
            refine j_iload G dX7_hasFact_36 rfl ?_
            refine j_aload_n G dX7_hasFact_38 rfl ?_
            refine gf_24_8 G dX7_hasFact_39 lf7_89 (by first | assumption | decide) ?_
            refine j_icmp_ge G 79 dX7_hasFact_42 (by decide) (by omega) (by omega) (fun c42 => ?_) (fun c42 => ?_)
            · refine j_iinc G dX7_hasFact_79 rfl (by decide) rfl ?_
              refine j_goto G 19 dX7_hasFact_82 (by decide) ?_
              refine j_keep [0, 1, 2, 3, 4, 5, 6] ?_
              exact ih (a + 1) f [] (by omega) (by omega) (by omega) g3 (by rw [HFQ_s h0]; exact g4)
            · exfalso; omega
          | succ m ihm =>
            intro c f g0 g1 g2 g3 g4
            have hc : 0 ≤ c ∧ c < S 6 0 3 := by omega
            have hm1 : 0 ≤ c + 1 := by omega
            have hm2 : c + 1 ≤ S 6 0 3 := by omega
            have hm3 : (S 6 0 3 - (c + 1)).toNat = m := by omega
            refine j_iload G dX7_hasFact_36 rfl ?_
            refine j_aload_n G dX7_hasFact_38 rfl ?_
            refine gf_24_8 G dX7_hasFact_39 lf7_89 (by first | assumption | decide) ?_
            refine j_icmp_ge G 79 dX7_hasFact_42 (by decide) (by omega) (by omega) (fun c42 => ?_) (fun c42 => ?_)
            · exfalso; omega
            · refine j_iload_n G dX7_hasFact_45 rfl ?_
              refine j_iload_n G dX7_hasFact_46 rfl ?_
              refine j_if_ne G 62 dX7_hasFact_47 (by decide) (by omega) (fun c47 => ?_) (fun c47 => ?_)
              · exfalso; omega
              · refine j_aload_n G dX7_hasFact_50 rfl ?_
                refine j_iload G dX7_hasFact_51 rfl ?_
                refine j_iload_n G dX7_hasFact_53 rfl ?_
                refine j_iload G dX7_hasFact_54 rfl ?_
                refine j_cVI G cvX7_isIn ml7_174 (c_X7_isIn hi hS hRL6 hW ha hc hw hother) dX7_hasFact_56 ⟨by decide, by decide⟩ (by first | exact ⟨by decide, by decide⟩ | (constructor <;> dsimp only <;> omega)) rfl rfl (Nat.le_of_ble_eq_true rfl) (by first | assumption | decide) rfl rfl rfl (fun r56 h56 => ?_)
                have h56r : r56 = 0 ∨ r56 = 1 := by rcases h56 with z | z <;> omega
                refine j_goto G 71 dX7_hasFact_59 (by decide) ?_
                refine j_ior G dX7_hasFact_71 (or_01 g3 h56r) ?_
                refine j_istore_n G dX7_hasFact_72 (by decide) rfl ?_
                refine j_iinc G dX7_hasFact_73 rfl (by decide) rfl ?_
                refine j_goto G 36 dX7_hasFact_76 (by decide) ?_
                refine ihm (c + 1) _ hm1 hm2 hm3 if_01 (ex_step g0 g4 ?_)
                unfold HFP
                rcases h56 with z | z
                · exact ⟨fun _ => ⟨z.2.1, z.2.2.1, z.2.2.2⟩, fun _ => z.1⟩
                · exact ⟨fun y => by omega, fun y => absurd y z.2⟩
        refine j_iload G dX7_hasFact_19 rfl ?_
        refine j_iload G dX7_hasFact_21 rfl ?_
        refine j_icmp_ge G 85 dX7_hasFact_23 (by decide) (by omega) (by omega) (fun c23 => ?_) (fun c23 => ?_)
        · exfalso; omega
        · refine j_aload G dX7_hasFact_26 rfl ?_
          refine j_iload G dX7_hasFact_28 rfl ?_
          refine j_dlA G dX7_hasFact_30 (by assumption) (by first | omega | decide) (by omega) (by omega) ?_
          refine j_istore G dX7_hasFact_31 (by decide) rfl ?_
          refine j_iconst G dX7_hasFact_33 ?_
          refine j_istore G dX7_hasFact_34 (by decide) rfl ?_
          exact inner _ 0 b (by omega) (by omega) rfl h3 (h4.trans ⟨fun z => Or.inl z, fun z => z.elim id (fun ⟨k, k0, k1, _⟩ => by omega)⟩)
    exact loop _ 0 0 [] (by omega) (by omega) rfl (Or.inl rfl) ⟨fun z => by omega, fun ⟨j, j0, j1, _⟩ => by omega⟩
  · have hq2 : ((2 : Int) - 2 = 0 ∧ (0 : Int) = 0) ∨ ((2 : Int) - 2 = 2 ∧ (0 : Int) = 1) := by omega
    refine j_iconst G dX7_hasFact_0 ?_
    refine j_istore_n G dX7_hasFact_1 (by decide) rfl ?_
    refine j_aload_n G dX7_hasFact_2 rfl ?_
    refine j_iconst G dX7_hasFact_3 ?_
    refine j_iload_n G dX7_hasFact_4 rfl ?_
    refine j_isub G dX7_hasFact_5 ?_
    refine j_cVGA G cvX7_allLines ml7_171 (c_X7_allLines hi hS hW ha hq2) dX7_hasFact_6 ⟨by decide, by decide⟩ (by first | exact ⟨by decide, by decide⟩ | (constructor <;> dsimp only <;> omega)) rfl rfl (Nat.le_of_ble_eq_true rfl) (by first | assumption | decide) rfl rfl rfl (fun r6 L6 g6 X6 Z6 h6 => ?_)
    obtain ⟨p1, p2, p3, eX, eZ⟩ := h6
    subst X6 Z6
    have hRL6 := hRL.ext p3
    refine j_astore G dX7_hasFact_9 (by decide) rfl ?_
    refine j_aload G dX7_hasFact_11 rfl ?_
    refine j_dnA G dX7_hasFact_13 (by assumption) ?_
    refine j_istore G dX7_hasFact_14 (by decide) rfl ?_
    refine j_iconst G dX7_hasFact_16 ?_
    refine j_istore G dX7_hasFact_17 (by decide) rfl ?_
    have loop : ∀ (n : Nat) (a b : Int) (vs7 : List (Nat × Value)), 0 ≤ a → a ≤ (allL S 0).length → ((allL S 0).length - a).toNat = n → (b = 0 ∨ b = 1) → (b = 1 ↔ HFQ S 1 0 w a) → JJ p_ l e_ { frames := 7, cells := 2, slots := 48, locals := 177 } s_ m_ args_ below_ meth_ c_ D cys ad A_ Q_ 9 2 48 L6 g6 X Z 19 [(0, .ref (ad 24 0)), (1, .int (iI 2)), (2, .int (iI w)), (3, .int (iI b)), (4, .ref r6), (5, .int (iI (allL S 0).length)), (6, .int (iI a))] [] := by
      intro n
      induction n with
      | zero =>
        intro a b vs7 h0 h1 h2 h3 h4
        have ea : a = (allL S 0).length := by omega
        subst ea
        refine j_iload G dX7_hasFact_19 rfl ?_
        refine j_iload G dX7_hasFact_21 rfl ?_
        refine j_icmp_ge G 85 dX7_hasFact_23 (by decide) (by omega) (by omega) (fun c23 => ?_) (fun c23 => ?_)
        · refine j_iload_n G dX7_hasFact_85 rfl ?_
          refine jr_GB G hQ hr dX7_hasFact_86 (by first | decide | omega) (by first | decide | omega) (by omega) ?_
          refine ⟨?_, p3, rfl, rfl⟩
          rw [← HFQ_e]
          rcases h3 with z | z
          · exact Or.inr ⟨z, fun y => by have := h4.mpr y; omega⟩
          · exact Or.inl ⟨z, h4.mp z⟩
        · exfalso; omega
      | succ n ih =>
        intro a b vs7 h0 h1 h2 h3 h4
        have hgm := hal.2.2 _ (getD_mem (W := allL S 0) h0 (by omega))
        have hother : 0 ≤ (allL S 0).getD a.toNat 0 ∧ (allL S 0).getD a.toNat 0 < S 2 (S 15 0 4) 4 := hgm.1
        have inner : ∀ (m : Nat) (c f : Int), 0 ≤ c → c ≤ S 6 0 3 → (S 6 0 3 - c).toNat = m → (f = 0 ∨ f = 1) → (f = 1 ↔ (HFQ S 1 0 w a ∨ ∃ k, 0 ≤ k ∧ k < c ∧ HFP S 1 0 w ((allL S 0).getD a.toNat 0) k)) → JJ p_ l e_ { frames := 7, cells := 2, slots := 48, locals := 177 } s_ m_ args_ below_ meth_ c_ D cys ad A_ Q_ 9 2 48 L6 g6 X Z 36 [(0, .ref (ad 24 0)), (1, .int (iI 2)), (2, .int (iI w)), (3, .int (iI f)), (4, .ref r6), (5, .int (iI (allL S 0).length)), (6, .int (iI a)), (7, .int (iI ((allL S 0).getD a.toNat 0))), (8, .int (iI c))] [] := by
          intro m
          induction m with
          | zero =>
            intro c f g0 g1 g2 g3 g4
            have ec : c = S 6 0 3 := by omega
            subst ec
            refine j_iload G dX7_hasFact_36 rfl ?_
            refine j_aload_n G dX7_hasFact_38 rfl ?_
            refine gf_24_8 G dX7_hasFact_39 lf7_89 (by first | assumption | decide) ?_
            refine j_icmp_ge G 79 dX7_hasFact_42 (by decide) (by omega) (by omega) (fun c42 => ?_) (fun c42 => ?_)
            · refine j_iinc G dX7_hasFact_79 rfl (by decide) rfl ?_
              refine j_goto G 19 dX7_hasFact_82 (by decide) ?_
              refine j_keep [0, 1, 2, 3, 4, 5, 6] ?_
              exact ih (a + 1) f [] (by omega) (by omega) (by omega) g3 (by rw [HFQ_s h0]; exact g4)
            · exfalso; omega
          | succ m ihm =>
            intro c f g0 g1 g2 g3 g4
            have hc : 0 ≤ c ∧ c < S 6 0 3 := by omega
            have hm1 : 0 ≤ c + 1 := by omega
            have hm2 : c + 1 ≤ S 6 0 3 := by omega
            have hm3 : (S 6 0 3 - (c + 1)).toNat = m := by omega
            refine j_iload G dX7_hasFact_36 rfl ?_
            refine j_aload_n G dX7_hasFact_38 rfl ?_
            refine gf_24_8 G dX7_hasFact_39 lf7_89 (by first | assumption | decide) ?_
            refine j_icmp_ge G 79 dX7_hasFact_42 (by decide) (by omega) (by omega) (fun c42 => ?_) (fun c42 => ?_)
            · exfalso; omega
            · refine j_iload_n G dX7_hasFact_45 rfl ?_
              refine j_iload_n G dX7_hasFact_46 rfl ?_
              refine j_if_ne G 62 dX7_hasFact_47 (by decide) (by omega) (fun c47 => ?_) (fun c47 => ?_)
              · refine j_aload_n G dX7_hasFact_62 rfl ?_
                refine j_iload G dX7_hasFact_63 rfl ?_
                refine j_iload G dX7_hasFact_65 rfl ?_
                refine j_iload_n G dX7_hasFact_67 rfl ?_
                refine j_cVI G cvX7_isIn ml7_174 (c_X7_isIn hi hS hRL6 hW ha hc hother hw) dX7_hasFact_68 ⟨by decide, by decide⟩ (by first | exact ⟨by decide, by decide⟩ | (constructor <;> dsimp only <;> omega)) rfl rfl (Nat.le_of_ble_eq_true rfl) (by first | assumption | decide) rfl rfl rfl (fun r68 h68 => ?_)
                have h68r : r68 = 0 ∨ r68 = 1 := by rcases h68 with z | z <;> omega
                refine j_ior G dX7_hasFact_71 (or_01 g3 h68r) ?_
                refine j_istore_n G dX7_hasFact_72 (by decide) rfl ?_
                refine j_iinc G dX7_hasFact_73 rfl (by decide) rfl ?_
                refine j_goto G 36 dX7_hasFact_76 (by decide) ?_
                refine ihm (c + 1) _ hm1 hm2 hm3 if_01 (ex_step g0 g4 ?_)
                unfold HFP
                rcases h68 with z | z
                · exact ⟨fun _ => ⟨z.2.1, z.2.2.2, z.2.2.1⟩, fun _ => z.1⟩
                · exact ⟨fun y => by omega, fun y => absurd (show _ ∧ _ ∧ _ from ⟨y.1, y.2.2, y.2.1⟩) z.2⟩
              · exfalso; omega
        refine j_iload G dX7_hasFact_19 rfl ?_
        refine j_iload G dX7_hasFact_21 rfl ?_
        refine j_icmp_ge G 85 dX7_hasFact_23 (by decide) (by omega) (by omega) (fun c23 => ?_) (fun c23 => ?_)
        · exfalso; omega
        · refine j_aload G dX7_hasFact_26 rfl ?_
          refine j_iload G dX7_hasFact_28 rfl ?_
          refine j_dlA G dX7_hasFact_30 (by assumption) (by first | omega | decide) (by omega) (by omega) ?_
          refine j_istore G dX7_hasFact_31 (by decide) rfl ?_
          refine j_iconst G dX7_hasFact_33 ?_
          refine j_istore G dX7_hasFact_34 (by decide) rfl ?_
          exact inner _ 0 b (by omega) (by omega) rfl h3 (h4.trans ⟨fun z => Or.inl z, fun z => z.elim id (fun ⟨k, k0, k1, _⟩ => by omega)⟩)
    exact loop _ 0 0 [] (by omega) (by omega) rfl (Or.inl rfl) ⟨fun z => by omega, fun ⟨j, j0, j1, _⟩ => by omega⟩

