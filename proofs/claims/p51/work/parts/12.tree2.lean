theorem dX4_isSeen_0 : decode cX4_isSeen 0 = .ok (.iconst 0, 1) := by decide +kernel
theorem dX4_isSeen_1 : decode cX4_isSeen 1 = .ok (.istore_n 2, 1) := by decide +kernel
theorem dX4_isSeen_2 : decode cX4_isSeen 2 = .ok (.iload_n 1, 1) := by decide +kernel
theorem dX4_isSeen_3 : decode cX4_isSeen 3 = .ok (.istore_n 3, 1) := by decide +kernel
theorem dX4_isSeen_4 : decode cX4_isSeen 4 = .ok (.iconst 0, 1) := by decide +kernel
theorem dX4_isSeen_5 : decode cX4_isSeen 5 = .ok (.istore 4, 2) := by decide +kernel
theorem dX4_isSeen_7 : decode cX4_isSeen 7 = .ok (.iload 4, 2) := by decide +kernel
theorem dX4_isSeen_9 : decode cX4_isSeen 9 = .ok (.iconst 3, 1) := by decide +kernel
theorem dX4_isSeen_10 : decode cX4_isSeen 10 = .ok (.if_icmp .gt 45, 3) := by decide +kernel
theorem dX4_isSeen_13 : decode cX4_isSeen 13 = .ok (.aload_n 0, 1) := by decide +kernel
theorem dX4_isSeen_14 : decode cX4_isSeen 14 = .ok (.iload_n 3, 1) := by decide +kernel
theorem dX4_isSeen_15 : decode cX4_isSeen 15 = .ok (.invokevirtual 29, 3) := by decide +kernel
theorem dX4_isSeen_18 : decode cX4_isSeen 18 = .ok (.ifCond .eq 37, 3) := by decide +kernel
theorem dX4_isSeen_21 : decode cX4_isSeen 21 = .ok (.aload_n 0, 1) := by decide +kernel
theorem dX4_isSeen_22 : decode cX4_isSeen 22 = .ok (.getfield 18, 3) := by decide +kernel
theorem dX4_isSeen_25 : decode cX4_isSeen 25 = .ok (.iload_n 3, 1) := by decide +kernel
theorem dX4_isSeen_26 : decode cX4_isSeen 26 = .ok (.baload, 1) := by decide +kernel
theorem dX4_isSeen_27 : decode cX4_isSeen 27 = .ok (.ifCond .eq 5, 3) := by decide +kernel
theorem dX4_isSeen_30 : decode cX4_isSeen 30 = .ok (.iconst 0, 1) := by decide +kernel
theorem dX4_isSeen_31 : decode cX4_isSeen 31 = .ok (.ireturn, 1) := by decide +kernel
theorem dX4_isSeen_32 : decode cX4_isSeen 32 = .ok (.iload_n 3, 1) := by decide +kernel
theorem dX4_isSeen_33 : decode cX4_isSeen 33 = .ok (.aload_n 0, 1) := by decide +kernel
theorem dX4_isSeen_34 : decode cX4_isSeen 34 = .ok (.getfield 37, 3) := by decide +kernel
theorem dX4_isSeen_37 : decode cX4_isSeen 37 = .ok (.if_icmp .ne 5, 3) := by decide +kernel
theorem dX4_isSeen_40 : decode cX4_isSeen 40 = .ok (.iconst 1, 1) := by decide +kernel
theorem dX4_isSeen_41 : decode cX4_isSeen 41 = .ok (.istore_n 2, 1) := by decide +kernel
theorem dX4_isSeen_42 : decode cX4_isSeen 42 = .ok (.aload_n 0, 1) := by decide +kernel
theorem dX4_isSeen_43 : decode cX4_isSeen 43 = .ok (.getfield 9, 3) := by decide +kernel
theorem dX4_isSeen_46 : decode cX4_isSeen 46 = .ok (.iload_n 3, 1) := by decide +kernel
theorem dX4_isSeen_47 : decode cX4_isSeen 47 = .ok (.iaload, 1) := by decide +kernel
theorem dX4_isSeen_48 : decode cX4_isSeen 48 = .ok (.istore_n 3, 1) := by decide +kernel
theorem dX4_isSeen_49 : decode cX4_isSeen 49 = .ok (.iinc 4 1, 3) := by decide +kernel
theorem dX4_isSeen_52 : decode cX4_isSeen 52 = .ok (.goto (-45), 3) := by decide +kernel
theorem dX4_isSeen_55 : decode cX4_isSeen 55 = .ok (.iload_n 2, 1) := by decide +kernel
theorem dX4_isSeen_56 : decode cX4_isSeen 56 = .ok (.ireturn, 1) := by decide +kernel
theorem dX4_listBeneath_0 : decode cX4_listBeneath 0 = .ok (.aload_n 3, 1) := by decide +kernel
theorem dX4_listBeneath_1 : decode cX4_listBeneath 1 = .ok (.iconst 0, 1) := by decide +kernel
theorem dX4_listBeneath_2 : decode cX4_listBeneath 2 = .ok (.putfield 40, 3) := by decide +kernel
theorem dX4_listBeneath_5 : decode cX4_listBeneath 5 = .ok (.iload_n 1, 1) := by decide +kernel
theorem dX4_listBeneath_6 : decode cX4_listBeneath 6 = .ok (.istore 4, 2) := by decide +kernel
theorem dX4_listBeneath_8 : decode cX4_listBeneath 8 = .ok (.iconst 0, 1) := by decide +kernel
theorem dX4_listBeneath_9 : decode cX4_listBeneath 9 = .ok (.istore 5, 2) := by decide +kernel
theorem dX4_listBeneath_11 : decode cX4_listBeneath 11 = .ok (.iload 5, 2) := by decide +kernel
theorem dX4_listBeneath_13 : decode cX4_listBeneath 13 = .ok (.aload_n 0, 1) := by decide +kernel
theorem dX4_listBeneath_14 : decode cX4_listBeneath 14 = .ok (.getfield 26, 3) := by decide +kernel
theorem dX4_listBeneath_17 : decode cX4_listBeneath 17 = .ok (.if_icmp .ge 44, 3) := by decide +kernel
theorem dX4_listBeneath_20 : decode cX4_listBeneath 20 = .ok (.aload_n 0, 1) := by decide +kernel
theorem dX4_listBeneath_21 : decode cX4_listBeneath 21 = .ok (.iload 4, 2) := by decide +kernel
theorem dX4_listBeneath_23 : decode cX4_listBeneath 23 = .ok (.invokevirtual 29, 3) := by decide +kernel
theorem dX4_listBeneath_26 : decode cX4_listBeneath 26 = .ok (.ifCond .eq 35, 3) := by decide +kernel
theorem dX4_listBeneath_29 : decode cX4_listBeneath 29 = .ok (.aload_n 0, 1) := by decide +kernel
theorem dX4_listBeneath_30 : decode cX4_listBeneath 30 = .ok (.getfield 15, 3) := by decide +kernel
theorem dX4_listBeneath_33 : decode cX4_listBeneath 33 = .ok (.iload 4, 2) := by decide +kernel
theorem dX4_listBeneath_35 : decode cX4_listBeneath 35 = .ok (.iaload, 1) := by decide +kernel
theorem dX4_listBeneath_36 : decode cX4_listBeneath 36 = .ok (.iload_n 2, 1) := by decide +kernel
theorem dX4_listBeneath_37 : decode cX4_listBeneath 37 = .ok (.if_icmp .ne 9, 3) := by decide +kernel
theorem dX4_listBeneath_40 : decode cX4_listBeneath 40 = .ok (.aload_n 3, 1) := by decide +kernel
theorem dX4_listBeneath_41 : decode cX4_listBeneath 41 = .ok (.iload 4, 2) := by decide +kernel
theorem dX4_listBeneath_43 : decode cX4_listBeneath 43 = .ok (.invokevirtual 43, 3) := by decide +kernel
theorem dX4_listBeneath_46 : decode cX4_listBeneath 46 = .ok (.aload_n 0, 1) := by decide +kernel
theorem dX4_listBeneath_47 : decode cX4_listBeneath 47 = .ok (.iload 4, 2) := by decide +kernel
theorem dX4_listBeneath_49 : decode cX4_listBeneath 49 = .ok (.iload_n 1, 1) := by decide +kernel
theorem dX4_listBeneath_50 : decode cX4_listBeneath 50 = .ok (.invokevirtual 47, 3) := by decide +kernel
theorem dX4_listBeneath_53 : decode cX4_listBeneath 53 = .ok (.istore 4, 2) := by decide +kernel
theorem dX4_listBeneath_55 : decode cX4_listBeneath 55 = .ok (.iinc 5 1, 3) := by decide +kernel
theorem dX4_listBeneath_58 : decode cX4_listBeneath 58 = .ok (.goto (-47), 3) := by decide +kernel
theorem dX4_listBeneath_61 : decode cX4_listBeneath 61 = .ok (.return_, 1) := by decide +kernel
/-! by program: wip/whole/gen.py out of wip/whole/src/12.tree2.eb -/
/-! Tree: what is seen; the list of a level -/
set_option maxRecDepth 100000 in
set_option maxHeartbeats 8000000 in
theorem c_X4_isSeen {l : Launch} {D : va_G} {cys : Nat → ClassId} {ad : Nat → Int → Nat} {L : List Nat} {g : Nat → va_E} {X : Int64} {Z : ZT} (hi : injA ad) {d q : Int} (hd : vd 2 d) (hT : TOK Z d) (hq : 0 ≤ q ∧ q < Z 2 d 4) : CM l D cys ad yX4_isSeen cX4_isSeen 5 (some .boolean) 1 21 0 0 [.ref (ad 2 d), .int (iI q)] L g X Z (PI L g X Z (fun r => (r = 1 ∧ seenT Z d q) ∨ (r = 0 ∧ ¬ seenT Z d q))) := by
  refine cm_start hi (by decide +kernel) (Nat.le_of_ble_eq_true rfl) ?_
  intro p_ e_ s_ m_ args_ below_ meth_ c_ A_ Q_ hQ G hr hin
  have hT1 := hT.1
  have hm := hT.at hq.1 hq.2
  unfold MOK at hm
  have hup : ∀ s : Nat, (s : Int) ≤ Z 4 d q → 0 ≤ ancF (Z 3 d) s q ∧ ancF (Z 3 d) s q < Z 2 d 4 ∧ Z 4 d (ancF (Z 3 d) s q) = Z 4 d q - s := fun s hs => anc_dep hT s q hq.1 hq.2 hs
  have loop : ∀ (n s : Nat) (a b st : Int), st = s → (s : Int) + n = Z 4 d q + 1 → (n ≠ 0 → a = ancF (Z 3 d) s q) → (n = 0 → a = -1) → ((b = 1 ∧ ∃ j : Nat, j < s ∧ ancF (Z 3 d) j q = Z 2 d 5) ∨ (b = 0 ∧ ∀ j : Nat, j < s → ancF (Z 3 d) j q ≠ Z 2 d 5)) → (∀ j : Nat, j < s → Z 5 d (ancF (Z 3 d) j q) = 0) → JJ p_ l e_ { frames := 1, cells := 0, slots := 0, locals := 21 } s_ m_ args_ below_ meth_ c_ D cys ad A_ Q_ 5 0 0 L g X Z 7 [(0, .ref (ad 2 d)), (1, .int (iI q)), (2, .int (iI b)), (3, .int (iI a)), (4, .int (iI st))] [] := by
    intro n
    induction n with
    | zero =>
      intro s a b st h0 h1 h2 h3 h4 h5
      have ha := h3 rfl
      have hb : b = 0 ∨ b = 1 := by rcases h4 with w | w <;> omega
      refine j_iload G dX4_isSeen_7 rfl ?_
      refine j_iconst G dX4_isSeen_9 ?_
      refine j_icmp_gt G 55 dX4_isSeen_10 (by decide) (by omega) (by omega) (fun c10 => ?_) (fun c10 => ?_)
      · refine j_iload_n G dX4_isSeen_55 rfl ?_
        refine jr_B G hQ hr dX4_isSeen_56 (by decide) (by decide) (by omega) ?_
        have hno : ∀ x, 0 ≤ x → x < Z 2 d 4 → Z 5 d x = 1 → ¬ bel Z d q x := by
          intro x x0 x1 x2 x3
          obtain ⟨j, j1, j2⟩ := (bel_iff hT hq.1 hq.2 x0 x1).mp x3
          have := h5 j (by omega)
          rw [j2] at this
          omega
        rcases h4 with ⟨w, j, j1, j2⟩ | ⟨w, w2⟩
        · refine Or.inl ⟨w, ?_, hno⟩
          exact (bel_iff hT hq.1 hq.2 (by omega) (by omega)).mpr ⟨j, by omega, j2⟩
        · refine Or.inr ⟨w, fun hs => ?_⟩
          obtain ⟨j, j1, j2⟩ := (bel_iff hT hq.1 hq.2 (by omega) (by omega)).mp hs.1
          exact w2 j (by omega) j2
      · refine j_aload_n G dX4_isSeen_13 rfl ?_
        refine j_iload_n G dX4_isSeen_14 rfl ?_
        refine j_cVI G cvX4_has ml4_29 (c_X4_has hi (by first | assumption | omega | decide) (by first | assumption | omega | decide) (by first | assumption | omega | decide)) dX4_isSeen_15 ⟨by decide, by decide⟩ ⟨by decide, by decide⟩ rfl rfl (Nat.le_of_ble_eq_true rfl) (by first | assumption | decide) rfl rfl rfl (fun r15 h15 => ?_)
        refine j_if_eq G 55 dX4_isSeen_18 (by decide) (by omega) (fun c18 => ?_) (fun c18 => ?_)
        · refine j_iload_n G dX4_isSeen_55 rfl ?_
          refine jr_B G hQ hr dX4_isSeen_56 (by decide) (by decide) (by omega) ?_
          have hno : ∀ x, 0 ≤ x → x < Z 2 d 4 → Z 5 d x = 1 → ¬ bel Z d q x := by
            intro x x0 x1 x2 x3
            obtain ⟨j, j1, j2⟩ := (bel_iff hT hq.1 hq.2 x0 x1).mp x3
            have := h5 j (by omega)
            rw [j2] at this
            omega
          rcases h4 with ⟨w, j, j1, j2⟩ | ⟨w, w2⟩
          · refine Or.inl ⟨w, ?_, hno⟩
            exact (bel_iff hT hq.1 hq.2 (by omega) (by omega)).mpr ⟨j, by omega, j2⟩
          · refine Or.inr ⟨w, fun hs => ?_⟩
            obtain ⟨j, j1, j2⟩ := (bel_iff hT hq.1 hq.2 (by omega) (by omega)).mp hs.1
            exact w2 j (by omega) j2
        · exfalso; omega
    | succ n ih =>
      intro s a b st h0 h1 h2 h3 h4 h5
      have ha := h2 (by omega)
      have hu := hup s (by omega)
      rw [← ha] at hu
      have hma := hT.at hu.1 hu.2.1
      unfold MOK at hma
      have ho := hT.2.2 a hu.1 (by omega)
      refine j_iload G dX4_isSeen_7 rfl ?_
      refine j_iconst G dX4_isSeen_9 ?_
      refine j_icmp_gt G 55 dX4_isSeen_10 (by decide) (by omega) (by omega) (fun c10 => ?_) (fun c10 => ?_)
      · exfalso; omega
      · refine j_aload_n G dX4_isSeen_13 rfl ?_
        refine j_iload_n G dX4_isSeen_14 rfl ?_
        refine j_cVI G cvX4_has ml4_29 (c_X4_has hi (by first | assumption | omega | decide) (by first | assumption | omega | decide) (by first | assumption | omega | decide)) dX4_isSeen_15 ⟨by decide, by decide⟩ ⟨by decide, by decide⟩ rfl rfl (Nat.le_of_ble_eq_true rfl) (by first | assumption | decide) rfl rfl rfl (fun r15 h15 => ?_)
        refine j_if_eq G 55 dX4_isSeen_18 (by decide) (by omega) (fun c18 => ?_) (fun c18 => ?_)
        · exfalso; omega
        · refine j_aload_n G dX4_isSeen_21 rfl ?_
          refine gf_2_2 G dX4_isSeen_22 lf4_18 (by first | assumption | decide) ?_
          refine j_iload_n G dX4_isSeen_25 rfl ?_
          refine al_5 G dX4_isSeen_26 (by first | assumption | decide) (by omega) (by omega) ?_
          refine j_if_eq G 32 dX4_isSeen_27 (by decide) (by omega) (fun c27 => ?_) (fun c27 => ?_)
          · refine j_iload_n G dX4_isSeen_32 rfl ?_
            refine j_aload_n G dX4_isSeen_33 rfl ?_
            refine gf_2_5 G dX4_isSeen_34 lf4_37 (by first | assumption | decide) ?_
            refine j_icmp_ne G 42 dX4_isSeen_37 (by decide) (by omega) (by omega) (fun c37 => ?_) (fun c37 => ?_)
            · refine j_aload_n G dX4_isSeen_42 rfl ?_
              refine gf_2_0 G dX4_isSeen_43 lf4_9 (by first | assumption | decide) ?_
              refine j_iload_n G dX4_isSeen_46 rfl ?_
              refine al_3 G dX4_isSeen_47 (by first | assumption | decide) (by omega) (by omega) ?_
              refine j_istore_n G dX4_isSeen_48 (by decide) rfl ?_
              refine j_iinc G dX4_isSeen_49 rfl (by decide) rfl ?_
              refine j_goto G 7 dX4_isSeen_52 (by decide) ?_
              refine ih (s + 1) (Z 3 d a) _ (st + 1) (by omega) (by omega) (fun hn => ?_) (fun hn => ?_) ?_ (fun j j1 => ?_)
              · rw [ha, ancF_add]; rfl
              · have : a = 0 := hma.2.2.1.mp (by omega)
                rw [this]; exact hT1.2.2.2.2.2.2
              · first
                | (refine Or.inl ⟨rfl, s, by omega, ?_⟩
                   rw [← ha]; assumption)
                | (rcases h4 with ⟨w, j, j1, j2⟩ | ⟨w, w2⟩
                   · exact Or.inl ⟨w, j, by omega, j2⟩
                   · refine Or.inr ⟨w, fun j j1 => ?_⟩
                     by_cases e : j = s
                     · rw [e, ← ha]; assumption
                     · exact w2 j (by omega))
              · by_cases e : j = s
                · rw [e, ← ha]; omega
                · exact h5 j (by omega)
            · refine j_iconst G dX4_isSeen_40 ?_
              refine j_istore_n G dX4_isSeen_41 (by decide) rfl ?_
              refine j_aload_n G dX4_isSeen_42 rfl ?_
              refine gf_2_0 G dX4_isSeen_43 lf4_9 (by first | assumption | decide) ?_
              refine j_iload_n G dX4_isSeen_46 rfl ?_
              refine al_3 G dX4_isSeen_47 (by first | assumption | decide) (by omega) (by omega) ?_
              refine j_istore_n G dX4_isSeen_48 (by decide) rfl ?_
              refine j_iinc G dX4_isSeen_49 rfl (by decide) rfl ?_
              refine j_goto G 7 dX4_isSeen_52 (by decide) ?_
              refine ih (s + 1) (Z 3 d a) _ (st + 1) (by omega) (by omega) (fun hn => ?_) (fun hn => ?_) ?_ (fun j j1 => ?_)
              · rw [ha, ancF_add]; rfl
              · have : a = 0 := hma.2.2.1.mp (by omega)
                rw [this]; exact hT1.2.2.2.2.2.2
              · first
                | (refine Or.inl ⟨rfl, s, by omega, ?_⟩
                   rw [← ha]; assumption)
                | (rcases h4 with ⟨w, j, j1, j2⟩ | ⟨w, w2⟩
                   · exact Or.inl ⟨w, j, by omega, j2⟩
                   · refine Or.inr ⟨w, fun j j1 => ?_⟩
                     by_cases e : j = s
                     · rw [e, ← ha]; assumption
                     · exact w2 j (by omega))
              · by_cases e : j = s
                · rw [e, ← ha]; omega
                · exact h5 j (by omega)
          · refine j_iconst G dX4_isSeen_30 ?_
            refine jr_B G hQ hr dX4_isSeen_31 (by decide) (by decide) (by omega) ?_
            refine Or.inr ⟨rfl, fun hs => ?_⟩
            refine hs.2 a hu.1 hu.2.1 (by omega) ?_
            exact (bel_iff hT hq.1 hq.2 hu.1 hu.2.1).mpr ⟨s, by omega, ha.symm⟩
  refine j_iconst G dX4_isSeen_0 ?_
  refine j_istore_n G dX4_isSeen_1 (by decide) rfl ?_
  refine j_iload_n G dX4_isSeen_2 rfl ?_
  refine j_istore_n G dX4_isSeen_3 (by decide) rfl ?_
  refine j_iconst G dX4_isSeen_4 ?_
  refine j_istore G dX4_isSeen_5 (by decide) rfl ?_
  exact loop (Z 4 d q + 1).toNat 0 q 0 0 rfl (by omega) (fun _ => rfl) (fun h => by omega) (Or.inr ⟨rfl, fun j h => by omega⟩) (fun j h => by omega)
set_option maxRecDepth 100000 in
set_option maxHeartbeats 8000000 in
theorem c_X4_listBeneath {l : Launch} {D : va_G} {cys : Nat → ClassId} {ad : Nat → Int → Nat} {L : List Nat} {g : Nat → va_E} {X : Int64} {Z : ZT} (hi : injA ad) {d top lv i : Int} (hd : vd 2 d) (hi16 : vd 16 i) (hT : TOK Z d) (htop : 0 ≤ top ∧ top < Z 2 d 4) (hlv : inR lv) : CM l D cys ad yX4_listBeneath cX4_listBeneath 6 none 2 48 0 0 [.ref (ad 2 d), .int (iI top), .int (iI lv), .ref (ad 16 i)] L g X Z (PVZ L g X Z (fun Z' => LST Z' i (wk Z d top lv) ∧ (∀ k, k ≠ 16 → k ≠ 17 → Z' k = Z k) ∧ (∀ k i', i' ≠ i → Z' k i' = Z k i'))) := by
  refine cm_start hi (by decide +kernel) (Nat.le_of_ble_eq_true rfl) ?_
  intro p_ e_ s_ m_ args_ below_ meth_ c_ A_ Q_ hQ G hr hin
  have hT1 := hT.1
  have hwl := wk_len lv hT htop.1 htop.2
  have loop : ∀ (n : Nat) (R W : List Int) (Y : ZT) (a st : Int), R.length = n → 0 ≤ st → st + n ≤ Z 2 d 4 → (R = [] ∧ a = -1 ∨ (0 ≤ a ∧ a < Z 2 d 4 ∧ bel Z d a top ∧ R = pre Z d a ++ aft Z d top a)) → W ++ R.filter (fun x => decide (Z 4 d x = lv)) = wk Z d top lv → LST Y i W → (∀ k, k ≠ 16 → k ≠ 17 → Y k = Z k) → (∀ k i', i' ≠ i → Y k i' = Z k i') → JJ p_ l e_ { frames := 2, cells := 0, slots := 0, locals := 48 } s_ m_ args_ below_ meth_ c_ D cys ad A_ Q_ 6 0 0 L g X Y 11 [(0, .ref (ad 2 d)), (1, .int (iI top)), (2, .int (iI lv)), (3, .ref (ad 16 i)), (4, .int (iI a)), (5, .int (iI st))] [] := by
    intro n
    induction n with
    | zero =>
      intro R W Y a st h0 h1 h2 h3 h4 h5 h6 h7
      have hR : R = [] := List.eq_nil_of_length_eq_zero h0
      have e2 := h6 2 (by decide) (by decide)
      have ha : a = -1 := by
        rcases h3 with w | w
        · exact w.2
        · rw [hR, suf_pre hT w.1 w.2.1] at w
          exact absurd w.2.2.2 (by simp)
      rw [hR, List.filter_nil, List.append_nil] at h4
      have e24 : Y 2 d 4 = Z 2 d 4 := by rw [e2]
      refine j_iload G dX4_listBeneath_11 rfl ?_
      refine j_aload_n G dX4_listBeneath_13 rfl ?_
      refine gf_2_4 G dX4_listBeneath_14 lf4_26 (by first | assumption | decide) ?_
      refine j_icmp_ge G 61 dX4_listBeneath_17 (by decide) (by omega) (by omega) (fun c17 => ?_) (fun c17 => ?_)
      · refine jr_VZ G hQ hr dX4_listBeneath_61 (by decide) (by decide) ?_
        exact ⟨h4 ▸ h5, h6, h7⟩
      · refine j_aload_n G dX4_listBeneath_20 rfl ?_
        refine j_iload G dX4_listBeneath_21 rfl ?_
        refine j_cVI G cvX4_has ml4_29 (c_X4_has hi (by first | assumption | omega | decide) (by first | assumption | omega | decide) (by first | assumption | omega | decide)) dX4_listBeneath_23 ⟨by decide, by decide⟩ ⟨by decide, by decide⟩ rfl rfl (Nat.le_of_ble_eq_true rfl) (by first | assumption | decide) rfl rfl rfl (fun r23 h23 => ?_)
        refine j_if_eq G 61 dX4_listBeneath_26 (by decide) (by omega) (fun c26 => ?_) (fun c26 => ?_)
        · refine jr_VZ G hQ hr dX4_listBeneath_61 (by decide) (by decide) ?_
          exact ⟨h4 ▸ h5, h6, h7⟩
        · exfalso; omega
    | succ n ih =>
      intro R W Y a st h0 h1 h2 h3 h4 h5 h6 h7
      have e2 := h6 2 (by decide) (by decide)
      have e4 := h6 4 (by decide) (by decide)
      have e24 : Y 2 d 4 = Z 2 d 4 := by rw [e2]
      have e4a : Y 4 d a = Z 4 d a := by rw [e4]
      have hte : TE Y Z d := ⟨by rw [e2], by rw [h6 3 (by decide) (by decide)], by rw [e4], by rw [h6 5 (by decide) (by decide)]⟩
      have hTY := hte.ok hT
      have h3' : 0 ≤ a ∧ a < Z 2 d 4 ∧ bel Z d a top ∧ R = a :: nxt Z d top a := by
        rcases h3 with w | w
        · rw [w.1] at h0; cases h0
        · rw [suf_pre hT w.1 w.2.1] at w
          exact w
      obtain ⟨a0, a1, a2, a3⟩ := h3'
      have hba : bel Y d a top := (hte.e_bel a top).mpr a2
      have hma := hT.at a0 a1
      unfold MOK at hma
      rw [a3] at h0 h4
      have h0 : (nxt Z d top a).length = n := by simpa using h0
      have hW : W.length + ((a :: nxt Z d top a).filter (fun x => decide (Z 4 d x = lv))).length = (wk Z d top lv).length := by rw [← h4, List.length_append]
      refine j_iload G dX4_listBeneath_11 rfl ?_
      refine j_aload_n G dX4_listBeneath_13 rfl ?_
      refine gf_2_4 G dX4_listBeneath_14 lf4_26 (by first | assumption | decide) ?_
      refine j_icmp_ge G 61 dX4_listBeneath_17 (by decide) (by omega) (by omega) (fun c17 => ?_) (fun c17 => ?_)
      · exfalso; omega
      · refine j_aload_n G dX4_listBeneath_20 rfl ?_
        refine j_iload G dX4_listBeneath_21 rfl ?_
        refine j_cVI G cvX4_has ml4_29 (c_X4_has hi (by first | assumption | omega | decide) (by first | assumption | omega | decide) (by first | assumption | omega | decide)) dX4_listBeneath_23 ⟨by decide, by decide⟩ ⟨by decide, by decide⟩ rfl rfl (Nat.le_of_ble_eq_true rfl) (by first | assumption | decide) rfl rfl rfl (fun r23 h23 => ?_)
        refine j_if_eq G 61 dX4_listBeneath_26 (by decide) (by omega) (fun c26 => ?_) (fun c26 => ?_)
        · exfalso; omega
        · refine j_aload_n G dX4_listBeneath_29 rfl ?_
          refine gf_2_1 G dX4_listBeneath_30 lf4_15 (by first | assumption | decide) ?_
          refine j_iload G dX4_listBeneath_33 rfl ?_
          refine al_4 G dX4_listBeneath_35 (by first | assumption | decide) (by omega) (by omega) ?_
          refine j_iload_n G dX4_listBeneath_36 rfl ?_
          refine j_icmp_ne G 46 dX4_listBeneath_37 (by decide) (by omega) (by omega) (fun c37 => ?_) (fun c37 => ?_)
          · first
            | (have hin : Z 4 d a = lv := by omega
               have hYW := h43.1 (by omega)
               have e16 : ∀ k, k ≠ 16 → k ≠ 17 → Z43 k = Z k := by
                 intro k k1 k2
                 rw [hYW, zS_k k1, zS_k k2]
                 exact h6 k k1 k2
               have e17 : ∀ k i', i' ≠ i → Z43 k i' = Z k i' := by
                 intro k i' k1
                 rw [hYW, zS_o (fun q => k1 q.2), zS_o (fun q => k1 q.2)]
                 exact h7 k i' k1
               have hL5 : LST Z43 i (W ++ [a]) := by
                 refine ⟨?_, fun j hj => ?_⟩
                 · rw [hYW, zS_s, List.length_append, h51]
                   rfl
                 · rw [hYW, zS_k (by decide), zS_v]
                   rw [List.length_append, List.length_singleton] at hj
                   by_cases e : j = W.length
                   · rw [if_pos (by omega), e]
                     simp
                   · rw [if_neg (by omega), List.getElem?_append_left (by omega)]
                     exact h5.2 j (by omega)
               obtain ⟨Y1, hY1⟩ : ∃ y, y = Z43 := ⟨_, rfl⟩
               obtain ⟨W1, hW1⟩ : ∃ w, w = W ++ [a] := ⟨_, rfl⟩
               have h4' : W1 ++ (nxt Z d top a).filter (fun x => decide (Z 4 d x = lv)) = wk Z d top lv := by
                 rw [hW1, List.append_assoc]; exact h4
               rw [← hW1] at hL5
               rw [← hY1] at hL5 e16 e17 ⊢)
            | (have hin : ¬ Z 4 d a = lv := by omega
               rw [List.filter_cons_of_neg (by simpa using hin)] at h4
               obtain ⟨Y1, hY1⟩ : ∃ y, y = Y := ⟨_, rfl⟩
               obtain ⟨W1, hW1⟩ : ∃ w, w = W := ⟨_, rfl⟩
               have h4' := h4
               have hL5 := h5
               have e16 := h6
               have e17 := h7
               rw [← hW1] at hL5 h4'
               rw [← hY1] at hL5 e16 e17 ⊢)
            have hte1 : TE Y1 Z d := ⟨by rw [e16 2 (by decide) (by decide)], by rw [e16 3 (by decide) (by decide)], by rw [e16 4 (by decide) (by decide)], by rw [e16 5 (by decide) (by decide)]⟩
            have hT2 := hte1.ok hT
            have hb2 : bel Y1 d a top := (hte1.e_bel a top).mpr a2
            have e24' : Y1 2 d 4 = Z 2 d 4 := by rw [e16 2 (by decide) (by decide)]
            have ha2 : 0 ≤ a ∧ a < Y1 2 d 4 := by omega
            have ht2 : 0 ≤ top ∧ top < Y1 2 d 4 := by omega
            refine j_aload_n G dX4_listBeneath_46 rfl ?_
            refine j_iload G dX4_listBeneath_47 rfl ?_
            refine j_iload_n G dX4_listBeneath_49 rfl ?_
            refine j_cVI G cvX4_nextInWalk ml4_47 (c_X4_nextInWalk hi (by first | assumption | omega | decide) (by first | assumption | omega | decide) (by first | assumption | omega | decide) (by first | assumption | omega | decide) (by first | assumption | omega | decide)) dX4_listBeneath_50 ⟨by decide, by decide⟩ ⟨by decide, by decide⟩ rfl rfl (Nat.le_of_ble_eq_true rfl) (by first | assumption | decide) rfl rfl rfl (fun r50 h50 => ?_)
            refine j_istore G dX4_listBeneath_53 (by decide) rfl ?_
            refine j_iinc G dX4_listBeneath_55 rfl (by decide) rfl ?_
            refine j_goto G 11 dX4_listBeneath_58 (by decide) ?_
            refine ih (nxt Z d top a) W1 Y1 r50 (st + 1) h0 (by omega) (by omega) ?_ h4' hL5 e16 e17
            rw [hte1.e_nxt, hte1.e_pre, hte1.e_aft, hte1.e_bel] at h50
            rcases h50 with w | w
            · exact Or.inr ⟨w.1, by omega, w.2.2.1, w.2.2.2⟩
            · exact Or.inl ⟨w.2, w.1⟩
          · have hin : Z 4 d a = lv := by omega
            rw [List.filter_cons_of_pos (by simpa using hin)] at h4 hW
            rw [List.length_cons] at hW
            have h51 := h5.1
            refine j_aload_n G dX4_listBeneath_40 rfl ?_
            refine j_iload G dX4_listBeneath_41 rfl ?_
            refine j_cVVZ G cvX3_append ml4_43 (c_X3_append hi (by first | assumption | omega | decide) (by first | assumption | omega | decide)) dX4_listBeneath_43 ⟨by decide, by decide⟩ ⟨by decide, by decide⟩ rfl rfl (Nat.le_of_ble_eq_true rfl) (by first | assumption | decide) rfl rfl rfl (fun Z43 h43 => ?_)
            first
            | (have hin : Z 4 d a = lv := by omega
               have hYW := h43.1 (by omega)
               have e16 : ∀ k, k ≠ 16 → k ≠ 17 → Z43 k = Z k := by
                 intro k k1 k2
                 rw [hYW, zS_k k1, zS_k k2]
                 exact h6 k k1 k2
               have e17 : ∀ k i', i' ≠ i → Z43 k i' = Z k i' := by
                 intro k i' k1
                 rw [hYW, zS_o (fun q => k1 q.2), zS_o (fun q => k1 q.2)]
                 exact h7 k i' k1
               have hL5 : LST Z43 i (W ++ [a]) := by
                 refine ⟨?_, fun j hj => ?_⟩
                 · rw [hYW, zS_s, List.length_append, h51]
                   rfl
                 · rw [hYW, zS_k (by decide), zS_v]
                   rw [List.length_append, List.length_singleton] at hj
                   by_cases e : j = W.length
                   · rw [if_pos (by omega), e]
                     simp
                   · rw [if_neg (by omega), List.getElem?_append_left (by omega)]
                     exact h5.2 j (by omega)
               obtain ⟨Y1, hY1⟩ : ∃ y, y = Z43 := ⟨_, rfl⟩
               obtain ⟨W1, hW1⟩ : ∃ w, w = W ++ [a] := ⟨_, rfl⟩
               have h4' : W1 ++ (nxt Z d top a).filter (fun x => decide (Z 4 d x = lv)) = wk Z d top lv := by
                 rw [hW1, List.append_assoc]; exact h4
               rw [← hW1] at hL5
               rw [← hY1] at hL5 e16 e17 ⊢)
            | (have hin : ¬ Z 4 d a = lv := by omega
               rw [List.filter_cons_of_neg (by simpa using hin)] at h4
               obtain ⟨Y1, hY1⟩ : ∃ y, y = Y := ⟨_, rfl⟩
               obtain ⟨W1, hW1⟩ : ∃ w, w = W := ⟨_, rfl⟩
               have h4' := h4
               have hL5 := h5
               have e16 := h6
               have e17 := h7
               rw [← hW1] at hL5 h4'
               rw [← hY1] at hL5 e16 e17 ⊢)
            have hte1 : TE Y1 Z d := ⟨by rw [e16 2 (by decide) (by decide)], by rw [e16 3 (by decide) (by decide)], by rw [e16 4 (by decide) (by decide)], by rw [e16 5 (by decide) (by decide)]⟩
            have hT2 := hte1.ok hT
            have hb2 : bel Y1 d a top := (hte1.e_bel a top).mpr a2
            have e24' : Y1 2 d 4 = Z 2 d 4 := by rw [e16 2 (by decide) (by decide)]
            have ha2 : 0 ≤ a ∧ a < Y1 2 d 4 := by omega
            have ht2 : 0 ≤ top ∧ top < Y1 2 d 4 := by omega
            refine j_aload_n G dX4_listBeneath_46 rfl ?_
            refine j_iload G dX4_listBeneath_47 rfl ?_
            refine j_iload_n G dX4_listBeneath_49 rfl ?_
            refine j_cVI G cvX4_nextInWalk ml4_47 (c_X4_nextInWalk hi (by first | assumption | omega | decide) (by first | assumption | omega | decide) (by first | assumption | omega | decide) (by first | assumption | omega | decide) (by first | assumption | omega | decide)) dX4_listBeneath_50 ⟨by decide, by decide⟩ ⟨by decide, by decide⟩ rfl rfl (Nat.le_of_ble_eq_true rfl) (by first | assumption | decide) rfl rfl rfl (fun r50 h50 => ?_)
            refine j_istore G dX4_listBeneath_53 (by decide) rfl ?_
            refine j_iinc G dX4_listBeneath_55 rfl (by decide) rfl ?_
            refine j_goto G 11 dX4_listBeneath_58 (by decide) ?_
            refine ih (nxt Z d top a) W1 Y1 r50 (st + 1) h0 (by omega) (by omega) ?_ h4' hL5 e16 e17
            rw [hte1.e_nxt, hte1.e_pre, hte1.e_aft, hte1.e_bel] at h50
            rcases h50 with w | w
            · exact Or.inr ⟨w.1, by omega, w.2.2.1, w.2.2.2⟩
            · exact Or.inl ⟨w.2, w.1⟩
  have hpl := pre_len hT htop.1 htop.2
  refine j_aload_n G dX4_listBeneath_0 rfl ?_
  refine j_iconst G dX4_listBeneath_1 ?_
  refine pf_16_1 G dX4_listBeneath_2 lf4_40 (by first | assumption | decide) ?_
  refine j_iload_n G dX4_listBeneath_5 rfl ?_
  refine j_istore G dX4_listBeneath_6 (by decide) rfl ?_
  refine j_iconst G dX4_listBeneath_8 ?_
  refine j_istore G dX4_listBeneath_9 (by decide) rfl ?_
  refine loop (pre Z d top).length (pre Z d top) [] _ top 0 rfl (by omega) (by omega) (Or.inr ⟨htop.1, htop.2, bel_rf Z d top, ?_⟩) rfl ⟨?_, fun j hj => ?_⟩ (fun k k1 k2 => ?_) (fun k i' k1 => ?_)
  · rw [aft_top, List.append_nil]
  · rw [zS_s]; rfl
  · exact absurd hj (Nat.not_lt_zero _)
  · exact zS_k k1
  · exact zS_o (fun q => k1 q.2)

