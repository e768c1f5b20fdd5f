theorem dX7_put_0 : decode cX7_put 0 = .ok (.aload_n 0, 1) := by decide +kernel
theorem dX7_put_1 : decode cX7_put 1 = .ok (.aload_n 0, 1) := by decide +kernel
theorem dX7_put_2 : decode cX7_put 2 = .ok (.getfield 229, 3) := by decide +kernel
theorem dX7_put_5 : decode cX7_put 5 = .ok (.ldc2_w 233, 3) := by decide +kernel
theorem dX7_put_8 : decode cX7_put 8 = .ok (.lmul, 1) := by decide +kernel
theorem dX7_put_9 : decode cX7_put 9 = .ok (.iload_n 1, 1) := by decide +kernel
theorem dX7_put_10 : decode cX7_put 10 = .ok (.i2l, 1) := by decide +kernel
theorem dX7_put_11 : decode cX7_put 11 = .ok (.ladd, 1) := by decide +kernel
theorem dX7_put_12 : decode cX7_put 12 = .ok (.putfield 229, 3) := by decide +kernel
theorem dX7_put_15 : decode cX7_put 15 = .ok (.return_, 1) := by decide +kernel
theorem dX7_advise_0 : decode cX7_advise 0 = .ok (.aload_n 0, 1) := by decide +kernel
theorem dX7_advise_1 : decode cX7_advise 1 = .ok (.iconst 0, 1) := by decide +kernel
theorem dX7_advise_2 : decode cX7_advise 2 = .ok (.putfield 52, 3) := by decide +kernel
theorem dX7_advise_5 : decode cX7_advise 5 = .ok (.iconst 0, 1) := by decide +kernel
theorem dX7_advise_6 : decode cX7_advise 6 = .ok (.istore_n 1, 1) := by decide +kernel
theorem dX7_advise_7 : decode cX7_advise 7 = .ok (.iconst (-1), 1) := by decide +kernel
theorem dX7_advise_8 : decode cX7_advise 8 = .ok (.istore_n 2, 1) := by decide +kernel
theorem dX7_advise_9 : decode cX7_advise 9 = .ok (.iconst 0, 1) := by decide +kernel
theorem dX7_advise_10 : decode cX7_advise 10 = .ok (.istore_n 3, 1) := by decide +kernel
theorem dX7_advise_11 : decode cX7_advise 11 = .ok (.iload_n 3, 1) := by decide +kernel
theorem dX7_advise_12 : decode cX7_advise 12 = .ok (.sipush 256, 3) := by decide +kernel
theorem dX7_advise_15 : decode cX7_advise 15 = .ok (.if_icmp .ge 37, 3) := by decide +kernel
theorem dX7_advise_18 : decode cX7_advise 18 = .ok (.aload_n 0, 1) := by decide +kernel
theorem dX7_advise_19 : decode cX7_advise 19 = .ok (.iload_n 3, 1) := by decide +kernel
theorem dX7_advise_20 : decode cX7_advise 20 = .ok (.invokevirtual 209, 3) := by decide +kernel
theorem dX7_advise_23 : decode cX7_advise 23 = .ok (.ifCond .eq 23, 3) := by decide +kernel
theorem dX7_advise_26 : decode cX7_advise 26 = .ok (.aload_n 0, 1) := by decide +kernel
theorem dX7_advise_27 : decode cX7_advise 27 = .ok (.iload_n 3, 1) := by decide +kernel
theorem dX7_advise_28 : decode cX7_advise 28 = .ok (.invokevirtual 226, 3) := by decide +kernel
theorem dX7_advise_31 : decode cX7_advise 31 = .ok (.iload_n 2, 1) := by decide +kernel
theorem dX7_advise_32 : decode cX7_advise 32 = .ok (.if_icmp .gt 6, 3) := by decide +kernel
theorem dX7_advise_35 : decode cX7_advise 35 = .ok (.goto 11, 3) := by decide +kernel
theorem dX7_advise_38 : decode cX7_advise 38 = .ok (.iload_n 3, 1) := by decide +kernel
theorem dX7_advise_39 : decode cX7_advise 39 = .ok (.istore_n 1, 1) := by decide +kernel
theorem dX7_advise_40 : decode cX7_advise 40 = .ok (.aload_n 0, 1) := by decide +kernel
theorem dX7_advise_41 : decode cX7_advise 41 = .ok (.iload_n 3, 1) := by decide +kernel
theorem dX7_advise_42 : decode cX7_advise 42 = .ok (.invokevirtual 226, 3) := by decide +kernel
theorem dX7_advise_45 : decode cX7_advise 45 = .ok (.istore_n 2, 1) := by decide +kernel
theorem dX7_advise_46 : decode cX7_advise 46 = .ok (.iinc 3 1, 3) := by decide +kernel
theorem dX7_advise_49 : decode cX7_advise 49 = .ok (.goto (-38), 3) := by decide +kernel
theorem dX7_advise_52 : decode cX7_advise 52 = .ok (.iconst 0, 1) := by decide +kernel
theorem dX7_advise_53 : decode cX7_advise 53 = .ok (.istore_n 3, 1) := by decide +kernel
theorem dX7_advise_54 : decode cX7_advise 54 = .ok (.iload_n 3, 1) := by decide +kernel
theorem dX7_advise_55 : decode cX7_advise 55 = .ok (.aload_n 0, 1) := by decide +kernel
theorem dX7_advise_56 : decode cX7_advise 56 = .ok (.getfield 56, 3) := by decide +kernel
theorem dX7_advise_59 : decode cX7_advise 59 = .ok (.if_icmp .ge 21, 3) := by decide +kernel
theorem dX7_advise_62 : decode cX7_advise 62 = .ok (.aload_n 0, 1) := by decide +kernel
theorem dX7_advise_63 : decode cX7_advise 63 = .ok (.getfield 29, 3) := by decide +kernel
theorem dX7_advise_66 : decode cX7_advise 66 = .ok (.iload_n 3, 1) := by decide +kernel
theorem dX7_advise_67 : decode cX7_advise 67 = .ok (.aload_n 0, 1) := by decide +kernel
theorem dX7_advise_68 : decode cX7_advise 68 = .ok (.iload_n 1, 1) := by decide +kernel
theorem dX7_advise_69 : decode cX7_advise 69 = .ok (.iload_n 3, 1) := by decide +kernel
theorem dX7_advise_70 : decode cX7_advise 70 = .ok (.invokevirtual 190, 3) := by decide +kernel
theorem dX7_advise_73 : decode cX7_advise 73 = .ok (.iastore, 1) := by decide +kernel
theorem dX7_advise_74 : decode cX7_advise 74 = .ok (.iinc 3 1, 3) := by decide +kernel
theorem dX7_advise_77 : decode cX7_advise 77 = .ok (.goto (-23), 3) := by decide +kernel
theorem dX7_advise_80 : decode cX7_advise 80 = .ok (.iload_n 2, 1) := by decide +kernel
theorem dX7_advise_81 : decode cX7_advise 81 = .ok (.ireturn, 1) := by decide +kernel
/-! by program: wip/whole/gen.py out of wip/whole/src/44.put.eb -/
/-! EbbTableModel: the checksum, the advice -/
set_option maxRecDepth 100000 in
set_option maxHeartbeats 8000000 in
theorem c_X7_put {l : Launch} {D : va_G} {cys : Nat → ClassId} {ad : Nat → Int → Nat} {L : List Nat} {g : Nat → va_E} {X : Int64} {Z : ZT} (hi : injA ad) {q : Int}  : CM l D cys ad yX7_put cX7_put 2 none 0 0 0 0 [.ref (ad 24 0), .int (iI q)] L g X Z (PGV L g X Z (fun L9 g9 X9 Z9 => L9 = L ∧ g9 = g ∧ X9 = mI X q ∧ Z9 = Z)) := by
  refine cm_start hi (by decide +kernel) (Nat.le_of_ble_eq_true rfl) ?_
  intro p_ e_ s_ m_ args_ below_ meth_ c_ A_ Q_ hQ G hr hin
  refine j_aload_n G dX7_put_0 rfl ?_
  refine j_aload_n G dX7_put_1 rfl ?_
  refine gf_24_18 G dX7_put_2 lf7_229 (by first | assumption | decide) ?_
  refine j_ldc2 G dX7_put_5 (v := (31 : Int64)) (TW_of 1404 (by decide +kernel) (by decide +kernel)) ?_
  refine j_lmul G dX7_put_8 ?_
  refine j_iload_n G dX7_put_9 rfl ?_
  refine j_i2l G dX7_put_10 ?_
  refine j_ladd G dX7_put_11 ?_
  refine j_putX G dX7_put_12 lf7_229 ?_
  refine jr_GV G hQ hr dX7_put_15 (by first | decide | omega) (by first | decide | omega) ?_
  exact ⟨rfl, rfl, rfl, rfl⟩
set_option maxRecDepth 100000 in
set_option maxHeartbeats 8000000 in
theorem c_X7_digit_n {l : Launch} {D : va_G} {cys : Nat → ClassId} {ad : Nat → Int → Nat} {L : List Nat} {g : Nat → va_E} {X : Int64} {Z : ZT} (hi : injA ad) {n q d : Int} (h1 : Z 24 0 1 = n) (hn : 0 ≤ n ∧ n ≤ 4) (hq : 0 ≤ q ∧ q < 256) (hd : 0 ≤ d ∧ d < n) : CM l D cys ad yX7_digit cX7_digit 3 (some .int) 0 0 0 0 [.ref (ad 24 0), .int (iI q), .int (iI d)] L g X Z (PI L g X Z (fun r => r = dg n q d)) := by
  refine cm_start hi (by decide +kernel) (Nat.le_of_ble_eq_true rfl) ?_
  intro p_ e_ s_ m_ args_ below_ meth_ c_ A_ Q_ hQ G hr hin
  have hsd := shr_dg hq.1 hq.2 hd.1 hd.2 hn.2
  refine j_iload_n G dX7_digit_0 rfl ?_
  refine j_iconst G dX7_digit_1 ?_
  refine j_aload_n G dX7_digit_2 rfl ?_
  refine gf_24_1 G dX7_digit_3 lf7_56 (by first | assumption | decide) ?_
  refine j_iconst G dX7_digit_6 ?_
  refine j_isub G dX7_digit_7 ?_
  refine j_iload_n G dX7_digit_8 rfl ?_
  refine j_isub G dX7_digit_9 ?_
  refine j_imul G dX7_digit_10 ?_
  rw [h1]
  refine j_ishr G dX7_digit_11 hsd.1 ?_
  refine j_iconst G dX7_digit_12 ?_
  refine j_iand G dX7_digit_13 hsd.2 ?_
  refine jr_I G hQ hr dX7_digit_14 (by decide) (by decide) ?_
  rfl
set_option maxRecDepth 100000 in
set_option maxHeartbeats 8000000 in
theorem c_X7_advise {l : Launch} {D : va_G} {cys : Nat → ClassId} {ad : Nat → Int → Nat} {L : List Nat} {g : Nat → va_E} {X : Int64} {Z : ZT} (hi : injA ad) {S : ZT} (hS : RMZ S Z) (hRL : RML cys ad S L g) (hW : WF S) : CM l D cys ad yX7_advise cX7_advise 4 (some .int) 5 122 0 0 [.ref (ad 24 0)] L g X Z (PIZ L g X Z (fun r Z' => r = (adM S 256).1 ∧ (∀ k' i', ¬ (k' = 32 ∧ i' = 0) → Z' k' i' = zS Z 24 0 0 0 k' i') ∧ ∀ d, Z' 32 0 d = if 0 ≤ d ∧ d < S 0 0 5 then dg (S 0 0 5) (adM S 256).2 d else Z 32 0 d)) := by
  refine cm_start hi (by decide +kernel) (Nat.le_of_ble_eq_true rfl) ?_
  intro p_ e_ s_ m_ args_ below_ meth_ c_ A_ Q_ hQ G hr hin
  have hn := hW.n
  have hS1 := hS.th 0
  have fin : ∀ (n : Nat) (a : Int) (Y : ZT), 0 ≤ a → a ≤ S 0 0 5 → (S 0 0 5 - a).toNat = n → (∀ k' i', ¬ (k' = 32 ∧ i' = 0) → Y k' i' = zS Z 24 0 0 0 k' i') → (∀ d, Y 32 0 d = if 0 ≤ d ∧ d < a then dg (S 0 0 5) (adM S 256).2 d else Z 32 0 d) → (∀ d, 0 ≤ d → d < 4 → Y 25 0 d = S 2 d 3) → JJ p_ l e_ { frames := 5, cells := 0, slots := 0, locals := 122 } s_ m_ args_ below_ meth_ c_ D cys ad A_ Q_ 4 0 0 L g X Y 54 [(0, .ref (ad 24 0)), (1, .int (iI (adM S 256).2)), (2, .int (iI (adM S 256).1)), (3, .int (iI a))] [] := by
    intro n
    induction n with
    | zero =>
      intro a Y h0 h1 h2 h3 h4 h5
      have ea : a = S 0 0 5 := by omega
      subst ea
      have e : Y 24 0 1 = S 0 0 5 := by rw [h3 24 0 (by decide)]; exact hS1.a.1
      refine j_iload_n G dX7_advise_54 rfl ?_
      refine j_aload_n G dX7_advise_55 rfl ?_
      refine gf_24_1 G dX7_advise_56 lf7_56 (by first | assumption | decide) ?_
      refine j_icmp_ge G 80 dX7_advise_59 (by decide) (by omega) (by omega) (fun c59 => ?_) (fun c59 => ?_)
      · refine j_iload_n G dX7_advise_80 rfl ?_
        refine jr_IZ G hQ hr dX7_advise_81 (by decide) (by decide) ?_
        exact ⟨rfl, h3, h4⟩
      · exfalso; omega
    | succ n ih =>
      intro a Y h0 h1 h2 h3 h4 h5
      have e : Y 24 0 1 = S 0 0 5 := by rw [h3 24 0 (by decide)]; exact hS1.a.1
      have hda : 0 ≤ a ∧ a < S 0 0 5 := by omega
      have hM := adM_in hW 256 (by decide)
      refine j_iload_n G dX7_advise_54 rfl ?_
      refine j_aload_n G dX7_advise_55 rfl ?_
      refine gf_24_1 G dX7_advise_56 lf7_56 (by first | assumption | decide) ?_
      refine j_icmp_ge G 80 dX7_advise_59 (by decide) (by omega) (by omega) (fun c59 => ?_) (fun c59 => ?_)
      · exfalso; omega
      · refine j_aload_n G dX7_advise_62 rfl ?_
        refine gf_24_7 G dX7_advise_63 lf7_29 (by first | assumption | decide) ?_
        refine j_iload_n G dX7_advise_66 rfl ?_
        refine j_aload_n G dX7_advise_67 rfl ?_
        refine j_iload_n G dX7_advise_68 rfl ?_
        refine j_iload_n G dX7_advise_69 rfl ?_
        refine j_cVI G cvX7_digit ml7_190 (c_X7_digit_n hi e hn hM.2.2 hda) dX7_advise_70 ⟨by decide, by decide⟩ ⟨by decide, by decide⟩ rfl rfl (Nat.le_of_ble_eq_true rfl) (by first | assumption | decide) rfl rfl rfl (fun r70 h70 => ?_)
        subst h70
        refine as_32 G dX7_advise_73 (by first | assumption | decide) (by omega) (by omega) ?_
        refine j_iinc G dX7_advise_74 rfl (by decide) rfl ?_
        refine j_goto G 54 dX7_advise_77 (by decide) ?_
        refine ih (a + 1) _ (by omega) (by omega) (by omega) (fun k' i' hne => by rw [zS_ki hne]; exact h3 k' i' hne) (fun d => ?_) (fun d d0 d1 => by rw [zS_k (by decide)]; exact h5 d d0 d1)
        rw [zS_v, h4]
        by_cases q : d = a
        · subst q; rw [if_pos rfl, if_pos (by omega)]
        · rw [if_neg q]
          by_cases q2 : 0 ≤ d ∧ d < a
          · rw [if_pos q2, if_pos (by omega)]
          · rw [if_neg q2, if_neg (by omega)]
  have loop : ∀ (n : Nat) (a b c : Int), 0 ≤ a → a ≤ 256 → (256 - a).toNat = n → (b, c) = adM S a.toNat → JJ p_ l e_ { frames := 5, cells := 0, slots := 0, locals := 122 } s_ m_ args_ below_ meth_ c_ D cys ad A_ Q_ 4 0 0 L g X (zS Z 24 0 0 0) 11 [(0, .ref (ad 24 0)), (1, .int (iI c)), (2, .int (iI b)), (3, .int (iI a))] [] := by
    intro n
    induction n with
    | zero =>
      intro a b c h0 h1 h2 h3
      have ea : a = 256 := by omega
      subst ea
      have h3 : (b, c) = adM S 256 := h3
      refine j_iload_n G dX7_advise_11 rfl ?_
      refine j_sipush G dX7_advise_12 (by decide +kernel) ?_
      refine j_icmp_ge G 52 dX7_advise_15 (by decide) (by omega) (by omega) (fun c15 => ?_) (fun c15 => ?_)
      · refine j_iconst G dX7_advise_52 ?_
        refine j_istore_n G dX7_advise_53 (by decide) rfl ?_
        have hb : b = (adM S 256).1 := by rw [← h3]
        have hc : c = (adM S 256).2 := by rw [← h3]
        subst hb hc
        exact fin _ 0 _ (by omega) hn.1 rfl (fun _ _ _ => rfl) (fun d => by rw [if_neg (by omega), zS_k (by decide)]) (fun d d0 d1 => (hS1.d d0 d1).1)
      · exfalso; omega
    | succ n ih =>
      intro a b c h0 h1 h2 h3
      have ha : 0 ≤ a ∧ a < 256 := by omega
      have hM := adM_in hW a.toNat (by omega)
      have hs := adM_s (S := S) h0
      rw [← h3] at hM hs
      have hM1 := hM.1
      have hM2 := hM.2.1
      have hh1 : 0 ≤ a + 1 := by omega
      have hh2 : a + 1 ≤ 256 := by omega
      have hh3 : (256 - (a + 1)).toNat = n := by omega
      have hgm := GM_in hW a
      refine j_iload_n G dX7_advise_11 rfl ?_
      refine j_sipush G dX7_advise_12 (by decide +kernel) ?_
      refine j_icmp_ge G 52 dX7_advise_15 (by decide) (by omega) (by omega) (fun c15 => ?_) (fun c15 => ?_)
      · exfalso; omega
      · refine j_aload_n G dX7_advise_18 rfl ?_
        refine j_iload_n G dX7_advise_19 rfl ?_
        refine j_cVI G cvX7_areLevels ml7_209 (c_X7_areLevels hi hS1 hW ha) dX7_advise_20 ⟨by decide, by decide⟩ ⟨by decide, by decide⟩ rfl rfl (Nat.le_of_ble_eq_true rfl) (by first | assumption | decide) rfl rfl rfl (fun r20 h20 => ?_)
        have h20' : (r20 = 0 ∨ r20 = 1) ∧ (r20 = 0 → ¬ LOK S (LV (S 0 0 5) a)) ∧ (r20 = 1 → LOK S (LV (S 0 0 5) a)) := by
          rcases h20 with z | z
          · exact ⟨Or.inr z.1, fun y => by omega, fun _ => z.2⟩
          · exact ⟨Or.inl z.1, fun _ => z.2, fun y => by omega⟩
        clear h20
        refine j_if_eq G 46 dX7_advise_23 (by decide) (by omega) (fun c23 => ?_) (fun c23 => ?_)
        · refine j_iinc G dX7_advise_46 rfl (by decide) rfl ?_
          refine j_goto G 11 dX7_advise_49 (by decide) ?_
          first
          | (refine ih (a + 1) b c hh1 hh2 hh3 ?_
             rw [hs, if_neg]
             rintro ⟨z1, z2⟩
             have z2 : b < GM S a := z2
             first
             | exact h20'.2.1 (by omega) z1
             | omega)
          | (refine ih (a + 1) _ a hh1 hh2 hh3 ?_
             rw [hs, if_pos ⟨h20'.2.2 (by omega), by show b < GM S a; omega⟩])
        · refine j_aload_n G dX7_advise_26 rfl ?_
          refine j_iload_n G dX7_advise_27 rfl ?_
          refine j_cVI G cvX7_gainOf ml7_226 (c_X7_gainOf hi hS1 hRL hW ha) dX7_advise_28 ⟨by decide, by decide⟩ ⟨by decide, by decide⟩ rfl rfl (Nat.le_of_ble_eq_true rfl) (by first | assumption | decide) rfl rfl rfl (fun r28 h28 => ?_)
          subst h28
          refine j_iload_n G dX7_advise_31 rfl ?_
          refine j_icmp_gt G 38 dX7_advise_32 (by decide) (by omega) (by omega) (fun c32 => ?_) (fun c32 => ?_)
          · refine j_iload_n G dX7_advise_38 rfl ?_
            refine j_istore_n G dX7_advise_39 (by decide) rfl ?_
            refine j_aload_n G dX7_advise_40 rfl ?_
            refine j_iload_n G dX7_advise_41 rfl ?_
            refine j_cVI G cvX7_gainOf ml7_226 (c_X7_gainOf hi hS1 hRL hW ha) dX7_advise_42 ⟨by decide, by decide⟩ ⟨by decide, by decide⟩ rfl rfl (Nat.le_of_ble_eq_true rfl) (by first | assumption | decide) rfl rfl rfl (fun r42 h42 => ?_)
            subst h42
            refine j_istore_n G dX7_advise_45 (by decide) rfl ?_
            refine j_iinc G dX7_advise_46 rfl (by decide) rfl ?_
            refine j_goto G 11 dX7_advise_49 (by decide) ?_
            first
            | (refine ih (a + 1) b c hh1 hh2 hh3 ?_
               rw [hs, if_neg]
               rintro ⟨z1, z2⟩
               have z2 : b < GM S a := z2
               first
               | exact h20'.2.1 (by omega) z1
               | omega)
            | (refine ih (a + 1) _ a hh1 hh2 hh3 ?_
               rw [hs, if_pos ⟨h20'.2.2 (by omega), by show b < GM S a; omega⟩])
          · refine j_goto G 46 dX7_advise_35 (by decide) ?_
            refine j_iinc G dX7_advise_46 rfl (by decide) rfl ?_
            refine j_goto G 11 dX7_advise_49 (by decide) ?_
            first
            | (refine ih (a + 1) b c hh1 hh2 hh3 ?_
               rw [hs, if_neg]
               rintro ⟨z1, z2⟩
               have z2 : b < GM S a := z2
               first
               | exact h20'.2.1 (by omega) z1
               | omega)
            | (refine ih (a + 1) _ a hh1 hh2 hh3 ?_
               rw [hs, if_pos ⟨h20'.2.2 (by omega), by show b < GM S a; omega⟩])
  refine j_aload_n G dX7_advise_0 rfl ?_
  refine j_iconst G dX7_advise_1 ?_
  refine pf_24_0 G dX7_advise_2 lf7_52 (by first | assumption | decide) ?_
  refine j_iconst G dX7_advise_5 ?_
  refine j_istore_n G dX7_advise_6 (by decide) rfl ?_
  refine j_iconst G dX7_advise_7 ?_
  refine j_istore_n G dX7_advise_8 (by decide) rfl ?_
  refine j_iconst G dX7_advise_9 ?_
  refine j_istore_n G dX7_advise_10 (by decide) rfl ?_
  exact loop _ 0 (-1) 0 (by omega) (by omega) rfl rfl

