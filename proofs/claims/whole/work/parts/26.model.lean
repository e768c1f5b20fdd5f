theorem dX7_counts_0 : decode cX7_counts 0 = .ok (.iconst 1, 1) := by decide +kernel
theorem dX7_counts_1 : decode cX7_counts 1 = .ok (.istore_n 2, 1) := by decide +kernel
theorem dX7_counts_2 : decode cX7_counts 2 = .ok (.iconst 0, 1) := by decide +kernel
theorem dX7_counts_3 : decode cX7_counts 3 = .ok (.istore_n 3, 1) := by decide +kernel
theorem dX7_counts_4 : decode cX7_counts 4 = .ok (.iload_n 3, 1) := by decide +kernel
theorem dX7_counts_5 : decode cX7_counts 5 = .ok (.aload_n 0, 1) := by decide +kernel
theorem dX7_counts_6 : decode cX7_counts 6 = .ok (.getfield 56, 3) := by decide +kernel
theorem dX7_counts_9 : decode cX7_counts 9 = .ok (.if_icmp .ge 55, 3) := by decide +kernel
theorem dX7_counts_12 : decode cX7_counts 12 = .ok (.iload_n 2, 1) := by decide +kernel
theorem dX7_counts_13 : decode cX7_counts 13 = .ok (.aload_n 0, 1) := by decide +kernel
theorem dX7_counts_14 : decode cX7_counts 14 = .ok (.iload_n 3, 1) := by decide +kernel
theorem dX7_counts_15 : decode cX7_counts 15 = .ok (.aload_n 0, 1) := by decide +kernel
theorem dX7_counts_16 : decode cX7_counts 16 = .ok (.getfield 33, 3) := by decide +kernel
theorem dX7_counts_19 : decode cX7_counts 19 = .ok (.iload_n 1, 1) := by decide +kernel
theorem dX7_counts_20 : decode cX7_counts 20 = .ok (.aaload, 1) := by decide +kernel
theorem dX7_counts_21 : decode cX7_counts 21 = .ok (.iload_n 3, 1) := by decide +kernel
theorem dX7_counts_22 : decode cX7_counts 22 = .ok (.iaload, 1) := by decide +kernel
theorem dX7_counts_23 : decode cX7_counts 23 = .ok (.aload_n 0, 1) := by decide +kernel
theorem dX7_counts_24 : decode cX7_counts 24 = .ok (.getfield 26, 3) := by decide +kernel
theorem dX7_counts_27 : decode cX7_counts 27 = .ok (.iload_n 3, 1) := by decide +kernel
theorem dX7_counts_28 : decode cX7_counts 28 = .ok (.iaload, 1) := by decide +kernel
theorem dX7_counts_29 : decode cX7_counts 29 = .ok (.invokevirtual 120, 3) := by decide +kernel
theorem dX7_counts_32 : decode cX7_counts 32 = .ok (.ifCond .eq 23, 3) := by decide +kernel
theorem dX7_counts_35 : decode cX7_counts 35 = .ok (.aload_n 0, 1) := by decide +kernel
theorem dX7_counts_36 : decode cX7_counts 36 = .ok (.iload_n 3, 1) := by decide +kernel
theorem dX7_counts_37 : decode cX7_counts 37 = .ok (.aload_n 0, 1) := by decide +kernel
theorem dX7_counts_38 : decode cX7_counts 38 = .ok (.getfield 33, 3) := by decide +kernel
theorem dX7_counts_41 : decode cX7_counts 41 = .ok (.iload_n 1, 1) := by decide +kernel
theorem dX7_counts_42 : decode cX7_counts 42 = .ok (.aaload, 1) := by decide +kernel
theorem dX7_counts_43 : decode cX7_counts 43 = .ok (.iload_n 3, 1) := by decide +kernel
theorem dX7_counts_44 : decode cX7_counts 44 = .ok (.iaload, 1) := by decide +kernel
theorem dX7_counts_45 : decode cX7_counts 45 = .ok (.invokevirtual 123, 3) := by decide +kernel
theorem dX7_counts_48 : decode cX7_counts 48 = .ok (.ifCond .ne 7, 3) := by decide +kernel
theorem dX7_counts_51 : decode cX7_counts 51 = .ok (.iconst 1, 1) := by decide +kernel
theorem dX7_counts_52 : decode cX7_counts 52 = .ok (.goto 4, 3) := by decide +kernel
theorem dX7_counts_55 : decode cX7_counts 55 = .ok (.iconst 0, 1) := by decide +kernel
theorem dX7_counts_56 : decode cX7_counts 56 = .ok (.iand, 1) := by decide +kernel
theorem dX7_counts_57 : decode cX7_counts 57 = .ok (.istore_n 2, 1) := by decide +kernel
theorem dX7_counts_58 : decode cX7_counts 58 = .ok (.iinc 3 1, 3) := by decide +kernel
theorem dX7_counts_61 : decode cX7_counts 61 = .ok (.goto (-57), 3) := by decide +kernel
theorem dX7_counts_64 : decode cX7_counts 64 = .ok (.iload_n 2, 1) := by decide +kernel
theorem dX7_counts_65 : decode cX7_counts 65 = .ok (.ireturn, 1) := by decide +kernel
theorem dX7_countNow_0 : decode cX7_countNow 0 = .ok (.iconst 0, 1) := by decide +kernel
theorem dX7_countNow_1 : decode cX7_countNow 1 = .ok (.istore_n 1, 1) := by decide +kernel
theorem dX7_countNow_2 : decode cX7_countNow 2 = .ok (.iconst 0, 1) := by decide +kernel
theorem dX7_countNow_3 : decode cX7_countNow 3 = .ok (.istore_n 2, 1) := by decide +kernel
theorem dX7_countNow_4 : decode cX7_countNow 4 = .ok (.iload_n 2, 1) := by decide +kernel
theorem dX7_countNow_5 : decode cX7_countNow 5 = .ok (.aload_n 0, 1) := by decide +kernel
theorem dX7_countNow_6 : decode cX7_countNow 6 = .ok (.getfield 89, 3) := by decide +kernel
theorem dX7_countNow_9 : decode cX7_countNow 9 = .ok (.if_icmp .ge 25, 3) := by decide +kernel
theorem dX7_countNow_12 : decode cX7_countNow 12 = .ok (.iload_n 1, 1) := by decide +kernel
theorem dX7_countNow_13 : decode cX7_countNow 13 = .ok (.aload_n 0, 1) := by decide +kernel
theorem dX7_countNow_14 : decode cX7_countNow 14 = .ok (.iload_n 2, 1) := by decide +kernel
theorem dX7_countNow_15 : decode cX7_countNow 15 = .ok (.invokevirtual 126, 3) := by decide +kernel
theorem dX7_countNow_18 : decode cX7_countNow 18 = .ok (.ifCond .eq 7, 3) := by decide +kernel
theorem dX7_countNow_21 : decode cX7_countNow 21 = .ok (.iconst 1, 1) := by decide +kernel
theorem dX7_countNow_22 : decode cX7_countNow 22 = .ok (.goto 4, 3) := by decide +kernel
theorem dX7_countNow_25 : decode cX7_countNow 25 = .ok (.iconst 0, 1) := by decide +kernel
theorem dX7_countNow_26 : decode cX7_countNow 26 = .ok (.iadd, 1) := by decide +kernel
theorem dX7_countNow_27 : decode cX7_countNow 27 = .ok (.istore_n 1, 1) := by decide +kernel
theorem dX7_countNow_28 : decode cX7_countNow 28 = .ok (.iinc 2 1, 3) := by decide +kernel
theorem dX7_countNow_31 : decode cX7_countNow 31 = .ok (.goto (-27), 3) := by decide +kernel
theorem dX7_countNow_34 : decode cX7_countNow 34 = .ok (.iload_n 1, 1) := by decide +kernel
theorem dX7_countNow_35 : decode cX7_countNow 35 = .ok (.ireturn, 1) := by decide +kernel
theorem dX7_sumNow_0 : decode cX7_sumNow 0 = .ok (.iconst 0, 1) := by decide +kernel
theorem dX7_sumNow_1 : decode cX7_sumNow 1 = .ok (.istore_n 1, 1) := by decide +kernel
theorem dX7_sumNow_2 : decode cX7_sumNow 2 = .ok (.iconst 0, 1) := by decide +kernel
theorem dX7_sumNow_3 : decode cX7_sumNow 3 = .ok (.istore_n 2, 1) := by decide +kernel
theorem dX7_sumNow_4 : decode cX7_sumNow 4 = .ok (.iload_n 2, 1) := by decide +kernel
theorem dX7_sumNow_5 : decode cX7_sumNow 5 = .ok (.aload_n 0, 1) := by decide +kernel
theorem dX7_sumNow_6 : decode cX7_sumNow 6 = .ok (.getfield 89, 3) := by decide +kernel
theorem dX7_sumNow_9 : decode cX7_sumNow 9 = .ok (.if_icmp .ge 30, 3) := by decide +kernel
theorem dX7_sumNow_12 : decode cX7_sumNow 12 = .ok (.iload_n 1, 1) := by decide +kernel
theorem dX7_sumNow_13 : decode cX7_sumNow 13 = .ok (.aload_n 0, 1) := by decide +kernel
theorem dX7_sumNow_14 : decode cX7_sumNow 14 = .ok (.iload_n 2, 1) := by decide +kernel
theorem dX7_sumNow_15 : decode cX7_sumNow 15 = .ok (.invokevirtual 126, 3) := by decide +kernel
theorem dX7_sumNow_18 : decode cX7_sumNow 18 = .ok (.ifCond .eq 12, 3) := by decide +kernel
theorem dX7_sumNow_21 : decode cX7_sumNow 21 = .ok (.aload_n 0, 1) := by decide +kernel
theorem dX7_sumNow_22 : decode cX7_sumNow 22 = .ok (.getfield 36, 3) := by decide +kernel
theorem dX7_sumNow_25 : decode cX7_sumNow 25 = .ok (.iload_n 2, 1) := by decide +kernel
theorem dX7_sumNow_26 : decode cX7_sumNow 26 = .ok (.iaload, 1) := by decide +kernel
theorem dX7_sumNow_27 : decode cX7_sumNow 27 = .ok (.goto 4, 3) := by decide +kernel
theorem dX7_sumNow_30 : decode cX7_sumNow 30 = .ok (.iconst 0, 1) := by decide +kernel
theorem dX7_sumNow_31 : decode cX7_sumNow 31 = .ok (.iadd, 1) := by decide +kernel
theorem dX7_sumNow_32 : decode cX7_sumNow 32 = .ok (.istore_n 1, 1) := by decide +kernel
theorem dX7_sumNow_33 : decode cX7_sumNow 33 = .ok (.iinc 2 1, 3) := by decide +kernel
theorem dX7_sumNow_36 : decode cX7_sumNow 36 = .ok (.goto (-32), 3) := by decide +kernel
theorem dX7_sumNow_39 : decode cX7_sumNow 39 = .ok (.iload_n 1, 1) := by decide +kernel
theorem dX7_sumNow_40 : decode cX7_sumNow 40 = .ok (.ireturn, 1) := by decide +kernel
theorem dX7_end_0 : decode cX7_end 0 = .ok (.iconst 0, 1) := by decide +kernel
theorem dX7_end_1 : decode cX7_end 1 = .ok (.istore_n 2, 1) := by decide +kernel
theorem dX7_end_2 : decode cX7_end 2 = .ok (.iconst 0, 1) := by decide +kernel
theorem dX7_end_3 : decode cX7_end 3 = .ok (.istore_n 3, 1) := by decide +kernel
theorem dX7_end_4 : decode cX7_end 4 = .ok (.iconst 0, 1) := by decide +kernel
theorem dX7_end_5 : decode cX7_end 5 = .ok (.istore 4, 2) := by decide +kernel
theorem dX7_end_7 : decode cX7_end 7 = .ok (.iload 4, 2) := by decide +kernel
theorem dX7_end_9 : decode cX7_end 9 = .ok (.aload_n 0, 1) := by decide +kernel
theorem dX7_end_10 : decode cX7_end 10 = .ok (.getfield 89, 3) := by decide +kernel
theorem dX7_end_13 : decode cX7_end 13 = .ok (.if_icmp .ge 50, 3) := by decide +kernel
theorem dX7_end_16 : decode cX7_end 16 = .ok (.aload_n 0, 1) := by decide +kernel
theorem dX7_end_17 : decode cX7_end 17 = .ok (.iload 4, 2) := by decide +kernel
theorem dX7_end_19 : decode cX7_end 19 = .ok (.invokevirtual 126, 3) := by decide +kernel
theorem dX7_end_22 : decode cX7_end 22 = .ok (.ifCond .eq 35, 3) := by decide +kernel
theorem dX7_end_25 : decode cX7_end 25 = .ok (.iload_n 3, 1) := by decide +kernel
theorem dX7_end_26 : decode cX7_end 26 = .ok (.ifCond .eq 21, 3) := by decide +kernel
theorem dX7_end_29 : decode cX7_end 29 = .ok (.iload_n 1, 1) := by decide +kernel
theorem dX7_end_30 : decode cX7_end 30 = .ok (.aload_n 0, 1) := by decide +kernel
theorem dX7_end_31 : decode cX7_end 31 = .ok (.getfield 36, 3) := by decide +kernel
theorem dX7_end_34 : decode cX7_end 34 = .ok (.iload 4, 2) := by decide +kernel
theorem dX7_end_36 : decode cX7_end 36 = .ok (.iaload, 1) := by decide +kernel
theorem dX7_end_37 : decode cX7_end 37 = .ok (.imul, 1) := by decide +kernel
theorem dX7_end_38 : decode cX7_end 38 = .ok (.iload_n 1, 1) := by decide +kernel
theorem dX7_end_39 : decode cX7_end 39 = .ok (.iload_n 2, 1) := by decide +kernel
theorem dX7_end_40 : decode cX7_end 40 = .ok (.imul, 1) := by decide +kernel
theorem dX7_end_41 : decode cX7_end 41 = .ok (.if_icmp .lt 6, 3) := by decide +kernel
theorem dX7_end_44 : decode cX7_end 44 = .ok (.goto 13, 3) := by decide +kernel
theorem dX7_end_47 : decode cX7_end 47 = .ok (.aload_n 0, 1) := by decide +kernel
theorem dX7_end_48 : decode cX7_end 48 = .ok (.getfield 36, 3) := by decide +kernel
theorem dX7_end_51 : decode cX7_end 51 = .ok (.iload 4, 2) := by decide +kernel
theorem dX7_end_53 : decode cX7_end 53 = .ok (.iaload, 1) := by decide +kernel
theorem dX7_end_54 : decode cX7_end 54 = .ok (.istore_n 2, 1) := by decide +kernel
theorem dX7_end_55 : decode cX7_end 55 = .ok (.iconst 1, 1) := by decide +kernel
theorem dX7_end_56 : decode cX7_end 56 = .ok (.istore_n 3, 1) := by decide +kernel
theorem dX7_end_57 : decode cX7_end 57 = .ok (.iinc 4 1, 3) := by decide +kernel
theorem dX7_end_60 : decode cX7_end 60 = .ok (.goto (-53), 3) := by decide +kernel
theorem dX7_end_63 : decode cX7_end 63 = .ok (.iload_n 2, 1) := by decide +kernel
theorem dX7_end_64 : decode cX7_end 64 = .ok (.ireturn, 1) := by decide +kernel
/-! by program: wip/whole/gen.py out of wip/whole/src/26.model.eb -/
/-! EbbTableModel: what counts -/
set_option maxRecDepth 100000 in
set_option maxHeartbeats 8000000 in
theorem c_X7_counts {l : Launch} {D : va_G} {cys : Nat → ClassId} {ad : Nat → Int → Nat} {L : List Nat} {g : Nat → va_E} {X : Int64} {Z : ZT} (hi : injA ad) {S : ZT} {k : Int} (hS : RMZ S Z) (hRL : RML cys ad S L g) (hW : WF S) (hk : 0 ≤ k ∧ k < S 6 0 3) : CM l D cys ad yX7_counts cX7_counts 4 (some .boolean) 2 47 0 0 [.ref (ad 24 0), .int (iI k)] L g X Z (PI L g X Z (fun r => (r = 1 ∧ seen S k) ∨ (r = 0 ∧ ¬ seen S k))) := by
  refine cm_start hi (by decide +kernel) (Nat.le_of_ble_eq_true rfl) ?_
  intro p_ e_ s_ m_ args_ below_ meth_ c_ A_ Q_ hQ G hr hin
  have hn := hW.n
  have hf := hW.f
  have e1 := hS.a.1
  have hfk := (hW.fk hk.1 hk.2).1
  have loop : ∀ (n : Nat) (a b : Int), 0 ≤ a → a ≤ S 0 0 5 → (S 0 0 5 - a).toNat = n → (b = 0 ∨ b = 1) → (b = 1 ↔ ∀ e, 0 ≤ e → e < a → seenT S e (S 8 e k)) → JJ p_ l e_ { frames := 2, cells := 0, slots := 0, locals := 47 } s_ m_ args_ below_ meth_ c_ D cys ad A_ Q_ 4 0 0 L g X Z 4 [(0, .ref (ad 24 0)), (1, .int (iI k)), (2, .int (iI b)), (3, .int (iI a))] [] := by
    intro n
    induction n with
    | zero =>
      intro a b h0 h1 h2 h3 h4
      have ea : a = S 0 0 5 := by omega
      subst ea
      refine j_iload_n G dX7_counts_4 rfl ?_
      refine j_aload_n G dX7_counts_5 rfl ?_
      refine gf_24_1 G dX7_counts_6 lf7_56 (by first | assumption | decide) ?_
      refine j_icmp_ge G 64 dX7_counts_9 (by decide) (by omega) (by omega) (fun c9 => ?_) (fun c9 => ?_)
      · refine j_iload_n G dX7_counts_64 rfl ?_
        refine jr_B G hQ hr dX7_counts_65 (by decide) (by decide) (by omega) ?_
        rcases h3 with z | z
        · exact Or.inr ⟨z, fun y => by have := h4.mpr y; omega⟩
        · exact Or.inl ⟨z, h4.mp z⟩
      · exfalso; omega
    | succ n ih =>
      intro a b h0 h1 h2 h3 h4
      have hda : 0 ≤ a ∧ a < S 0 0 5 := by omega
      have hla := hfk a h0 hda.2
      have hlb : 0 ≤ S 8 a k ∧ S 8 a k < S 2 a 4 := ⟨hla.1, hla.2.1⟩
      have ht := (hW.t hda.1 hda.2).1
      have hpa : 0 ≤ S 2 a 5 ∧ S 2 a 5 < S 2 a 4 := by omega
      have e31 := (hS.d h0 (by omega)).2.2.1
      have hh1 : 0 ≤ a + 1 := by omega
      have hh2 : a + 1 ≤ S 0 0 5 := by omega
      have hh3 : (S 0 0 5 - (a + 1)).toNat = n := by omega
      have hstep := fun c => all_step (P := fun e => seenT S e (S 8 e k)) (b := b) (c := c) h0 h4
      refine j_iload_n G dX7_counts_4 rfl ?_
      refine j_aload_n G dX7_counts_5 rfl ?_
      refine gf_24_1 G dX7_counts_6 lf7_56 (by first | assumption | decide) ?_
      refine j_icmp_ge G 64 dX7_counts_9 (by decide) (by omega) (by omega) (fun c9 => ?_) (fun c9 => ?_)
      · exfalso; omega
      · refine j_iload_n G dX7_counts_12 rfl ?_
        refine j_aload_n G dX7_counts_13 rfl ?_
        refine j_iload_n G dX7_counts_14 rfl ?_
        refine j_aload_n G dX7_counts_15 rfl ?_
        refine gf_24_9 G dX7_counts_16 lf7_33 (by first | assumption | decide) ?_
        refine j_iload_n G dX7_counts_19 rfl ?_
        refine j_leaf G dX7_counts_20 hRL (by omega) (by omega) (by omega) (fun a20 W20 l20 => ?_)
        refine j_iload_n G dX7_counts_21 rfl ?_
        refine j_dld G dX7_counts_22 l20.1 l20.2.1 l20.2.2.1 (by rw [l20.2.2.2.1]; decide) (by omega) (by rw [l20.2.2.2.1]; omega) ?_
        rw [l20.2.2.2.2 _ (by omega) (by omega)]
        refine j_aload_n G dX7_counts_23 rfl ?_
        refine gf_24_6 G dX7_counts_24 lf7_26 (by first | assumption | decide) ?_
        refine j_iload_n G dX7_counts_27 rfl ?_
        refine al_31 G dX7_counts_28 (by first | assumption | decide) (by omega) (by omega) ?_
        rw [e31]
        refine j_cVI G cvX7_isBeneath ml7_120 (c_X7_isBeneath hi hS hW hda hlb hpa) dX7_counts_29 ⟨by decide, by decide⟩ ⟨by decide, by decide⟩ rfl rfl (Nat.le_of_ble_eq_true rfl) (by first | assumption | decide) rfl rfl rfl (fun r29 h29 => ?_)
        have h29' : (r29 = 0 ∨ r29 = 1) ∧ (r29 = 0 → ¬ bel S a (S 8 a k) (S 2 a 5)) ∧ (r29 = 1 → bel S a (S 8 a k) (S 2 a 5)) := by
          rcases h29 with z | z
          · exact ⟨Or.inr z.1, fun y => by omega, fun _ => z.2⟩
          · exact ⟨Or.inl z.1, fun _ => z.2, fun y => by omega⟩
        clear h29
        refine j_if_eq G 55 dX7_counts_32 (by decide) (by omega) (fun c32 => ?_) (fun c32 => ?_)
        · refine j_iconst G dX7_counts_55 ?_
          refine j_iand G dX7_counts_56 (and_01 h3 (by decide)) ?_
          refine j_istore_n G dX7_counts_57 (by decide) rfl ?_
          refine j_iinc G dX7_counts_58 rfl (by decide) rfl ?_
          refine j_goto G 4 dX7_counts_61 (by decide) ?_
          refine ih (a + 1) _ hh1 hh2 hh3 if_01 (hstep _ ?_)
          first
          | exact ⟨fun z => absurd z (by decide), fun z => absurd z.1 (h29'.2.1 (by omega))⟩
          | exact ⟨fun z => absurd z (by decide), fun z => absurd z.2 (h45'.2.1 (by omega))⟩
          | exact ⟨fun _ => ⟨h29'.2.2 (by omega), h45'.2.2 (by omega)⟩, fun _ => rfl⟩
        · refine j_aload_n G dX7_counts_35 rfl ?_
          refine j_iload_n G dX7_counts_36 rfl ?_
          refine j_aload_n G dX7_counts_37 rfl ?_
          refine gf_24_9 G dX7_counts_38 lf7_33 (by first | assumption | decide) ?_
          refine j_iload_n G dX7_counts_41 rfl ?_
          refine j_leaf G dX7_counts_42 hRL (by omega) (by omega) (by omega) (fun a42 W42 l42 => ?_)
          refine j_iload_n G dX7_counts_43 rfl ?_
          refine j_dld G dX7_counts_44 l42.1 l42.2.1 l42.2.2.1 (by rw [l42.2.2.2.1]; decide) (by omega) (by rw [l42.2.2.2.1]; omega) ?_
          rw [l42.2.2.2.2 _ (by omega) (by omega)]
          refine j_cVI G cvX7_isOutAt ml7_123 (c_X7_isOutAt hi hS hW hda hlb) dX7_counts_45 ⟨by decide, by decide⟩ ⟨by decide, by decide⟩ rfl rfl (Nat.le_of_ble_eq_true rfl) (by first | assumption | decide) rfl rfl rfl (fun r45 h45 => ?_)
          have h45' : (r45 = 0 ∨ r45 = 1) ∧ (r45 = 1 → ¬ ∀ w, 0 ≤ w → w < S 2 a 4 → S 5 a w = 1 → ¬ bel S a (S 8 a k) w) ∧ (r45 = 0 → ∀ w, 0 ≤ w → w < S 2 a 4 → S 5 a w = 1 → ¬ bel S a (S 8 a k) w) := by
            rcases h45 with z | z
            · exact ⟨Or.inr z.1, fun _ => z.2, fun y => by omega⟩
            · exact ⟨Or.inl z.1, fun y => by omega, fun _ => z.2⟩
          clear h45
          refine j_if_ne G 55 dX7_counts_48 (by decide) (by omega) (fun c48 => ?_) (fun c48 => ?_)
          · refine j_iconst G dX7_counts_55 ?_
            refine j_iand G dX7_counts_56 (and_01 h3 (by decide)) ?_
            refine j_istore_n G dX7_counts_57 (by decide) rfl ?_
            refine j_iinc G dX7_counts_58 rfl (by decide) rfl ?_
            refine j_goto G 4 dX7_counts_61 (by decide) ?_
            refine ih (a + 1) _ hh1 hh2 hh3 if_01 (hstep _ ?_)
            first
            | exact ⟨fun z => absurd z (by decide), fun z => absurd z.1 (h29'.2.1 (by omega))⟩
            | exact ⟨fun z => absurd z (by decide), fun z => absurd z.2 (h45'.2.1 (by omega))⟩
            | exact ⟨fun _ => ⟨h29'.2.2 (by omega), h45'.2.2 (by omega)⟩, fun _ => rfl⟩
          · refine j_iconst G dX7_counts_51 ?_
            refine j_goto G 56 dX7_counts_52 (by decide) ?_
            refine j_iand G dX7_counts_56 (and_01 h3 (by decide)) ?_
            refine j_istore_n G dX7_counts_57 (by decide) rfl ?_
            refine j_iinc G dX7_counts_58 rfl (by decide) rfl ?_
            refine j_goto G 4 dX7_counts_61 (by decide) ?_
            refine ih (a + 1) _ hh1 hh2 hh3 if_01 (hstep _ ?_)
            first
            | exact ⟨fun z => absurd z (by decide), fun z => absurd z.1 (h29'.2.1 (by omega))⟩
            | exact ⟨fun z => absurd z (by decide), fun z => absurd z.2 (h45'.2.1 (by omega))⟩
            | exact ⟨fun _ => ⟨h29'.2.2 (by omega), h45'.2.2 (by omega)⟩, fun _ => rfl⟩
  refine j_iconst G dX7_counts_0 ?_
  refine j_istore_n G dX7_counts_1 (by decide) rfl ?_
  refine j_iconst G dX7_counts_2 ?_
  refine j_istore_n G dX7_counts_3 (by decide) rfl ?_
  exact loop _ 0 1 (by omega) (by omega) rfl (Or.inr rfl) ⟨fun _ e e0 e1 => by omega, fun _ => rfl⟩
set_option maxRecDepth 100000 in
set_option maxHeartbeats 8000000 in
theorem c_X7_countNow {l : Launch} {D : va_G} {cys : Nat → ClassId} {ad : Nat → Int → Nat} {L : List Nat} {g : Nat → va_E} {X : Int64} {Z : ZT} (hi : injA ad) {S : ZT} (hS : RMZ S Z) (hRL : RML cys ad S L g) (hW : WF S) : CM l D cys ad yX7_countNow cX7_countNow 3 (some .int) 3 70 0 0 [.ref (ad 24 0)] L g X Z (PI L g X Z (fun r => r = CNT S)) := by
  refine cm_start hi (by decide +kernel) (Nat.le_of_ble_eq_true rfl) ?_
  intro p_ e_ s_ m_ args_ below_ meth_ c_ A_ Q_ hQ G hr hin
  have hf := hW.f
  have e63 := hS.a.2.1
  have loop : ∀ (n : Nat) (a b : Int), 0 ≤ a → a ≤ S 6 0 3 → (S 6 0 3 - a).toNat = n → b = sumTo (fun k => iv (seen S k)) a.toNat → JJ p_ l e_ { frames := 3, cells := 0, slots := 0, locals := 70 } s_ m_ args_ below_ meth_ c_ D cys ad A_ Q_ 3 0 0 L g X Z 4 [(0, .ref (ad 24 0)), (1, .int (iI b)), (2, .int (iI a))] [] := by
    intro n
    induction n with
    | zero =>
      intro a b h0 h1 h2 h3
      have ea : a = S 6 0 3 := by omega
      subst ea
      refine j_iload_n G dX7_countNow_4 rfl ?_
      refine j_aload_n G dX7_countNow_5 rfl ?_
      refine gf_24_8 G dX7_countNow_6 lf7_89 (by first | assumption | decide) ?_
      refine j_icmp_ge G 34 dX7_countNow_9 (by decide) (by omega) (by omega) (fun c9 => ?_) (fun c9 => ?_)
      · refine j_iload_n G dX7_countNow_34 rfl ?_
        refine jr_I G hQ hr dX7_countNow_35 (by decide) (by decide) ?_
        exact h3
      · exfalso; omega
    | succ n ih =>
      intro a b h0 h1 h2 h3
      have hk : 0 ≤ a ∧ a < S 6 0 3 := by omega
      have hs := sumTo_s (f := fun k => iv (seen S k)) h0
      refine j_iload_n G dX7_countNow_4 rfl ?_
      refine j_aload_n G dX7_countNow_5 rfl ?_
      refine gf_24_8 G dX7_countNow_6 lf7_89 (by first | assumption | decide) ?_
      refine j_icmp_ge G 34 dX7_countNow_9 (by decide) (by omega) (by omega) (fun c9 => ?_) (fun c9 => ?_)
      · exfalso; omega
      · refine j_iload_n G dX7_countNow_12 rfl ?_
        refine j_aload_n G dX7_countNow_13 rfl ?_
        refine j_iload_n G dX7_countNow_14 rfl ?_
        refine j_cVI G cvX7_counts ml7_126 (c_X7_counts hi hS hRL hW hk) dX7_countNow_15 ⟨by decide, by decide⟩ ⟨by decide, by decide⟩ rfl rfl (Nat.le_of_ble_eq_true rfl) (by first | assumption | decide) rfl rfl rfl (fun r15 h15 => ?_)
        refine j_if_eq G 25 dX7_countNow_18 (by decide) (by omega) (fun c18 => ?_) (fun c18 => ?_)
        · refine j_iconst G dX7_countNow_25 ?_
          refine j_iadd G dX7_countNow_26 ?_
          refine j_istore_n G dX7_countNow_27 (by decide) rfl ?_
          refine j_iinc G dX7_countNow_28 rfl (by decide) rfl ?_
          refine j_goto G 4 dX7_countNow_31 (by decide) ?_
          refine ih (a + 1) _ (by omega) (by omega) (by omega) ?_
          rw [hs, ← h3]
          rcases h15 with q | q
          · first
            | (exfalso; omega)
            | rw [iv_t q.2]
          · first
            | (exfalso; omega)
            | (rw [iv_f q.2])
        · refine j_iconst G dX7_countNow_21 ?_
          refine j_goto G 26 dX7_countNow_22 (by decide) ?_
          refine j_iadd G dX7_countNow_26 ?_
          refine j_istore_n G dX7_countNow_27 (by decide) rfl ?_
          refine j_iinc G dX7_countNow_28 rfl (by decide) rfl ?_
          refine j_goto G 4 dX7_countNow_31 (by decide) ?_
          refine ih (a + 1) _ (by omega) (by omega) (by omega) ?_
          rw [hs, ← h3]
          rcases h15 with q | q
          · first
            | (exfalso; omega)
            | rw [iv_t q.2]
          · first
            | (exfalso; omega)
            | (rw [iv_f q.2])
  refine j_iconst G dX7_countNow_0 ?_
  refine j_istore_n G dX7_countNow_1 (by decide) rfl ?_
  refine j_iconst G dX7_countNow_2 ?_
  refine j_istore_n G dX7_countNow_3 (by decide) rfl ?_
  exact loop _ 0 0 (by omega) (by omega) rfl rfl
set_option maxRecDepth 100000 in
set_option maxHeartbeats 8000000 in
theorem c_X7_sumNow {l : Launch} {D : va_G} {cys : Nat → ClassId} {ad : Nat → Int → Nat} {L : List Nat} {g : Nat → va_E} {X : Int64} {Z : ZT} (hi : injA ad) {S : ZT} (hS : RMZ S Z) (hRL : RML cys ad S L g) (hW : WF S) : CM l D cys ad yX7_sumNow cX7_sumNow 3 (some .int) 3 70 0 0 [.ref (ad 24 0)] L g X Z (PI L g X Z (fun r => r = SUM S)) := by
  refine cm_start hi (by decide +kernel) (Nat.le_of_ble_eq_true rfl) ?_
  intro p_ e_ s_ m_ args_ below_ meth_ c_ A_ Q_ hQ G hr hin
  have hf := hW.f
  have e63 := hS.a.2.1
  have loop : ∀ (n : Nat) (a b : Int), 0 ≤ a → a ≤ S 6 0 3 → (S 6 0 3 - a).toNat = n → b = sumTo (fun k => iv (seen S k) * S 9 0 k) a.toNat → JJ p_ l e_ { frames := 3, cells := 0, slots := 0, locals := 70 } s_ m_ args_ below_ meth_ c_ D cys ad A_ Q_ 3 0 0 L g X Z 4 [(0, .ref (ad 24 0)), (1, .int (iI b)), (2, .int (iI a))] [] := by
    intro n
    induction n with
    | zero =>
      intro a b h0 h1 h2 h3
      have ea : a = S 6 0 3 := by omega
      subst ea
      refine j_iload_n G dX7_sumNow_4 rfl ?_
      refine j_aload_n G dX7_sumNow_5 rfl ?_
      refine gf_24_8 G dX7_sumNow_6 lf7_89 (by first | assumption | decide) ?_
      refine j_icmp_ge G 39 dX7_sumNow_9 (by decide) (by omega) (by omega) (fun c9 => ?_) (fun c9 => ?_)
      · refine j_iload_n G dX7_sumNow_39 rfl ?_
        refine jr_I G hQ hr dX7_sumNow_40 (by decide) (by decide) ?_
        exact h3
      · exfalso; omega
    | succ n ih =>
      intro a b h0 h1 h2 h3
      have hk : 0 ≤ a ∧ a < S 6 0 3 := by omega
      have hs := sumTo_s (f := fun k => iv (seen S k) * S 9 0 k) h0
      have e9 := hS.v h0 hk.2
      refine j_iload_n G dX7_sumNow_4 rfl ?_
      refine j_aload_n G dX7_sumNow_5 rfl ?_
      refine gf_24_8 G dX7_sumNow_6 lf7_89 (by first | assumption | decide) ?_
      refine j_icmp_ge G 39 dX7_sumNow_9 (by decide) (by omega) (by omega) (fun c9 => ?_) (fun c9 => ?_)
      · exfalso; omega
      · refine j_iload_n G dX7_sumNow_12 rfl ?_
        refine j_aload_n G dX7_sumNow_13 rfl ?_
        refine j_iload_n G dX7_sumNow_14 rfl ?_
        refine j_cVI G cvX7_counts ml7_126 (c_X7_counts hi hS hRL hW hk) dX7_sumNow_15 ⟨by decide, by decide⟩ ⟨by decide, by decide⟩ rfl rfl (Nat.le_of_ble_eq_true rfl) (by first | assumption | decide) rfl rfl rfl (fun r15 h15 => ?_)
        refine j_if_eq G 30 dX7_sumNow_18 (by decide) (by omega) (fun c18 => ?_) (fun c18 => ?_)
        · refine j_iconst G dX7_sumNow_30 ?_
          refine j_iadd G dX7_sumNow_31 ?_
          refine j_istore_n G dX7_sumNow_32 (by decide) rfl ?_
          refine j_iinc G dX7_sumNow_33 rfl (by decide) rfl ?_
          refine j_goto G 4 dX7_sumNow_36 (by decide) ?_
          refine ih (a + 1) _ (by omega) (by omega) (by omega) ?_
          rw [hs, ← h3]
          rcases h15 with q | q
          · first
            | (exfalso; omega)
            | (rw [iv_t q.2, e9]; omega)
          · first
            | (exfalso; omega)
            | (rw [iv_f q.2]; omega)
        · refine j_aload_n G dX7_sumNow_21 rfl ?_
          refine gf_24_10 G dX7_sumNow_22 lf7_36 (by first | assumption | decide) ?_
          refine j_iload_n G dX7_sumNow_25 rfl ?_
          refine al_34 G dX7_sumNow_26 (by first | assumption | decide) (by omega) (by omega) ?_
          refine j_goto G 31 dX7_sumNow_27 (by decide) ?_
          refine j_iadd G dX7_sumNow_31 ?_
          refine j_istore_n G dX7_sumNow_32 (by decide) rfl ?_
          refine j_iinc G dX7_sumNow_33 rfl (by decide) rfl ?_
          refine j_goto G 4 dX7_sumNow_36 (by decide) ?_
          refine ih (a + 1) _ (by omega) (by omega) (by omega) ?_
          rw [hs, ← h3]
          rcases h15 with q | q
          · first
            | (exfalso; omega)
            | (rw [iv_t q.2, e9]; omega)
          · first
            | (exfalso; omega)
            | (rw [iv_f q.2]; omega)
  refine j_iconst G dX7_sumNow_0 ?_
  refine j_istore_n G dX7_sumNow_1 (by decide) rfl ?_
  refine j_iconst G dX7_sumNow_2 ?_
  refine j_istore_n G dX7_sumNow_3 (by decide) rfl ?_
  exact loop _ 0 0 (by omega) (by omega) rfl rfl
set_option maxRecDepth 100000 in
set_option maxHeartbeats 8000000 in
theorem c_X7_end {l : Launch} {D : va_G} {cys : Nat → ClassId} {ad : Nat → Int → Nat} {L : List Nat} {g : Nat → va_E} {X : Int64} {Z : ZT} (hi : injA ad) {S : ZT} {q : Int} (hS : RMZ S Z) (hRL : RML cys ad S L g) (hW : WF S) (hq : q = 1 ∨ q = -1) : CM l D cys ad yX7_end cX7_end 5 (some .int) 3 70 0 0 [.ref (ad 24 0), .int (iI q)] L g X Z (PI L g X Z (fun r => r = if q = 1 then LEAST S else GREAT S)) := by
  refine cm_start hi (by decide +kernel) (Nat.le_of_ble_eq_true rfl) ?_
  intro p_ e_ s_ m_ args_ below_ meth_ c_ A_ Q_ hQ G hr hin
  have hf := hW.f
  have e63 := hS.a.2.1
  rcases hq with rfl | rfl
  · have loop : ∀ (n : Nat) (a b h : Int), 0 ≤ a → a ≤ S 6 0 3 → (S 6 0 3 - a).toNat = n → ((h = 1 ∧ b = lsF S a.toNat ∧ b ≤ 10000) ∨ (h = 0 ∧ b = 0 ∧ lsF S a.toNat = 10001)) → JJ p_ l e_ { frames := 3, cells := 0, slots := 0, locals := 70 } s_ m_ args_ below_ meth_ c_ D cys ad A_ Q_ 5 0 0 L g X Z 7 [(0, .ref (ad 24 0)), (1, .int (iI 1)), (2, .int (iI b)), (3, .int (iI h)), (4, .int (iI a))] [] := by
      intro n
      induction n with
      | zero =>
        intro a b h h0 h1 h2 h3
        have ea : a = S 6 0 3 := by omega
        subst ea
        refine j_iload G dX7_end_7 rfl ?_
        refine j_aload_n G dX7_end_9 rfl ?_
        refine gf_24_8 G dX7_end_10 lf7_89 (by first | assumption | decide) ?_
        refine j_icmp_ge G 63 dX7_end_13 (by decide) (by omega) (by omega) (fun c13 => ?_) (fun c13 => ?_)
        · refine j_iload_n G dX7_end_63 rfl ?_
          refine jr_I G hQ hr dX7_end_64 (by decide) (by decide) ?_
          rw [if_pos rfl]
          unfold LEAST
          rcases h3 with z | z
          · rw [if_neg (by omega), z.2.1]
          · rw [if_pos (by omega), z.2.1]
        · exfalso; omega
      | succ n ih =>
        intro a b h h0 h1 h2 h3
        have hk : 0 ≤ a ∧ a < S 6 0 3 := by omega
        have hs := lsF_s (S := S) h0
        have hin := lsF_in hW a.toNat (by omega)
        have e9 := hS.v h0 hk.2
        have hv := (hW.fk h0 hk.2).2
        have hh1 : 0 ≤ a + 1 := by omega
        have hh2 : a + 1 ≤ S 6 0 3 := by omega
        have hh3 : (S 6 0 3 - (a + 1)).toNat = n := by omega
        have hbb : -10000 ≤ b ∧ b ≤ 10000 ∧ (h = 0 ∨ h = 1) := by omega
        refine j_iload G dX7_end_7 rfl ?_
        refine j_aload_n G dX7_end_9 rfl ?_
        refine gf_24_8 G dX7_end_10 lf7_89 (by first | assumption | decide) ?_
        refine j_icmp_ge G 63 dX7_end_13 (by decide) (by omega) (by omega) (fun c13 => ?_) (fun c13 => ?_)
        · exfalso; omega
        · refine j_aload_n G dX7_end_16 rfl ?_
          refine j_iload G dX7_end_17 rfl ?_
          refine j_cVI G cvX7_counts ml7_126 (c_X7_counts hi hS hRL hW hk) dX7_end_19 ⟨by decide, by decide⟩ ⟨by decide, by decide⟩ rfl rfl (Nat.le_of_ble_eq_true rfl) (by first | assumption | decide) rfl rfl rfl (fun r19 h19 => ?_)
          have h19' : (r19 = 0 ∨ r19 = 1) ∧ (r19 = 0 → ¬ seen S a) ∧ (r19 = 1 → seen S a) := by
            rcases h19 with z | z
            · exact ⟨Or.inr z.1, fun y => by omega, fun _ => z.2⟩
            · exact ⟨Or.inl z.1, fun _ => z.2, fun y => by omega⟩
          clear h19
          refine j_if_eq G 57 dX7_end_22 (by decide) (by omega) (fun c22 => ?_) (fun c22 => ?_)
          · refine j_iinc G dX7_end_57 rfl (by decide) rfl ?_
            refine j_goto G 7 dX7_end_60 (by decide) ?_
            first
            | (refine ih (a + 1) b h hh1 hh2 hh3 ?_
               rw [hs, if_neg]
               · exact h3
               · rintro ⟨z1, z2⟩
                 first
                 | exact h19'.2.1 (by omega) z2
                 | omega)
            | (refine ih (a + 1) _ 1 hh1 hh2 hh3 (Or.inl ⟨rfl, ?_, by omega⟩)
               rw [hs, if_pos ⟨by omega, h19'.2.2 (by omega)⟩, e9])
          · refine j_iload_n G dX7_end_25 rfl ?_
            refine j_if_eq G 47 dX7_end_26 (by decide) (by omega) (fun c26 => ?_) (fun c26 => ?_)
            · refine j_aload_n G dX7_end_47 rfl ?_
              refine gf_24_10 G dX7_end_48 lf7_36 (by first | assumption | decide) ?_
              refine j_iload G dX7_end_51 rfl ?_
              refine al_34 G dX7_end_53 (by first | assumption | decide) (by omega) (by omega) ?_
              refine j_istore_n G dX7_end_54 (by decide) rfl ?_
              refine j_iconst G dX7_end_55 ?_
              refine j_istore_n G dX7_end_56 (by decide) rfl ?_
              refine j_iinc G dX7_end_57 rfl (by decide) rfl ?_
              refine j_goto G 7 dX7_end_60 (by decide) ?_
              first
              | (refine ih (a + 1) b h hh1 hh2 hh3 ?_
                 rw [hs, if_neg]
                 · exact h3
                 · rintro ⟨z1, z2⟩
                   first
                   | exact h19'.2.1 (by omega) z2
                   | omega)
              | (refine ih (a + 1) _ 1 hh1 hh2 hh3 (Or.inl ⟨rfl, ?_, by omega⟩)
                 rw [hs, if_pos ⟨by omega, h19'.2.2 (by omega)⟩, e9])
            · refine j_iload_n G dX7_end_29 rfl ?_
              refine j_aload_n G dX7_end_30 rfl ?_
              refine gf_24_10 G dX7_end_31 lf7_36 (by first | assumption | decide) ?_
              refine j_iload G dX7_end_34 rfl ?_
              refine al_34 G dX7_end_36 (by first | assumption | decide) (by omega) (by omega) ?_
              refine j_imul G dX7_end_37 ?_
              refine j_iload_n G dX7_end_38 rfl ?_
              refine j_iload_n G dX7_end_39 rfl ?_
              refine j_imul G dX7_end_40 ?_
              refine j_icmp_lt G 47 dX7_end_41 (by decide) (by omega) (by omega) (fun c41 => ?_) (fun c41 => ?_)
              · refine j_aload_n G dX7_end_47 rfl ?_
                refine gf_24_10 G dX7_end_48 lf7_36 (by first | assumption | decide) ?_
                refine j_iload G dX7_end_51 rfl ?_
                refine al_34 G dX7_end_53 (by first | assumption | decide) (by omega) (by omega) ?_
                refine j_istore_n G dX7_end_54 (by decide) rfl ?_
                refine j_iconst G dX7_end_55 ?_
                refine j_istore_n G dX7_end_56 (by decide) rfl ?_
                refine j_iinc G dX7_end_57 rfl (by decide) rfl ?_
                refine j_goto G 7 dX7_end_60 (by decide) ?_
                first
                | (refine ih (a + 1) b h hh1 hh2 hh3 ?_
                   rw [hs, if_neg]
                   · exact h3
                   · rintro ⟨z1, z2⟩
                     first
                     | exact h19'.2.1 (by omega) z2
                     | omega)
                | (refine ih (a + 1) _ 1 hh1 hh2 hh3 (Or.inl ⟨rfl, ?_, by omega⟩)
                   rw [hs, if_pos ⟨by omega, h19'.2.2 (by omega)⟩, e9])
              · refine j_goto G 57 dX7_end_44 (by decide) ?_
                refine j_iinc G dX7_end_57 rfl (by decide) rfl ?_
                refine j_goto G 7 dX7_end_60 (by decide) ?_
                first
                | (refine ih (a + 1) b h hh1 hh2 hh3 ?_
                   rw [hs, if_neg]
                   · exact h3
                   · rintro ⟨z1, z2⟩
                     first
                     | exact h19'.2.1 (by omega) z2
                     | omega)
                | (refine ih (a + 1) _ 1 hh1 hh2 hh3 (Or.inl ⟨rfl, ?_, by omega⟩)
                   rw [hs, if_pos ⟨by omega, h19'.2.2 (by omega)⟩, e9])
    refine j_iconst G dX7_end_0 ?_
    refine j_istore_n G dX7_end_1 (by decide) rfl ?_
    refine j_iconst G dX7_end_2 ?_
    refine j_istore_n G dX7_end_3 (by decide) rfl ?_
    refine j_iconst G dX7_end_4 ?_
    refine j_istore G dX7_end_5 (by decide) rfl ?_
    exact loop _ 0 0 0 (by omega) (by omega) rfl (Or.inr ⟨rfl, rfl, rfl⟩)
  · have loop : ∀ (n : Nat) (a b h : Int), 0 ≤ a → a ≤ S 6 0 3 → (S 6 0 3 - a).toNat = n → ((h = 1 ∧ b = gsF S a.toNat ∧ -10000 ≤ b) ∨ (h = 0 ∧ b = 0 ∧ gsF S a.toNat = -10001)) → JJ p_ l e_ { frames := 3, cells := 0, slots := 0, locals := 70 } s_ m_ args_ below_ meth_ c_ D cys ad A_ Q_ 5 0 0 L g X Z 7 [(0, .ref (ad 24 0)), (1, .int (iI (-1))), (2, .int (iI b)), (3, .int (iI h)), (4, .int (iI a))] [] := by
      intro n
      induction n with
      | zero =>
        intro a b h h0 h1 h2 h3
        have ea : a = S 6 0 3 := by omega
        subst ea
        refine j_iload G dX7_end_7 rfl ?_
        refine j_aload_n G dX7_end_9 rfl ?_
        refine gf_24_8 G dX7_end_10 lf7_89 (by first | assumption | decide) ?_
        refine j_icmp_ge G 63 dX7_end_13 (by decide) (by omega) (by omega) (fun c13 => ?_) (fun c13 => ?_)
        · refine j_iload_n G dX7_end_63 rfl ?_
          refine jr_I G hQ hr dX7_end_64 (by decide) (by decide) ?_
          rw [if_neg (by decide)]
          unfold GREAT
          rcases h3 with z | z
          · rw [if_neg (by omega), z.2.1]
          · rw [if_pos (by omega), z.2.1]
        · exfalso; omega
      | succ n ih =>
        intro a b h h0 h1 h2 h3
        have hk : 0 ≤ a ∧ a < S 6 0 3 := by omega
        have hs := gsF_s (S := S) h0
        have hin := gsF_in hW a.toNat (by omega)
        have e9 := hS.v h0 hk.2
        have hv := (hW.fk h0 hk.2).2
        have hh1 : 0 ≤ a + 1 := by omega
        have hh2 : a + 1 ≤ S 6 0 3 := by omega
        have hh3 : (S 6 0 3 - (a + 1)).toNat = n := by omega
        have hbb : -10000 ≤ b ∧ b ≤ 10000 ∧ (h = 0 ∨ h = 1) := by omega
        refine j_iload G dX7_end_7 rfl ?_
        refine j_aload_n G dX7_end_9 rfl ?_
        refine gf_24_8 G dX7_end_10 lf7_89 (by first | assumption | decide) ?_
        refine j_icmp_ge G 63 dX7_end_13 (by decide) (by omega) (by omega) (fun c13 => ?_) (fun c13 => ?_)
        · exfalso; omega
        · refine j_aload_n G dX7_end_16 rfl ?_
          refine j_iload G dX7_end_17 rfl ?_
          refine j_cVI G cvX7_counts ml7_126 (c_X7_counts hi hS hRL hW hk) dX7_end_19 ⟨by decide, by decide⟩ ⟨by decide, by decide⟩ rfl rfl (Nat.le_of_ble_eq_true rfl) (by first | assumption | decide) rfl rfl rfl (fun r19 h19 => ?_)
          have h19' : (r19 = 0 ∨ r19 = 1) ∧ (r19 = 0 → ¬ seen S a) ∧ (r19 = 1 → seen S a) := by
            rcases h19 with z | z
            · exact ⟨Or.inr z.1, fun y => by omega, fun _ => z.2⟩
            · exact ⟨Or.inl z.1, fun _ => z.2, fun y => by omega⟩
          clear h19
          refine j_if_eq G 57 dX7_end_22 (by decide) (by omega) (fun c22 => ?_) (fun c22 => ?_)
          · refine j_iinc G dX7_end_57 rfl (by decide) rfl ?_
            refine j_goto G 7 dX7_end_60 (by decide) ?_
            first
            | (refine ih (a + 1) b h hh1 hh2 hh3 ?_
               rw [hs, if_neg]
               · exact h3
               · rintro ⟨z1, z2⟩
                 first
                 | exact h19'.2.1 (by omega) z2
                 | omega)
            | (refine ih (a + 1) _ 1 hh1 hh2 hh3 (Or.inl ⟨rfl, ?_, by omega⟩)
               rw [hs, if_pos ⟨by omega, h19'.2.2 (by omega)⟩, e9])
          · refine j_iload_n G dX7_end_25 rfl ?_
            refine j_if_eq G 47 dX7_end_26 (by decide) (by omega) (fun c26 => ?_) (fun c26 => ?_)
            · refine j_aload_n G dX7_end_47 rfl ?_
              refine gf_24_10 G dX7_end_48 lf7_36 (by first | assumption | decide) ?_
              refine j_iload G dX7_end_51 rfl ?_
              refine al_34 G dX7_end_53 (by first | assumption | decide) (by omega) (by omega) ?_
              refine j_istore_n G dX7_end_54 (by decide) rfl ?_
              refine j_iconst G dX7_end_55 ?_
              refine j_istore_n G dX7_end_56 (by decide) rfl ?_
              refine j_iinc G dX7_end_57 rfl (by decide) rfl ?_
              refine j_goto G 7 dX7_end_60 (by decide) ?_
              first
              | (refine ih (a + 1) b h hh1 hh2 hh3 ?_
                 rw [hs, if_neg]
                 · exact h3
                 · rintro ⟨z1, z2⟩
                   first
                   | exact h19'.2.1 (by omega) z2
                   | omega)
              | (refine ih (a + 1) _ 1 hh1 hh2 hh3 (Or.inl ⟨rfl, ?_, by omega⟩)
                 rw [hs, if_pos ⟨by omega, h19'.2.2 (by omega)⟩, e9])
            · refine j_iload_n G dX7_end_29 rfl ?_
              refine j_aload_n G dX7_end_30 rfl ?_
              refine gf_24_10 G dX7_end_31 lf7_36 (by first | assumption | decide) ?_
              refine j_iload G dX7_end_34 rfl ?_
              refine al_34 G dX7_end_36 (by first | assumption | decide) (by omega) (by omega) ?_
              refine j_imul G dX7_end_37 ?_
              refine j_iload_n G dX7_end_38 rfl ?_
              refine j_iload_n G dX7_end_39 rfl ?_
              refine j_imul G dX7_end_40 ?_
              refine j_icmp_lt G 47 dX7_end_41 (by decide) (by omega) (by omega) (fun c41 => ?_) (fun c41 => ?_)
              · refine j_aload_n G dX7_end_47 rfl ?_
                refine gf_24_10 G dX7_end_48 lf7_36 (by first | assumption | decide) ?_
                refine j_iload G dX7_end_51 rfl ?_
                refine al_34 G dX7_end_53 (by first | assumption | decide) (by omega) (by omega) ?_
                refine j_istore_n G dX7_end_54 (by decide) rfl ?_
                refine j_iconst G dX7_end_55 ?_
                refine j_istore_n G dX7_end_56 (by decide) rfl ?_
                refine j_iinc G dX7_end_57 rfl (by decide) rfl ?_
                refine j_goto G 7 dX7_end_60 (by decide) ?_
                first
                | (refine ih (a + 1) b h hh1 hh2 hh3 ?_
                   rw [hs, if_neg]
                   · exact h3
                   · rintro ⟨z1, z2⟩
                     first
                     | exact h19'.2.1 (by omega) z2
                     | omega)
                | (refine ih (a + 1) _ 1 hh1 hh2 hh3 (Or.inl ⟨rfl, ?_, by omega⟩)
                   rw [hs, if_pos ⟨by omega, h19'.2.2 (by omega)⟩, e9])
              · refine j_goto G 57 dX7_end_44 (by decide) ?_
                refine j_iinc G dX7_end_57 rfl (by decide) rfl ?_
                refine j_goto G 7 dX7_end_60 (by decide) ?_
                first
                | (refine ih (a + 1) b h hh1 hh2 hh3 ?_
                   rw [hs, if_neg]
                   · exact h3
                   · rintro ⟨z1, z2⟩
                     first
                     | exact h19'.2.1 (by omega) z2
                     | omega)
                | (refine ih (a + 1) _ 1 hh1 hh2 hh3 (Or.inl ⟨rfl, ?_, by omega⟩)
                   rw [hs, if_pos ⟨by omega, h19'.2.2 (by omega)⟩, e9])
    refine j_iconst G dX7_end_0 ?_
    refine j_istore_n G dX7_end_1 (by decide) rfl ?_
    refine j_iconst G dX7_end_2 ?_
    refine j_istore_n G dX7_end_3 (by decide) rfl ?_
    refine j_iconst G dX7_end_4 ?_
    refine j_istore G dX7_end_5 (by decide) rfl ?_
    exact loop _ 0 0 0 (by omega) (by omega) rfl (Or.inr ⟨rfl, rfl, rfl⟩)

