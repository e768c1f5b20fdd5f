theorem dX7_answering_0 : decode cX7_answering 0 = .ok (.iconst (-1), 1) := by decide +kernel
theorem dX7_answering_1 : decode cX7_answering 1 = .ok (.istore_n 2, 1) := by decide +kernel
theorem dX7_answering_2 : decode cX7_answering 2 = .ok (.iconst 0, 1) := by decide +kernel
theorem dX7_answering_3 : decode cX7_answering 3 = .ok (.istore_n 3, 1) := by decide +kernel
theorem dX7_answering_4 : decode cX7_answering 4 = .ok (.iload_n 3, 1) := by decide +kernel
theorem dX7_answering_5 : decode cX7_answering 5 = .ok (.aload_n 0, 1) := by decide +kernel
theorem dX7_answering_6 : decode cX7_answering 6 = .ok (.getfield 92, 3) := by decide +kernel
theorem dX7_answering_9 : decode cX7_answering 9 = .ok (.if_icmp .ge 61, 3) := by decide +kernel
theorem dX7_answering_12 : decode cX7_answering 12 = .ok (.aload_n 0, 1) := by decide +kernel
theorem dX7_answering_13 : decode cX7_answering 13 = .ok (.getfield 48, 3) := by decide +kernel
theorem dX7_answering_16 : decode cX7_answering 16 = .ok (.iload_n 3, 1) := by decide +kernel
theorem dX7_answering_17 : decode cX7_answering 17 = .ok (.baload, 1) := by decide +kernel
theorem dX7_answering_18 : decode cX7_answering 18 = .ok (.ifCond .ne 46, 3) := by decide +kernel
theorem dX7_answering_21 : decode cX7_answering 21 = .ok (.aload_n 0, 1) := by decide +kernel
theorem dX7_answering_22 : decode cX7_answering 22 = .ok (.aload_n 0, 1) := by decide +kernel
theorem dX7_answering_23 : decode cX7_answering 23 = .ok (.getfield 42, 3) := by decide +kernel
theorem dX7_answering_26 : decode cX7_answering 26 = .ok (.iload_n 3, 1) := by decide +kernel
theorem dX7_answering_27 : decode cX7_answering 27 = .ok (.iaload, 1) := by decide +kernel
theorem dX7_answering_28 : decode cX7_answering 28 = .ok (.iload_n 1, 1) := by decide +kernel
theorem dX7_answering_29 : decode cX7_answering 29 = .ok (.invokevirtual 200, 3) := by decide +kernel
theorem dX7_answering_32 : decode cX7_answering 32 = .ok (.ifCond .eq 32, 3) := by decide +kernel
theorem dX7_answering_35 : decode cX7_answering 35 = .ok (.aload_n 0, 1) := by decide +kernel
theorem dX7_answering_36 : decode cX7_answering 36 = .ok (.getfield 45, 3) := by decide +kernel
theorem dX7_answering_39 : decode cX7_answering 39 = .ok (.iload_n 3, 1) := by decide +kernel
theorem dX7_answering_40 : decode cX7_answering 40 = .ok (.iaload, 1) := by decide +kernel
theorem dX7_answering_41 : decode cX7_answering 41 = .ok (.iload_n 2, 1) := by decide +kernel
theorem dX7_answering_42 : decode cX7_answering 42 = .ok (.iconst (-1), 1) := by decide +kernel
theorem dX7_answering_43 : decode cX7_answering 43 = .ok (.if_icmp .ne 10, 3) := by decide +kernel
theorem dX7_answering_46 : decode cX7_answering 46 = .ok (.aload_n 0, 1) := by decide +kernel
theorem dX7_answering_47 : decode cX7_answering 47 = .ok (.getfield 89, 3) := by decide +kernel
theorem dX7_answering_50 : decode cX7_answering 50 = .ok (.goto 9, 3) := by decide +kernel
theorem dX7_answering_53 : decode cX7_answering 53 = .ok (.aload_n 0, 1) := by decide +kernel
theorem dX7_answering_54 : decode cX7_answering 54 = .ok (.getfield 45, 3) := by decide +kernel
theorem dX7_answering_57 : decode cX7_answering 57 = .ok (.iload_n 2, 1) := by decide +kernel
theorem dX7_answering_58 : decode cX7_answering 58 = .ok (.iaload, 1) := by decide +kernel
theorem dX7_answering_59 : decode cX7_answering 59 = .ok (.if_icmp .ge 5, 3) := by decide +kernel
theorem dX7_answering_62 : decode cX7_answering 62 = .ok (.iload_n 3, 1) := by decide +kernel
theorem dX7_answering_63 : decode cX7_answering 63 = .ok (.istore_n 2, 1) := by decide +kernel
theorem dX7_answering_64 : decode cX7_answering 64 = .ok (.iinc 3 1, 3) := by decide +kernel
theorem dX7_answering_67 : decode cX7_answering 67 = .ok (.goto (-63), 3) := by decide +kernel
theorem dX7_answering_70 : decode cX7_answering 70 = .ok (.iload_n 2, 1) := by decide +kernel
theorem dX7_answering_71 : decode cX7_answering 71 = .ok (.ireturn, 1) := by decide +kernel
theorem dX7_costOf_0 : decode cX7_costOf 0 = .ok (.aload_n 0, 1) := by decide +kernel
theorem dX7_costOf_1 : decode cX7_costOf 1 = .ok (.iload_n 1, 1) := by decide +kernel
theorem dX7_costOf_2 : decode cX7_costOf 2 = .ok (.invokevirtual 203, 3) := by decide +kernel
theorem dX7_costOf_5 : decode cX7_costOf 5 = .ok (.istore_n 2, 1) := by decide +kernel
theorem dX7_costOf_6 : decode cX7_costOf 6 = .ok (.iload_n 2, 1) := by decide +kernel
theorem dX7_costOf_7 : decode cX7_costOf 7 = .ok (.iconst (-1), 1) := by decide +kernel
theorem dX7_costOf_8 : decode cX7_costOf 8 = .ok (.if_icmp .ne 10, 3) := by decide +kernel
theorem dX7_costOf_11 : decode cX7_costOf 11 = .ok (.aload_n 0, 1) := by decide +kernel
theorem dX7_costOf_12 : decode cX7_costOf 12 = .ok (.getfield 89, 3) := by decide +kernel
theorem dX7_costOf_15 : decode cX7_costOf 15 = .ok (.goto 9, 3) := by decide +kernel
theorem dX7_costOf_18 : decode cX7_costOf 18 = .ok (.aload_n 0, 1) := by decide +kernel
theorem dX7_costOf_19 : decode cX7_costOf 19 = .ok (.getfield 45, 3) := by decide +kernel
theorem dX7_costOf_22 : decode cX7_costOf 22 = .ok (.iload_n 2, 1) := by decide +kernel
theorem dX7_costOf_23 : decode cX7_costOf 23 = .ok (.iaload, 1) := by decide +kernel
theorem dX7_costOf_24 : decode cX7_costOf 24 = .ok (.ireturn, 1) := by decide +kernel
theorem dX7_gainOf_0 : decode cX7_gainOf 0 = .ok (.aload_n 0, 1) := by decide +kernel
theorem dX7_gainOf_1 : decode cX7_gainOf 1 = .ok (.iload_n 1, 1) := by decide +kernel
theorem dX7_gainOf_2 : decode cX7_gainOf 2 = .ok (.invokevirtual 206, 3) := by decide +kernel
theorem dX7_gainOf_5 : decode cX7_gainOf 5 = .ok (.istore_n 2, 1) := by decide +kernel
theorem dX7_gainOf_6 : decode cX7_gainOf 6 = .ok (.iconst 0, 1) := by decide +kernel
theorem dX7_gainOf_7 : decode cX7_gainOf 7 = .ok (.istore_n 3, 1) := by decide +kernel
theorem dX7_gainOf_8 : decode cX7_gainOf 8 = .ok (.iconst 0, 1) := by decide +kernel
theorem dX7_gainOf_9 : decode cX7_gainOf 9 = .ok (.istore 4, 2) := by decide +kernel
theorem dX7_gainOf_11 : decode cX7_gainOf 11 = .ok (.iload 4, 2) := by decide +kernel
theorem dX7_gainOf_13 : decode cX7_gainOf 13 = .ok (.sipush 256, 3) := by decide +kernel
theorem dX7_gainOf_16 : decode cX7_gainOf 16 = .ok (.if_icmp .ge 43, 3) := by decide +kernel
theorem dX7_gainOf_19 : decode cX7_gainOf 19 = .ok (.aload_n 0, 1) := by decide +kernel
theorem dX7_gainOf_20 : decode cX7_gainOf 20 = .ok (.iload 4, 2) := by decide +kernel
theorem dX7_gainOf_22 : decode cX7_gainOf 22 = .ok (.invokevirtual 209, 3) := by decide +kernel
theorem dX7_gainOf_25 : decode cX7_gainOf 25 = .ok (.ifCond .eq 28, 3) := by decide +kernel
theorem dX7_gainOf_28 : decode cX7_gainOf 28 = .ok (.aload_n 0, 1) := by decide +kernel
theorem dX7_gainOf_29 : decode cX7_gainOf 29 = .ok (.iload_n 1, 1) := by decide +kernel
theorem dX7_gainOf_30 : decode cX7_gainOf 30 = .ok (.iload 4, 2) := by decide +kernel
theorem dX7_gainOf_32 : decode cX7_gainOf 32 = .ok (.invokevirtual 200, 3) := by decide +kernel
theorem dX7_gainOf_35 : decode cX7_gainOf 35 = .ok (.ifCond .eq 18, 3) := by decide +kernel
theorem dX7_gainOf_38 : decode cX7_gainOf 38 = .ok (.iload_n 3, 1) := by decide +kernel
theorem dX7_gainOf_39 : decode cX7_gainOf 39 = .ok (.iconst 0, 1) := by decide +kernel
theorem dX7_gainOf_40 : decode cX7_gainOf 40 = .ok (.aload_n 0, 1) := by decide +kernel
theorem dX7_gainOf_41 : decode cX7_gainOf 41 = .ok (.iload 4, 2) := by decide +kernel
theorem dX7_gainOf_43 : decode cX7_gainOf 43 = .ok (.invokevirtual 212, 3) := by decide +kernel
theorem dX7_gainOf_46 : decode cX7_gainOf 46 = .ok (.iload_n 2, 1) := by decide +kernel
theorem dX7_gainOf_47 : decode cX7_gainOf 47 = .ok (.isub, 1) := by decide +kernel
theorem dX7_gainOf_48 : decode cX7_gainOf 48 = .ok (.invokestatic 215, 3) := by decide +kernel
theorem dX7_gainOf_51 : decode cX7_gainOf 51 = .ok (.iadd, 1) := by decide +kernel
theorem dX7_gainOf_52 : decode cX7_gainOf 52 = .ok (.istore_n 3, 1) := by decide +kernel
theorem dX7_gainOf_53 : decode cX7_gainOf 53 = .ok (.iinc 4 1, 3) := by decide +kernel
theorem dX7_gainOf_56 : decode cX7_gainOf 56 = .ok (.goto (-45), 3) := by decide +kernel
theorem dX7_gainOf_59 : decode cX7_gainOf 59 = .ok (.iload_n 3, 1) := by decide +kernel
theorem dX7_gainOf_60 : decode cX7_gainOf 60 = .ok (.ireturn, 1) := by decide +kernel
/-! by program: wip/whole/gen.py out of wip/whole/src/28.model.eb -/
/-! EbbTableModel: which view answers, what it costs, what a view gains -/
set_option maxRecDepth 100000 in
set_option maxHeartbeats 8000000 in
theorem c_X7_answering {l : Launch} {D : va_G} {cys : Nat → ClassId} {ad : Nat → Int → Nat} {L : List Nat} {g : Nat → va_E} {X : Int64} {Z : ZT} (hi : injA ad) {S : ZT} {q : Int} (hS : RMZ S Z) (hW : WF S) (hq : 0 ≤ q ∧ q < 256) : CM l D cys ad yX7_answering cX7_answering 4 (some .int) 2 46 0 0 [.ref (ad 24 0), .int (iI q)] L g X Z (PI L g X Z (fun r => r = VFOR S (LV (S 0 0 5) q))) := by
  refine cm_start hi (by decide +kernel) (Nat.le_of_ble_eq_true rfl) ?_
  intro p_ e_ s_ m_ args_ below_ meth_ c_ A_ Q_ hQ G hr hin
  have hn := hW.n
  have hvv := hW.v
  have hf := hW.f
  have e14 := hS.a.2.2.2.2
  have e63 := hS.a.2.1
  have loop : ∀ (n : Nat) (a b : Int), 0 ≤ a → a ≤ S 11 0 3 → (S 11 0 3 - a).toNat = n → b = vfF S (LV (S 0 0 5) q) a.toNat → JJ p_ l e_ { frames := 2, cells := 0, slots := 0, locals := 46 } s_ m_ args_ below_ meth_ c_ D cys ad A_ Q_ 4 0 0 L g X Z 4 [(0, .ref (ad 24 0)), (1, .int (iI q)), (2, .int (iI b)), (3, .int (iI a))] [] := by
    intro n
    induction n with
    | zero =>
      intro a b h0 h1 h2 h3
      have ea : a = S 11 0 3 := by omega
      subst ea
      refine j_iload_n G dX7_answering_4 rfl ?_
      refine j_aload_n G dX7_answering_5 rfl ?_
      refine gf_24_14 G dX7_answering_6 lf7_92 (by first | assumption | decide) ?_
      refine j_icmp_ge G 70 dX7_answering_9 (by decide) (by omega) (by omega) (fun c9 => ?_) (fun c9 => ?_)
      · refine j_iload_n G dX7_answering_70 rfl ?_
        refine jr_I G hQ hr dX7_answering_71 (by decide) (by decide) ?_
        exact h3
      · exfalso; omega
    | succ n ih =>
      intro a b h0 h1 h2 h3
      have hin := vfF_in S (LV (S 0 0 5) q) a.toNat
      have hs := vfF_s (S := S) (L := LV (S 0 0 5) q) h0
      rw [← h3] at hin hs
      have hwv := hS.w h0 (by omega : a < S 11 0 3)
      have hww := hW.vw h0 (by omega : a < S 11 0 3)
      have hst := hW.st h0 (by omega : a < 6)
      have e12 : S 12 0 a = LV (S 0 0 5) (Z 36 0 a) := hwv.1
      have hzq : 0 ≤ Z 36 0 a ∧ Z 36 0 a < 256 := LV_in hn.1 hn.2 (by rw [← e12]; exact hww.1.1) (by rw [← e12]; exact hww.1.2.1)
      have hwb : b ≠ -1 → Z 37 0 b = S 13 0 b ∧ 0 ≤ S 13 0 b ∧ S 13 0 b ≤ 80 := fun z => ⟨(hS.w (by omega) (by omega)).2.1, (hW.vw (by omega) (by omega)).2⟩
      have hp1 : b = -1 → prc S b = S 6 0 3 := fun z => by unfold prc; rw [if_pos z]
      have hp2 : b ≠ -1 → prc S b = S 13 0 b := fun z => by unfold prc; rw [if_neg z]
      have hh1 : 0 ≤ a + 1 := by omega
      have hh2 : a + 1 ≤ S 11 0 3 := by omega
      have hh3 : (S 11 0 3 - (a + 1)).toNat = n := by omega
      have ha37 := hwv.2.1
      have ha38 := hwv.2.2
      have ha13 := hww.2
      refine j_iload_n G dX7_answering_4 rfl ?_
      refine j_aload_n G dX7_answering_5 rfl ?_
      refine gf_24_14 G dX7_answering_6 lf7_92 (by first | assumption | decide) ?_
      refine j_icmp_ge G 70 dX7_answering_9 (by decide) (by omega) (by omega) (fun c9 => ?_) (fun c9 => ?_)
      · exfalso; omega
      · refine j_aload_n G dX7_answering_12 rfl ?_
        refine gf_24_17 G dX7_answering_13 lf7_48 (by first | assumption | decide) ?_
        refine j_iload_n G dX7_answering_16 rfl ?_
        refine al_38 G dX7_answering_17 (by first | assumption | decide) (by omega) (by omega) ?_
        refine j_if_ne G 64 dX7_answering_18 (by decide) (by omega) (fun c18 => ?_) (fun c18 => ?_)
        · refine j_iinc G dX7_answering_64 rfl (by decide) rfl ?_
          refine j_goto G 4 dX7_answering_67 (by decide) ?_
          first
          | (refine ih (a + 1) b hh1 hh2 hh3 ?_
             rw [hs, if_neg]
             rintro ⟨z1, z2, z3⟩
             first
             | exact h29'.2.1 (by omega) z3
             | omega)
          | (refine ih (a + 1) a hh1 hh2 hh3 ?_
             rw [hs, if_pos ⟨by omega, by omega, h29'.2.2 (by omega)⟩])
        · refine j_aload_n G dX7_answering_21 rfl ?_
          refine j_aload_n G dX7_answering_22 rfl ?_
          refine gf_24_15 G dX7_answering_23 lf7_42 (by first | assumption | decide) ?_
          refine j_iload_n G dX7_answering_26 rfl ?_
          refine al_36 G dX7_answering_27 (by first | assumption | decide) (by omega) (by omega) ?_
          refine j_iload_n G dX7_answering_28 rfl ?_
          refine j_cVI G cvX7_answers ml7_200 (c_X7_answers hi hS hW hzq hq) dX7_answering_29 ⟨by decide, by decide⟩ ⟨by decide, by decide⟩ rfl rfl (Nat.le_of_ble_eq_true rfl) (by first | assumption | decide) rfl rfl rfl (fun r29 h29 => ?_)
          rw [← e12] at h29
          have h29' : (r29 = 0 ∨ r29 = 1) ∧ (r29 = 0 → ¬ reachP (S 12 0 a) (LV (S 0 0 5) q)) ∧ (r29 = 1 → reachP (S 12 0 a) (LV (S 0 0 5) q)) := by
            rcases h29 with z | z
            · exact ⟨Or.inr z.1, fun y => by omega, fun _ => z.2⟩
            · exact ⟨Or.inl z.1, fun _ => z.2, fun y => by omega⟩
          clear h29
          refine j_if_eq G 64 dX7_answering_32 (by decide) (by omega) (fun c32 => ?_) (fun c32 => ?_)
          · refine j_iinc G dX7_answering_64 rfl (by decide) rfl ?_
            refine j_goto G 4 dX7_answering_67 (by decide) ?_
            first
            | (refine ih (a + 1) b hh1 hh2 hh3 ?_
               rw [hs, if_neg]
               rintro ⟨z1, z2, z3⟩
               first
               | exact h29'.2.1 (by omega) z3
               | omega)
            | (refine ih (a + 1) a hh1 hh2 hh3 ?_
               rw [hs, if_pos ⟨by omega, by omega, h29'.2.2 (by omega)⟩])
          · refine j_aload_n G dX7_answering_35 rfl ?_
            refine gf_24_16 G dX7_answering_36 lf7_45 (by first | assumption | decide) ?_
            refine j_iload_n G dX7_answering_39 rfl ?_
            refine al_37 G dX7_answering_40 (by first | assumption | decide) (by omega) (by omega) ?_
            refine j_iload_n G dX7_answering_41 rfl ?_
            refine j_iconst G dX7_answering_42 ?_
            refine j_icmp_ne G 53 dX7_answering_43 (by decide) (by omega) (by omega) (fun c43 => ?_) (fun c43 => ?_)
            · have hbb := hwb (by assumption)
              have hpp := hp2 (by assumption)
              refine j_aload_n G dX7_answering_53 rfl ?_
              refine gf_24_16 G dX7_answering_54 lf7_45 (by first | assumption | decide) ?_
              refine j_iload_n G dX7_answering_57 rfl ?_
              refine al_37 G dX7_answering_58 (by first | assumption | decide) (by omega) (by omega) ?_
              refine j_icmp_ge G 64 dX7_answering_59 (by decide) (by omega) (by omega) (fun c59 => ?_) (fun c59 => ?_)
              · refine j_iinc G dX7_answering_64 rfl (by decide) rfl ?_
                refine j_goto G 4 dX7_answering_67 (by decide) ?_
                first
                | (refine ih (a + 1) b hh1 hh2 hh3 ?_
                   rw [hs, if_neg]
                   rintro ⟨z1, z2, z3⟩
                   first
                   | exact h29'.2.1 (by omega) z3
                   | omega)
                | (refine ih (a + 1) a hh1 hh2 hh3 ?_
                   rw [hs, if_pos ⟨by omega, by omega, h29'.2.2 (by omega)⟩])
              · refine j_iload_n G dX7_answering_62 rfl ?_
                refine j_istore_n G dX7_answering_63 (by decide) rfl ?_
                refine j_iinc G dX7_answering_64 rfl (by decide) rfl ?_
                refine j_goto G 4 dX7_answering_67 (by decide) ?_
                first
                | (refine ih (a + 1) b hh1 hh2 hh3 ?_
                   rw [hs, if_neg]
                   rintro ⟨z1, z2, z3⟩
                   first
                   | exact h29'.2.1 (by omega) z3
                   | omega)
                | (refine ih (a + 1) a hh1 hh2 hh3 ?_
                   rw [hs, if_pos ⟨by omega, by omega, h29'.2.2 (by omega)⟩])
            · have hpp := hp1 (by assumption)
              refine j_aload_n G dX7_answering_46 rfl ?_
              refine gf_24_8 G dX7_answering_47 lf7_89 (by first | assumption | decide) ?_
              refine j_goto G 59 dX7_answering_50 (by decide) ?_
              refine j_icmp_ge G 64 dX7_answering_59 (by decide) (by omega) (by omega) (fun c59 => ?_) (fun c59 => ?_)
              · refine j_iinc G dX7_answering_64 rfl (by decide) rfl ?_
                refine j_goto G 4 dX7_answering_67 (by decide) ?_
                first
                | (refine ih (a + 1) b hh1 hh2 hh3 ?_
                   rw [hs, if_neg]
                   rintro ⟨z1, z2, z3⟩
                   first
                   | exact h29'.2.1 (by omega) z3
                   | omega)
                | (refine ih (a + 1) a hh1 hh2 hh3 ?_
                   rw [hs, if_pos ⟨by omega, by omega, h29'.2.2 (by omega)⟩])
              · refine j_iload_n G dX7_answering_62 rfl ?_
                refine j_istore_n G dX7_answering_63 (by decide) rfl ?_
                refine j_iinc G dX7_answering_64 rfl (by decide) rfl ?_
                refine j_goto G 4 dX7_answering_67 (by decide) ?_
                first
                | (refine ih (a + 1) b hh1 hh2 hh3 ?_
                   rw [hs, if_neg]
                   rintro ⟨z1, z2, z3⟩
                   first
                   | exact h29'.2.1 (by omega) z3
                   | omega)
                | (refine ih (a + 1) a hh1 hh2 hh3 ?_
                   rw [hs, if_pos ⟨by omega, by omega, h29'.2.2 (by omega)⟩])
  refine j_iconst G dX7_answering_0 ?_
  refine j_istore_n G dX7_answering_1 (by decide) rfl ?_
  refine j_iconst G dX7_answering_2 ?_
  refine j_istore_n G dX7_answering_3 (by decide) rfl ?_
  exact loop _ 0 (-1) (by omega) (by omega) rfl rfl
set_option maxRecDepth 100000 in
set_option maxHeartbeats 8000000 in
theorem c_X7_costOf {l : Launch} {D : va_G} {cys : Nat → ClassId} {ad : Nat → Int → Nat} {L : List Nat} {g : Nat → va_E} {X : Int64} {Z : ZT} (hi : injA ad) {S : ZT} {q : Int} (hS : RMZ S Z) (hW : WF S) (hq : 0 ≤ q ∧ q < 256) : CM l D cys ad yX7_costOf cX7_costOf 3 (some .int) 3 69 0 0 [.ref (ad 24 0), .int (iI q)] L g X Z (PI L g X Z (fun r => r = COST S (LV (S 0 0 5) q))) := by
  refine cm_start hi (by decide +kernel) (Nat.le_of_ble_eq_true rfl) ?_
  intro p_ e_ s_ m_ args_ below_ meth_ c_ A_ Q_ hQ G hr hin
  have hvv := hW.v
  have e63 := hS.a.2.1
  refine j_aload_n G dX7_costOf_0 rfl ?_
  refine j_iload_n G dX7_costOf_1 rfl ?_
  refine j_cVI G cvX7_answering ml7_203 (c_X7_answering hi (by first | assumption | omega | decide) (by first | assumption | omega | decide) (by first | assumption | omega | decide)) dX7_costOf_2 ⟨by decide, by decide⟩ ⟨by decide, by decide⟩ rfl rfl (Nat.le_of_ble_eq_true rfl) (by first | assumption | decide) rfl rfl rfl (fun r2 h2 => ?_)
  have hin := vfF_in S (LV (S 0 0 5) q) (S 11 0 3).toNat
  have h2' : r2 = vfF S (LV (S 0 0 5) q) (S 11 0 3).toNat := h2
  rw [← h2'] at hin
  refine j_istore_n G dX7_costOf_5 (by decide) rfl ?_
  refine j_iload_n G dX7_costOf_6 rfl ?_
  refine j_iconst G dX7_costOf_7 ?_
  refine j_icmp_ne G 18 dX7_costOf_8 (by decide) (by omega) (by omega) (fun c8 => ?_) (fun c8 => ?_)
  · refine j_aload_n G dX7_costOf_18 rfl ?_
    refine gf_24_16 G dX7_costOf_19 lf7_45 (by first | assumption | decide) ?_
    refine j_iload_n G dX7_costOf_22 rfl ?_
    refine al_37 G dX7_costOf_23 (by first | assumption | decide) (by omega) (by omega) ?_
    refine jr_I G hQ hr dX7_costOf_24 (by decide) (by decide) ?_
    unfold COST prc
    rw [← h2]
    first
    | (rw [if_pos (by assumption)]; exact e63)
    | (rw [if_neg (by assumption)]; exact (hS.w (by omega) (by omega)).2.1)
  · refine j_aload_n G dX7_costOf_11 rfl ?_
    refine gf_24_8 G dX7_costOf_12 lf7_89 (by first | assumption | decide) ?_
    refine j_goto G 24 dX7_costOf_15 (by decide) ?_
    refine jr_I G hQ hr dX7_costOf_24 (by decide) (by decide) ?_
    unfold COST prc
    rw [← h2]
    first
    | (rw [if_pos (by assumption)]; exact e63)
    | (rw [if_neg (by assumption)]; exact (hS.w (by omega) (by omega)).2.1)
set_option maxRecDepth 100000 in
set_option maxHeartbeats 8000000 in
theorem c_X7_gainOf {l : Launch} {D : va_G} {cys : Nat → ClassId} {ad : Nat → Int → Nat} {L : List Nat} {g : Nat → va_E} {X : Int64} {Z : ZT} (hi : injA ad) {S : ZT} {q : Int} (hS : RMZ S Z) (hRL : RML cys ad S L g) (hW : WF S) (hq : 0 ≤ q ∧ q < 256) : CM l D cys ad yX7_gainOf cX7_gainOf 5 (some .int) 4 98 0 0 [.ref (ad 24 0), .int (iI q)] L g X Z (PI L g X Z (fun r => r = GM S q)) := by
  refine cm_start hi (by decide +kernel) (Nat.le_of_ble_eq_true rfl) ?_
  intro p_ e_ s_ m_ args_ below_ meth_ c_ A_ Q_ hQ G hr hin
  have hf := hW.f
  refine j_aload_n G dX7_gainOf_0 rfl ?_
  refine j_iload_n G dX7_gainOf_1 rfl ?_
  refine j_cVI G cvX7_cells ml7_206 (c_X7_cells hi (by first | assumption | omega | decide) (by first | assumption | omega | decide) (by first | assumption | omega | decide) (by first | assumption | omega | decide)) dX7_gainOf_2 ⟨by decide, by decide⟩ ⟨by decide, by decide⟩ rfl rfl (Nat.le_of_ble_eq_true rfl) (by first | assumption | decide) rfl rfl rfl (fun r2 h2 => ?_)
  have hcc := CELLS_in hW (LV (S 0 0 5) q)
  refine j_istore_n G dX7_gainOf_5 (by decide) rfl ?_
  refine j_iconst G dX7_gainOf_6 ?_
  refine j_istore_n G dX7_gainOf_7 (by decide) rfl ?_
  refine j_iconst G dX7_gainOf_8 ?_
  refine j_istore G dX7_gainOf_9 (by decide) rfl ?_
  subst h2
  have loop : ∀ (n : Nat) (a b : Int), 0 ≤ a → a ≤ 256 → (256 - a).toNat = n → b = sumTo (fun a => iv (LOK S (LV (S 0 0 5) a) ∧ reachP (LV (S 0 0 5) q) (LV (S 0 0 5) a)) * mx (COST S (LV (S 0 0 5) a) - CELLS S (LV (S 0 0 5) q))) a.toNat → JJ p_ l e_ { frames := 4, cells := 0, slots := 0, locals := 98 } s_ m_ args_ below_ meth_ c_ D cys ad A_ Q_ 5 0 0 L g X Z 11 [(0, .ref (ad 24 0)), (1, .int (iI q)), (2, .int (iI (CELLS S (LV (S 0 0 5) q)))), (3, .int (iI b)), (4, .int (iI a))] [] := by
    intro n
    induction n with
    | zero =>
      intro a b h0 h1 h2 h3
      have ea : a = 256 := by omega
      subst ea
      refine j_iload G dX7_gainOf_11 rfl ?_
      refine j_sipush G dX7_gainOf_13 (by decide +kernel) ?_
      refine j_icmp_ge G 59 dX7_gainOf_16 (by decide) (by omega) (by omega) (fun c16 => ?_) (fun c16 => ?_)
      · refine j_iload_n G dX7_gainOf_59 rfl ?_
        refine jr_I G hQ hr dX7_gainOf_60 (by decide) (by decide) ?_
        exact h3
      · exfalso; omega
    | succ n ih =>
      intro a b h0 h1 h2 h3
      have ha : 0 ≤ a ∧ a < 256 := by omega
      have hco := COST_in hW (LV (S 0 0 5) a)
      have hs := sumTo_s (f := fun a => iv (LOK S (LV (S 0 0 5) a) ∧ reachP (LV (S 0 0 5) q) (LV (S 0 0 5) a)) * mx (COST S (LV (S 0 0 5) a) - CELLS S (LV (S 0 0 5) q))) h0
      have hmx : ∀ x : Int, (if 0 < x then x else 0) = mx x := fun x => by unfold mx; split <;> split <;> omega
      have hh1 : 0 ≤ a + 1 := by omega
      have hh2 : a + 1 ≤ 256 := by omega
      have hh3 : (256 - (a + 1)).toNat = n := by omega
      refine j_iload G dX7_gainOf_11 rfl ?_
      refine j_sipush G dX7_gainOf_13 (by decide +kernel) ?_
      refine j_icmp_ge G 59 dX7_gainOf_16 (by decide) (by omega) (by omega) (fun c16 => ?_) (fun c16 => ?_)
      · exfalso; omega
      · refine j_aload_n G dX7_gainOf_19 rfl ?_
        refine j_iload G dX7_gainOf_20 rfl ?_
        refine j_cVI G cvX7_areLevels ml7_209 (c_X7_areLevels hi hS hW ha) dX7_gainOf_22 ⟨by decide, by decide⟩ ⟨by decide, by decide⟩ rfl rfl (Nat.le_of_ble_eq_true rfl) (by first | assumption | decide) rfl rfl rfl (fun r22 h22 => ?_)
        have h22' : (r22 = 0 ∨ r22 = 1) ∧ (r22 = 0 → ¬ LOK S (LV (S 0 0 5) a)) ∧ (r22 = 1 → LOK S (LV (S 0 0 5) a)) := by
          rcases h22 with z | z
          · exact ⟨Or.inr z.1, fun y => by omega, fun _ => z.2⟩
          · exact ⟨Or.inl z.1, fun _ => z.2, fun y => by omega⟩
        clear h22
        refine j_if_eq G 53 dX7_gainOf_25 (by decide) (by omega) (fun c25 => ?_) (fun c25 => ?_)
        · refine j_iinc G dX7_gainOf_53 rfl (by decide) rfl ?_
          refine j_goto G 11 dX7_gainOf_56 (by decide) ?_
          first
          | (refine ih (a + 1) b hh1 hh2 hh3 ?_
             rw [hs, ← h3, iv_f, Int.zero_mul, Int.add_zero]
             first
             | exact fun z => h22'.2.1 (by omega) z.1
             | exact fun z => h32'.2.1 (by omega) z.2)
          | (refine ih (a + 1) _ hh1 hh2 hh3 ?_
             rw [hs, ← h3, iv_t ⟨h22'.2.2 (by omega), h32'.2.2 (by omega)⟩, Int.one_mul])
        · refine j_aload_n G dX7_gainOf_28 rfl ?_
          refine j_iload_n G dX7_gainOf_29 rfl ?_
          refine j_iload G dX7_gainOf_30 rfl ?_
          refine j_cVI G cvX7_answers ml7_200 (c_X7_answers hi hS hW hq ha) dX7_gainOf_32 ⟨by decide, by decide⟩ ⟨by decide, by decide⟩ rfl rfl (Nat.le_of_ble_eq_true rfl) (by first | assumption | decide) rfl rfl rfl (fun r32 h32 => ?_)
          have h32' : (r32 = 0 ∨ r32 = 1) ∧ (r32 = 0 → ¬ reachP (LV (S 0 0 5) q) (LV (S 0 0 5) a)) ∧ (r32 = 1 → reachP (LV (S 0 0 5) q) (LV (S 0 0 5) a)) := by
            rcases h32 with z | z
            · exact ⟨Or.inr z.1, fun y => by omega, fun _ => z.2⟩
            · exact ⟨Or.inl z.1, fun _ => z.2, fun y => by omega⟩
          clear h32
          refine j_if_eq G 53 dX7_gainOf_35 (by decide) (by omega) (fun c35 => ?_) (fun c35 => ?_)
          · refine j_iinc G dX7_gainOf_53 rfl (by decide) rfl ?_
            refine j_goto G 11 dX7_gainOf_56 (by decide) ?_
            first
            | (refine ih (a + 1) b hh1 hh2 hh3 ?_
               rw [hs, ← h3, iv_f, Int.zero_mul, Int.add_zero]
               first
               | exact fun z => h22'.2.1 (by omega) z.1
               | exact fun z => h32'.2.1 (by omega) z.2)
            | (refine ih (a + 1) _ hh1 hh2 hh3 ?_
               rw [hs, ← h3, iv_t ⟨h22'.2.2 (by omega), h32'.2.2 (by omega)⟩, Int.one_mul])
          · refine j_iload_n G dX7_gainOf_38 rfl ?_
            refine j_iconst G dX7_gainOf_39 ?_
            refine j_aload_n G dX7_gainOf_40 rfl ?_
            refine j_iload G dX7_gainOf_41 rfl ?_
            refine j_cVI G cvX7_costOf ml7_212 (c_X7_costOf hi hS hW ha) dX7_gainOf_43 ⟨by decide, by decide⟩ ⟨by decide, by decide⟩ rfl rfl (Nat.le_of_ble_eq_true rfl) (by first | assumption | decide) rfl rfl rfl (fun r43 h43 => ?_)
            subst h43
            refine j_iload_n G dX7_gainOf_46 rfl ?_
            refine j_isub G dX7_gainOf_47 ?_
            refine j_max G (TW_of 1390 (by decide +kernel) (by decide +kernel)) (TW_of 392 (by decide +kernel) (by decide +kernel)) (TW_of 87 (by decide +kernel) (by decide +kernel)) (TW_of 393 (by decide +kernel) (by decide +kernel)) dX7_gainOf_48 (by decide) (Nat.le_of_ble_eq_true rfl) (by decide) (by decide) (by omega) (by omega) ?_
            rw [hmx]
            refine j_iadd G dX7_gainOf_51 ?_
            refine j_istore_n G dX7_gainOf_52 (by decide) rfl ?_
            refine j_iinc G dX7_gainOf_53 rfl (by decide) rfl ?_
            refine j_goto G 11 dX7_gainOf_56 (by decide) ?_
            first
            | (refine ih (a + 1) b hh1 hh2 hh3 ?_
               rw [hs, ← h3, iv_f, Int.zero_mul, Int.add_zero]
               first
               | exact fun z => h22'.2.1 (by omega) z.1
               | exact fun z => h32'.2.1 (by omega) z.2)
            | (refine ih (a + 1) _ hh1 hh2 hh3 ?_
               rw [hs, ← h3, iv_t ⟨h22'.2.2 (by omega), h32'.2.2 (by omega)⟩, Int.one_mul])
  exact loop _ 0 0 (by omega) (by omega) rfl rfl

