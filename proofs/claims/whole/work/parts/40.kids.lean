theorem dX7_running_0 : decode cX7_running 0 = .ok (.aload_n 0, 1) := by decide +kernel
theorem dX7_running_1 : decode cX7_running 1 = .ok (.iload_n 1, 1) := by decide +kernel
theorem dX7_running_2 : decode cX7_running 2 = .ok (.iload_n 2, 1) := by decide +kernel
theorem dX7_running_3 : decode cX7_running 3 = .ok (.invokevirtual 150, 3) := by decide +kernel
theorem dX7_running_6 : decode cX7_running 6 = .ok (.ifCond .ne 5, 3) := by decide +kernel
theorem dX7_running_9 : decode cX7_running 9 = .ok (.iconst 0, 1) := by decide +kernel
theorem dX7_running_10 : decode cX7_running 10 = .ok (.ireturn, 1) := by decide +kernel
theorem dX7_running_11 : decode cX7_running 11 = .ok (.iconst 0, 1) := by decide +kernel
theorem dX7_running_12 : decode cX7_running 12 = .ok (.istore_n 3, 1) := by decide +kernel
theorem dX7_running_13 : decode cX7_running 13 = .ok (.iconst 0, 1) := by decide +kernel
theorem dX7_running_14 : decode cX7_running 14 = .ok (.istore 4, 2) := by decide +kernel
theorem dX7_running_16 : decode cX7_running 16 = .ok (.iload 4, 2) := by decide +kernel
theorem dX7_running_18 : decode cX7_running 18 = .ok (.iload_n 2, 1) := by decide +kernel
theorem dX7_running_19 : decode cX7_running 19 = .ok (.if_icmp .gt 20, 3) := by decide +kernel
theorem dX7_running_22 : decode cX7_running 22 = .ok (.iload_n 3, 1) := by decide +kernel
theorem dX7_running_23 : decode cX7_running 23 = .ok (.aload_n 0, 1) := by decide +kernel
theorem dX7_running_24 : decode cX7_running 24 = .ok (.iload_n 1, 1) := by decide +kernel
theorem dX7_running_25 : decode cX7_running 25 = .ok (.invokevirtual 153, 3) := by decide +kernel
theorem dX7_running_28 : decode cX7_running 28 = .ok (.iload 4, 2) := by decide +kernel
theorem dX7_running_30 : decode cX7_running 30 = .ok (.iaload, 1) := by decide +kernel
theorem dX7_running_31 : decode cX7_running 31 = .ok (.iadd, 1) := by decide +kernel
theorem dX7_running_32 : decode cX7_running 32 = .ok (.istore_n 3, 1) := by decide +kernel
theorem dX7_running_33 : decode cX7_running 33 = .ok (.iinc 4 1, 3) := by decide +kernel
theorem dX7_running_36 : decode cX7_running 36 = .ok (.goto (-20), 3) := by decide +kernel
theorem dX7_running_39 : decode cX7_running 39 = .ok (.iload_n 3, 1) := by decide +kernel
theorem dX7_running_40 : decode cX7_running 40 = .ok (.ireturn, 1) := by decide +kernel
theorem dX7_share_0 : decode cX7_share 0 = .ok (.aload_n 0, 1) := by decide +kernel
theorem dX7_share_1 : decode cX7_share 1 = .ok (.iload_n 1, 1) := by decide +kernel
theorem dX7_share_2 : decode cX7_share 2 = .ok (.iload_n 2, 1) := by decide +kernel
theorem dX7_share_3 : decode cX7_share 3 = .ok (.invokevirtual 150, 3) := by decide +kernel
theorem dX7_share_6 : decode cX7_share 6 = .ok (.ifCond .ne 5, 3) := by decide +kernel
theorem dX7_share_9 : decode cX7_share 9 = .ok (.iconst 0, 1) := by decide +kernel
theorem dX7_share_10 : decode cX7_share 10 = .ok (.ireturn, 1) := by decide +kernel
theorem dX7_share_11 : decode cX7_share 11 = .ok (.aload_n 0, 1) := by decide +kernel
theorem dX7_share_12 : decode cX7_share 12 = .ok (.invokevirtual 133, 3) := by decide +kernel
theorem dX7_share_15 : decode cX7_share 15 = .ok (.ifCond .ne 7, 3) := by decide +kernel
theorem dX7_share_18 : decode cX7_share 18 = .ok (.iconst 0, 1) := by decide +kernel
theorem dX7_share_19 : decode cX7_share 19 = .ok (.goto 19, 3) := by decide +kernel
theorem dX7_share_22 : decode cX7_share 22 = .ok (.sipush 1000, 3) := by decide +kernel
theorem dX7_share_25 : decode cX7_share 25 = .ok (.aload_n 0, 1) := by decide +kernel
theorem dX7_share_26 : decode cX7_share 26 = .ok (.iload_n 1, 1) := by decide +kernel
theorem dX7_share_27 : decode cX7_share 27 = .ok (.invokevirtual 153, 3) := by decide +kernel
theorem dX7_share_30 : decode cX7_share 30 = .ok (.iload_n 2, 1) := by decide +kernel
theorem dX7_share_31 : decode cX7_share 31 = .ok (.iaload, 1) := by decide +kernel
theorem dX7_share_32 : decode cX7_share 32 = .ok (.imul, 1) := by decide +kernel
theorem dX7_share_33 : decode cX7_share 33 = .ok (.aload_n 0, 1) := by decide +kernel
theorem dX7_share_34 : decode cX7_share 34 = .ok (.invokevirtual 133, 3) := by decide +kernel
theorem dX7_share_37 : decode cX7_share 37 = .ok (.idiv, 1) := by decide +kernel
theorem dX7_share_38 : decode cX7_share 38 = .ok (.ireturn, 1) := by decide +kernel
theorem dX7_fewest_0 : decode cX7_fewest 0 = .ok (.aload_n 0, 1) := by decide +kernel
theorem dX7_fewest_1 : decode cX7_fewest 1 = .ok (.iconst 0, 1) := by decide +kernel
theorem dX7_fewest_2 : decode cX7_fewest 2 = .ok (.putfield 52, 3) := by decide +kernel
theorem dX7_fewest_5 : decode cX7_fewest 5 = .ok (.aload_n 0, 1) := by decide +kernel
theorem dX7_fewest_6 : decode cX7_fewest 6 = .ok (.iload_n 1, 1) := by decide +kernel
theorem dX7_fewest_7 : decode cX7_fewest 7 = .ok (.invokevirtual 63, 3) := by decide +kernel
theorem dX7_fewest_10 : decode cX7_fewest 10 = .ok (.ifCond .ne 9, 3) := by decide +kernel
theorem dX7_fewest_13 : decode cX7_fewest 13 = .ok (.aload_n 0, 1) := by decide +kernel
theorem dX7_fewest_14 : decode cX7_fewest 14 = .ok (.iconst 1, 1) := by decide +kernel
theorem dX7_fewest_15 : decode cX7_fewest 15 = .ok (.invokevirtual 85, 3) := by decide +kernel
theorem dX7_fewest_18 : decode cX7_fewest 18 = .ok (.ireturn, 1) := by decide +kernel
theorem dX7_fewest_19 : decode cX7_fewest 19 = .ok (.iload_n 2, 1) := by decide +kernel
theorem dX7_fewest_20 : decode cX7_fewest 20 = .ok (.iconst 1, 1) := by decide +kernel
theorem dX7_fewest_21 : decode cX7_fewest 21 = .ok (.sipush 1000, 3) := by decide +kernel
theorem dX7_fewest_24 : decode cX7_fewest 24 = .ok (.invokestatic 59, 3) := by decide +kernel
theorem dX7_fewest_27 : decode cX7_fewest 27 = .ok (.ifCond .ne 9, 3) := by decide +kernel
theorem dX7_fewest_30 : decode cX7_fewest 30 = .ok (.aload_n 0, 1) := by decide +kernel
theorem dX7_fewest_31 : decode cX7_fewest 31 = .ok (.iconst 2, 1) := by decide +kernel
theorem dX7_fewest_32 : decode cX7_fewest 32 = .ok (.invokevirtual 85, 3) := by decide +kernel
theorem dX7_fewest_35 : decode cX7_fewest 35 = .ok (.ireturn, 1) := by decide +kernel
theorem dX7_fewest_36 : decode cX7_fewest 36 = .ok (.aload_n 0, 1) := by decide +kernel
theorem dX7_fewest_37 : decode cX7_fewest 37 = .ok (.iload_n 1, 1) := by decide +kernel
theorem dX7_fewest_38 : decode cX7_fewest 38 = .ok (.invokevirtual 153, 3) := by decide +kernel
theorem dX7_fewest_41 : decode cX7_fewest 41 = .ok (.astore_n 3, 1) := by decide +kernel
theorem dX7_fewest_42 : decode cX7_fewest 42 = .ok (.iconst 0, 1) := by decide +kernel
theorem dX7_fewest_43 : decode cX7_fewest 43 = .ok (.istore 4, 2) := by decide +kernel
theorem dX7_fewest_45 : decode cX7_fewest 45 = .ok (.iconst 0, 1) := by decide +kernel
theorem dX7_fewest_46 : decode cX7_fewest 46 = .ok (.istore 5, 2) := by decide +kernel
theorem dX7_fewest_48 : decode cX7_fewest 48 = .ok (.iload 5, 2) := by decide +kernel
theorem dX7_fewest_50 : decode cX7_fewest 50 = .ok (.aload_n 3, 1) := by decide +kernel
theorem dX7_fewest_51 : decode cX7_fewest 51 = .ok (.arraylength, 1) := by decide +kernel
theorem dX7_fewest_52 : decode cX7_fewest 52 = .ok (.if_icmp .gt 47, 3) := by decide +kernel
theorem dX7_fewest_55 : decode cX7_fewest 55 = .ok (.iload 5, 2) := by decide +kernel
theorem dX7_fewest_57 : decode cX7_fewest 57 = .ok (.ifCond .le 18, 3) := by decide +kernel
theorem dX7_fewest_60 : decode cX7_fewest 60 = .ok (.iload 4, 2) := by decide +kernel
theorem dX7_fewest_62 : decode cX7_fewest 62 = .ok (.aload_n 3, 1) := by decide +kernel
theorem dX7_fewest_63 : decode cX7_fewest 63 = .ok (.aload_n 3, 1) := by decide +kernel
theorem dX7_fewest_64 : decode cX7_fewest 64 = .ok (.iload 5, 2) := by decide +kernel
theorem dX7_fewest_66 : decode cX7_fewest 66 = .ok (.iconst 1, 1) := by decide +kernel
theorem dX7_fewest_67 : decode cX7_fewest 67 = .ok (.isub, 1) := by decide +kernel
theorem dX7_fewest_68 : decode cX7_fewest 68 = .ok (.invokestatic 156, 3) := by decide +kernel
theorem dX7_fewest_71 : decode cX7_fewest 71 = .ok (.iaload, 1) := by decide +kernel
theorem dX7_fewest_72 : decode cX7_fewest 72 = .ok (.iadd, 1) := by decide +kernel
theorem dX7_fewest_73 : decode cX7_fewest 73 = .ok (.istore 4, 2) := by decide +kernel
theorem dX7_fewest_75 : decode cX7_fewest 75 = .ok (.iload 4, 2) := by decide +kernel
theorem dX7_fewest_77 : decode cX7_fewest 77 = .ok (.sipush 1000, 3) := by decide +kernel
theorem dX7_fewest_80 : decode cX7_fewest 80 = .ok (.imul, 1) := by decide +kernel
theorem dX7_fewest_81 : decode cX7_fewest 81 = .ok (.iload_n 2, 1) := by decide +kernel
theorem dX7_fewest_82 : decode cX7_fewest 82 = .ok (.aload_n 0, 1) := by decide +kernel
theorem dX7_fewest_83 : decode cX7_fewest 83 = .ok (.invokevirtual 133, 3) := by decide +kernel
theorem dX7_fewest_86 : decode cX7_fewest 86 = .ok (.imul, 1) := by decide +kernel
theorem dX7_fewest_87 : decode cX7_fewest 87 = .ok (.if_icmp .lt 6, 3) := by decide +kernel
theorem dX7_fewest_90 : decode cX7_fewest 90 = .ok (.iload 5, 2) := by decide +kernel
theorem dX7_fewest_92 : decode cX7_fewest 92 = .ok (.ireturn, 1) := by decide +kernel
theorem dX7_fewest_93 : decode cX7_fewest 93 = .ok (.iinc 5 1, 3) := by decide +kernel
theorem dX7_fewest_96 : decode cX7_fewest 96 = .ok (.goto (-48), 3) := by decide +kernel
theorem dX7_fewest_99 : decode cX7_fewest 99 = .ok (.iconst (-1), 1) := by decide +kernel
theorem dX7_fewest_100 : decode cX7_fewest 100 = .ok (.ireturn, 1) := by decide +kernel
theorem dX7_drill_0 : decode cX7_drill 0 = .ok (.aload_n 0, 1) := by decide +kernel
theorem dX7_drill_1 : decode cX7_drill 1 = .ok (.iconst 0, 1) := by decide +kernel
theorem dX7_drill_2 : decode cX7_drill 2 = .ok (.putfield 52, 3) := by decide +kernel
theorem dX7_drill_5 : decode cX7_drill 5 = .ok (.aload_n 0, 1) := by decide +kernel
theorem dX7_drill_6 : decode cX7_drill 6 = .ok (.iload_n 1, 1) := by decide +kernel
theorem dX7_drill_7 : decode cX7_drill 7 = .ok (.invokevirtual 63, 3) := by decide +kernel
theorem dX7_drill_10 : decode cX7_drill 10 = .ok (.ifCond .ne 9, 3) := by decide +kernel
theorem dX7_drill_13 : decode cX7_drill 13 = .ok (.aload_n 0, 1) := by decide +kernel
theorem dX7_drill_14 : decode cX7_drill 14 = .ok (.iconst 1, 1) := by decide +kernel
theorem dX7_drill_15 : decode cX7_drill 15 = .ok (.invokevirtual 85, 3) := by decide +kernel
theorem dX7_drill_18 : decode cX7_drill 18 = .ok (.ireturn, 1) := by decide +kernel
theorem dX7_drill_19 : decode cX7_drill 19 = .ok (.aload_n 0, 1) := by decide +kernel
theorem dX7_drill_20 : decode cX7_drill 20 = .ok (.iload_n 1, 1) := by decide +kernel
theorem dX7_drill_21 : decode cX7_drill 21 = .ok (.invokevirtual 139, 3) := by decide +kernel
theorem dX7_drill_24 : decode cX7_drill 24 = .ok (.astore_n 2, 1) := by decide +kernel
theorem dX7_drill_25 : decode cX7_drill 25 = .ok (.aload_n 2, 1) := by decide +kernel
theorem dX7_drill_26 : decode cX7_drill 26 = .ok (.arraylength, 1) := by decide +kernel
theorem dX7_drill_27 : decode cX7_drill 27 = .ok (.ifCond .le 29, 3) := by decide +kernel
theorem dX7_drill_30 : decode cX7_drill 30 = .ok (.aload_n 0, 1) := by decide +kernel
theorem dX7_drill_31 : decode cX7_drill 31 = .ok (.getfield 26, 3) := by decide +kernel
theorem dX7_drill_34 : decode cX7_drill 34 = .ok (.iload_n 1, 1) := by decide +kernel
theorem dX7_drill_35 : decode cX7_drill 35 = .ok (.aload_n 2, 1) := by decide +kernel
theorem dX7_drill_36 : decode cX7_drill 36 = .ok (.aload_n 0, 1) := by decide +kernel
theorem dX7_drill_37 : decode cX7_drill 37 = .ok (.iload_n 1, 1) := by decide +kernel
theorem dX7_drill_38 : decode cX7_drill 38 = .ok (.invokevirtual 153, 3) := by decide +kernel
theorem dX7_drill_41 : decode cX7_drill 41 = .ok (.iconst 0, 1) := by decide +kernel
theorem dX7_drill_42 : decode cX7_drill 42 = .ok (.invokestatic 156, 3) := by decide +kernel
theorem dX7_drill_45 : decode cX7_drill 45 = .ok (.iaload, 1) := by decide +kernel
theorem dX7_drill_46 : decode cX7_drill 46 = .ok (.iastore, 1) := by decide +kernel
theorem dX7_drill_47 : decode cX7_drill 47 = .ok (.aload_n 0, 1) := by decide +kernel
theorem dX7_drill_48 : decode cX7_drill 48 = .ok (.iload_n 1, 1) := by decide +kernel
theorem dX7_drill_49 : decode cX7_drill 49 = .ok (.invokevirtual 139, 3) := by decide +kernel
theorem dX7_drill_52 : decode cX7_drill 52 = .ok (.astore_n 2, 1) := by decide +kernel
theorem dX7_drill_53 : decode cX7_drill 53 = .ok (.goto (-28), 3) := by decide +kernel
theorem dX7_drill_56 : decode cX7_drill 56 = .ok (.aload_n 0, 1) := by decide +kernel
theorem dX7_drill_57 : decode cX7_drill 57 = .ok (.getfield 26, 3) := by decide +kernel
theorem dX7_drill_60 : decode cX7_drill 60 = .ok (.iload_n 1, 1) := by decide +kernel
theorem dX7_drill_61 : decode cX7_drill 61 = .ok (.iaload, 1) := by decide +kernel
theorem dX7_drill_62 : decode cX7_drill 62 = .ok (.ireturn, 1) := by decide +kernel
theorem dX7_memberAt_0 : decode cX7_memberAt 0 = .ok (.aload_n 0, 1) := by decide +kernel
theorem dX7_memberAt_1 : decode cX7_memberAt 1 = .ok (.iconst 0, 1) := by decide +kernel
theorem dX7_memberAt_2 : decode cX7_memberAt 2 = .ok (.putfield 52, 3) := by decide +kernel
theorem dX7_memberAt_5 : decode cX7_memberAt 5 = .ok (.aload_n 0, 1) := by decide +kernel
theorem dX7_memberAt_6 : decode cX7_memberAt 6 = .ok (.iload_n 1, 1) := by decide +kernel
theorem dX7_memberAt_7 : decode cX7_memberAt 7 = .ok (.iload_n 2, 1) := by decide +kernel
theorem dX7_memberAt_8 : decode cX7_memberAt 8 = .ok (.invokevirtual 109, 3) := by decide +kernel
theorem dX7_memberAt_11 : decode cX7_memberAt 11 = .ok (.ifCond .ne 9, 3) := by decide +kernel
theorem dX7_memberAt_14 : decode cX7_memberAt 14 = .ok (.aload_n 0, 1) := by decide +kernel
theorem dX7_memberAt_15 : decode cX7_memberAt 15 = .ok (.iconst 1, 1) := by decide +kernel
theorem dX7_memberAt_16 : decode cX7_memberAt 16 = .ok (.invokevirtual 85, 3) := by decide +kernel
theorem dX7_memberAt_19 : decode cX7_memberAt 19 = .ok (.ireturn, 1) := by decide +kernel
theorem dX7_memberAt_20 : decode cX7_memberAt 20 = .ok (.aload_n 0, 1) := by decide +kernel
theorem dX7_memberAt_21 : decode cX7_memberAt 21 = .ok (.iload_n 1, 1) := by decide +kernel
theorem dX7_memberAt_22 : decode cX7_memberAt 22 = .ok (.iconst 0, 1) := by decide +kernel
theorem dX7_memberAt_23 : decode cX7_memberAt 23 = .ok (.iload_n 2, 1) := by decide +kernel
theorem dX7_memberAt_24 : decode cX7_memberAt 24 = .ok (.invokevirtual 112, 3) := by decide +kernel
theorem dX7_memberAt_27 : decode cX7_memberAt 27 = .ok (.astore 4, 2) := by decide +kernel
theorem dX7_memberAt_29 : decode cX7_memberAt 29 = .ok (.iload_n 3, 1) := by decide +kernel
theorem dX7_memberAt_30 : decode cX7_memberAt 30 = .ok (.iconst 0, 1) := by decide +kernel
theorem dX7_memberAt_31 : decode cX7_memberAt 31 = .ok (.aload 4, 2) := by decide +kernel
theorem dX7_memberAt_33 : decode cX7_memberAt 33 = .ok (.arraylength, 1) := by decide +kernel
theorem dX7_memberAt_34 : decode cX7_memberAt 34 = .ok (.iconst 1, 1) := by decide +kernel
theorem dX7_memberAt_35 : decode cX7_memberAt 35 = .ok (.isub, 1) := by decide +kernel
theorem dX7_memberAt_36 : decode cX7_memberAt 36 = .ok (.invokestatic 59, 3) := by decide +kernel
theorem dX7_memberAt_39 : decode cX7_memberAt 39 = .ok (.ifCond .eq 10, 3) := by decide +kernel
theorem dX7_memberAt_42 : decode cX7_memberAt 42 = .ok (.aload 4, 2) := by decide +kernel
theorem dX7_memberAt_44 : decode cX7_memberAt 44 = .ok (.iload_n 3, 1) := by decide +kernel
theorem dX7_memberAt_45 : decode cX7_memberAt 45 = .ok (.iaload, 1) := by decide +kernel
theorem dX7_memberAt_46 : decode cX7_memberAt 46 = .ok (.goto 8, 3) := by decide +kernel
theorem dX7_memberAt_49 : decode cX7_memberAt 49 = .ok (.aload_n 0, 1) := by decide +kernel
theorem dX7_memberAt_50 : decode cX7_memberAt 50 = .ok (.iconst 1, 1) := by decide +kernel
theorem dX7_memberAt_51 : decode cX7_memberAt 51 = .ok (.invokevirtual 85, 3) := by decide +kernel
theorem dX7_memberAt_54 : decode cX7_memberAt 54 = .ok (.ireturn, 1) := by decide +kernel
/-! by program: wip/whole/gen.py out of wip/whole/src/40.kids.eb -/
/-! EbbTableModel: running, share, fewest, drill, memberAt -/
set_option maxRecDepth 100000 in
set_option maxHeartbeats 8000000 in
theorem c_X7_running {l : Launch} {D : va_G} {cys : Nat → ClassId} {ad : Nat → Int → Nat} {L : List Nat} {g : Nat → va_E} {X : Int64} {Z : ZT} (hi : injA ad) {S : ZT} {d q : Int} (hS : RMZ S Z) (hRL : RML cys ad S L g) (hW : WF S) (hd : inR d) (hq : inR q) : CM l D cys ad yX7_running cX7_running 5 (some .int) 8 201 74 1776 [.ref (ad 24 0), .int (iI d), .int (iI q)] L g X Z (PGI L g X Z (fun r L9 g9 X9 Z9 => (((0 ≤ d ∧ d < S 0 0 5 ∧ 0 ≤ q ∧ q < (kids S d).length) ∧ r = sumTo (lsum S d) (q + 1).toNat ∧ MTH 0 Z Z9) ∨ (¬ (0 ≤ d ∧ d < S 0 0 5 ∧ 0 ≤ q ∧ q < (kids S d).length) ∧ r = 0 ∧ MTH 1 Z Z9)) ∧ EXT L g L9 g9 ∧ X9 = X)) := by
  refine cm_start hi (by decide +kernel) (Nat.le_of_ble_eq_true rfl) ?_
  intro p_ e_ s_ m_ args_ below_ meth_ c_ A_ Q_ hQ G hr hin
  refine j_aload_n G dX7_running_0 rfl ?_
  refine j_iload_n G dX7_running_1 rfl ?_
  refine j_iload_n G dX7_running_2 rfl ?_
  refine j_cVGI G cvX7_hasChild ml7_150 (c_X7_hasChild hi hS hW hd hq) dX7_running_3 ⟨by decide, by decide⟩ (by first | exact ⟨by decide, by decide⟩ | (constructor <;> dsimp only <;> omega)) rfl rfl (Nat.le_of_ble_eq_true rfl) (by first | assumption | decide) rfl rfl rfl (fun r3 L3 g3 X3 Z3 h3 => ?_)
  obtain ⟨hc, p3, eX⟩ := h3
  subst X3
  have hc' : (r3 = 1 ∧ (0 ≤ d ∧ d < S 0 0 5 ∧ 0 ≤ q ∧ q < (kids S d).length) ∧ Z3 = zS Z 24 0 0 0) ∨ (r3 = 0 ∧ ¬ (0 ≤ d ∧ d < S 0 0 5 ∧ 0 ≤ q ∧ q < (kids S d).length) ∧ Z3 = zS Z 24 0 0 1) := by
    rcases hc with z | z
    · exact Or.inl ⟨z.2.1, z.1, z.2.2⟩
    · exact Or.inr ⟨z.2.1, z.1, z.2.2⟩
  clear hc
  refine j_if_ne G 11 dX7_running_6 (by decide) (by omega) (fun c6 => ?_) (fun c6 => ?_)
  · have hdq : 0 ≤ d ∧ d < S 0 0 5 ∧ 0 ≤ q ∧ q < (kids S d).length := by omega
    have hd0 : 0 ≤ d ∧ d < S 0 0 5 := by omega
    have hm : Z3 = zS Z 24 0 0 0 := hc'.elim (fun z => z.2.2) (fun z => absurd hdq z.2.1)
    subst hm
    have hS1 := hS.th 0
    have hk := (kids_ok hW hd0.1 hd0.2).1
    have hsl := SUML_len S d
    refine j_iconst G dX7_running_11 ?_
    refine j_istore_n G dX7_running_12 (by decide) rfl ?_
    refine j_iconst G dX7_running_13 ?_
    refine j_istore G dX7_running_14 (by decide) rfl ?_
    have loop : ∀ (n : Nat) (a b : Int) (L1 : List Nat) (g1 : Nat → va_E), 0 ≤ a → a ≤ q + 1 → (q + 1 - a).toNat = n → b = sumTo (lsum S d) a.toNat → EXT L g L1 g1 → JJ p_ l e_ { frames := 8, cells := 74, slots := 1776, locals := 201 } s_ m_ args_ below_ meth_ c_ D cys ad A_ Q_ 5 (2 + 3 * a.toNat) (48 + 72 * a.toNat) L1 g1 X (zS Z 24 0 0 0) 16 [(0, .ref (ad 24 0)), (1, .int (iI d)), (2, .int (iI q)), (3, .int (iI b)), (4, .int (iI a))] [] := by
      intro n
      induction n with
      | zero =>
        intro a b L1 g1 h0 h1 h2 h3 h4
        have ea : a = q + 1 := by omega
        subst ea
        refine j_iload G dX7_running_16 rfl ?_
        refine j_iload_n G dX7_running_18 rfl ?_
        refine j_icmp_gt G 39 dX7_running_19 (by decide) (by omega) (by omega) (fun c19 => ?_) (fun c19 => ?_)
        · refine j_iload_n G dX7_running_39 rfl ?_
          refine jr_GI G hQ hr dX7_running_40 (by first | decide | omega) (by first | decide | omega) ?_
          exact ⟨Or.inl ⟨hdq, h3, rfl⟩, h4, rfl⟩
        · exfalso; omega
      | succ n ih =>
        intro a b L1 g1 h0 h1 h2 h3 h4
        have hRL1 := hRL.ext h4
        have hs := sumTo_s (f := lsum S d) h0
        have hat := (SUML_at (S := S) (d := d) h0 (by omega)).1
        refine j_iload G dX7_running_16 rfl ?_
        refine j_iload_n G dX7_running_18 rfl ?_
        refine j_icmp_gt G 39 dX7_running_19 (by decide) (by omega) (by omega) (fun c19 => ?_) (fun c19 => ?_)
        · exfalso; omega
        · refine j_iload_n G dX7_running_22 rfl ?_
          refine j_aload_n G dX7_running_23 rfl ?_
          refine j_iload_n G dX7_running_24 rfl ?_
          refine j_cVGA G cvX7_sums ml7_153 (c_X7_sums hi hS1 hRL1 hW hd0) dX7_running_25 ⟨by decide, by decide⟩ (by first | exact ⟨by decide, by decide⟩ | (constructor <;> dsimp only <;> omega)) rfl rfl (Nat.le_of_ble_eq_true rfl) (by first | assumption | decide) rfl rfl rfl (fun r25 L25 g25 X25 Z25 h25 => ?_)
          obtain ⟨s1, s2, s3, eX, eZ⟩ := h25
          subst X25 Z25
          refine j_iload G dX7_running_28 rfl ?_
          refine j_dlA G dX7_running_30 (by assumption) (by first | omega | decide) (by omega) (by omega) ?_
          rw [hat]
          refine j_iadd G dX7_running_31 ?_
          refine j_istore_n G dX7_running_32 (by decide) rfl ?_
          refine j_iinc G dX7_running_33 rfl (by decide) rfl ?_
          refine j_goto G 16 dX7_running_36 (by decide) ?_
          rw [show 2 + 3 * a.toNat + 3 = 2 + 3 * (a + 1).toNat by omega, show 48 + 72 * a.toNat + 72 = 48 + 72 * (a + 1).toNat by omega]
          refine ih (a + 1) _ _ _ (by omega) (by omega) (by omega) ?_ (h4.tr s3)
          rw [hs, ← h3]
    exact loop _ 0 0 _ _ (by omega) (by omega) rfl rfl p3
  · refine j_iconst G dX7_running_9 ?_
    refine jr_GI G hQ hr dX7_running_10 (by first | decide | omega) (by first | decide | omega) ?_
    rcases hc' with z | z
    · exfalso; omega
    · exact ⟨Or.inr ⟨z.2.1, by first | rfl | trivial, z.2.2⟩, p3, by first | rfl | trivial⟩
set_option maxRecDepth 100000 in
set_option maxHeartbeats 8000000 in
theorem c_X7_share {l : Launch} {D : va_G} {cys : Nat → ClassId} {ad : Nat → Int → Nat} {L : List Nat} {g : Nat → va_E} {X : Int64} {Z : ZT} (hi : injA ad) {S : ZT} {d q : Int} (hS : RMZ S Z) (hRL : RML cys ad S L g) (hW : WF S) (hd : inR d) (hq : inR q) : CM l D cys ad yX7_share cX7_share 3 (some .int) 8 201 5 120 [.ref (ad 24 0), .int (iI d), .int (iI q)] L g X Z (PGI L g X Z (fun r L9 g9 X9 Z9 => (((0 ≤ d ∧ d < S 0 0 5 ∧ 0 ≤ q ∧ q < (kids S d).length) ∧ r = (if SUM S = 0 then 0 else (1000 * lsum S d q).tdiv (SUM S)) ∧ MTH 0 Z Z9) ∨ (¬ (0 ≤ d ∧ d < S 0 0 5 ∧ 0 ≤ q ∧ q < (kids S d).length) ∧ r = 0 ∧ MTH 1 Z Z9)) ∧ EXT L g L9 g9 ∧ X9 = X)) := by
  refine cm_start hi (by decide +kernel) (Nat.le_of_ble_eq_true rfl) ?_
  intro p_ e_ s_ m_ args_ below_ meth_ c_ A_ Q_ hQ G hr hin
  refine j_aload_n G dX7_share_0 rfl ?_
  refine j_iload_n G dX7_share_1 rfl ?_
  refine j_iload_n G dX7_share_2 rfl ?_
  refine j_cVGI G cvX7_hasChild ml7_150 (c_X7_hasChild hi hS hW hd hq) dX7_share_3 ⟨by decide, by decide⟩ (by first | exact ⟨by decide, by decide⟩ | (constructor <;> dsimp only <;> omega)) rfl rfl (Nat.le_of_ble_eq_true rfl) (by first | assumption | decide) rfl rfl rfl (fun r3 L3 g3 X3 Z3 h3 => ?_)
  obtain ⟨hc, p3, eX⟩ := h3
  subst X3
  have hc' : (r3 = 1 ∧ (0 ≤ d ∧ d < S 0 0 5 ∧ 0 ≤ q ∧ q < (kids S d).length) ∧ Z3 = zS Z 24 0 0 0) ∨ (r3 = 0 ∧ ¬ (0 ≤ d ∧ d < S 0 0 5 ∧ 0 ≤ q ∧ q < (kids S d).length) ∧ Z3 = zS Z 24 0 0 1) := by
    rcases hc with z | z
    · exact Or.inl ⟨z.2.1, z.1, z.2.2⟩
    · exact Or.inr ⟨z.2.1, z.1, z.2.2⟩
  clear hc
  refine j_if_ne G 11 dX7_share_6 (by decide) (by omega) (fun c6 => ?_) (fun c6 => ?_)
  · have hdq : 0 ≤ d ∧ d < S 0 0 5 ∧ 0 ≤ q ∧ q < (kids S d).length := by omega
    have hd0 : 0 ≤ d ∧ d < S 0 0 5 := by omega
    have hm : Z3 = zS Z 24 0 0 0 := hc'.elim (fun z => z.2.2) (fun z => absurd hdq z.2.1)
    subst hm
    have hS1 := hS.th 0
    have hRL3 := hRL.ext p3
    have hk := (kids_ok hW hd0.1 hd0.2).1
    have hsl := SUML_len S d
    have hat := (SUML_at (S := S) (d := d) hdq.2.2.1 hdq.2.2.2).1
    have hlb := lsum_bd hW d q
    have hsb := SUM_bd hW
    have hsi : inR (SUM S) := by omega
    refine j_aload_n G dX7_share_11 rfl ?_
    refine j_cVI G cvX7_sumNow ml7_133 (c_X7_sumNow hi hS1 hRL3 hW) dX7_share_12 ⟨by decide, by decide⟩ (by first | exact ⟨by decide, by decide⟩ | (constructor <;> dsimp only <;> omega)) rfl rfl (Nat.le_of_ble_eq_true rfl) (by first | assumption | decide) rfl rfl rfl (fun r12 h12 => ?_)
    subst h12
    refine j_if_ne G 22 dX7_share_15 (by decide) (by omega) (fun c15 => ?_) (fun c15 => ?_)
    · refine j_sipush G dX7_share_22 (by decide +kernel) ?_
      refine j_aload_n G dX7_share_25 rfl ?_
      refine j_iload_n G dX7_share_26 rfl ?_
      refine j_cVGA G cvX7_sums ml7_153 (c_X7_sums hi hS1 hRL3 hW hd0) dX7_share_27 ⟨by decide, by decide⟩ (by first | exact ⟨by decide, by decide⟩ | (constructor <;> dsimp only <;> omega)) rfl rfl (Nat.le_of_ble_eq_true rfl) (by first | assumption | decide) rfl rfl rfl (fun r27 L27 g27 X27 Z27 h27 => ?_)
      obtain ⟨s1, s2, s3, eX, eZ⟩ := h27
      subst X27 Z27
      have hRL27 := hRL3.ext s3
      refine j_iload_n G dX7_share_30 rfl ?_
      refine j_dlA G dX7_share_31 (by assumption) (by first | omega | decide) (by omega) (by omega) ?_
      rw [hat]
      refine j_imul G dX7_share_32 ?_
      refine j_aload_n G dX7_share_33 rfl ?_
      refine j_cVI G cvX7_sumNow ml7_133 (c_X7_sumNow hi hS1 hRL27 hW) dX7_share_34 ⟨by decide, by decide⟩ (by first | exact ⟨by decide, by decide⟩ | (constructor <;> dsimp only <;> omega)) rfl rfl (Nat.le_of_ble_eq_true rfl) (by first | assumption | decide) rfl rfl rfl (fun r34 h34 => ?_)
      subst h34
      refine j_idiv G dX7_share_37 (fun z => c15 (iI_inj hsi (by decide) z)) (iI_div (by omega) hsi (by omega)) ?_
      refine jr_GI G hQ hr dX7_share_38 (by first | decide | omega) (by first | decide | omega) ?_
      first
      | exact ⟨Or.inl ⟨hdq, by rw [if_pos (by assumption)], rfl⟩, p3, by first | rfl | trivial⟩
      | exact ⟨Or.inl ⟨hdq, by rw [if_neg (by assumption)], rfl⟩, p3.tr s3, rfl⟩
    · refine j_iconst G dX7_share_18 ?_
      refine j_goto G 38 dX7_share_19 (by decide) ?_
      refine jr_GI G hQ hr dX7_share_38 (by first | decide | omega) (by first | decide | omega) ?_
      first
      | exact ⟨Or.inl ⟨hdq, by rw [if_pos (by assumption)], rfl⟩, p3, by first | rfl | trivial⟩
      | exact ⟨Or.inl ⟨hdq, by rw [if_neg (by assumption)], rfl⟩, p3.tr s3, rfl⟩
  · refine j_iconst G dX7_share_9 ?_
    refine jr_GI G hQ hr dX7_share_10 (by first | decide | omega) (by first | decide | omega) ?_
    rcases hc' with z | z
    · exfalso; omega
    · exact ⟨Or.inr ⟨z.2.1, by first | rfl | trivial, z.2.2⟩, p3, by first | rfl | trivial⟩
set_option maxRecDepth 100000 in
set_option maxHeartbeats 8000000 in
theorem c_X7_fewest {l : Launch} {D : va_G} {cys : Nat → ClassId} {ad : Nat → Int → Nat} {L : List Nat} {g : Nat → va_E} {X : Int64} {Z : ZT} (hi : injA ad) {S : ZT} {d q : Int} (hS : RMZ S Z) (hRL : RML cys ad S L g) (hW : WF S) (hd : inR d) (hq : inR q) : CM l D cys ad yX7_fewest cX7_fewest 6 (some .int) 8 201 3 72 [.ref (ad 24 0), .int (iI d), .int (iI q)] L g X Z (PGI L g X Z (fun r L9 g9 X9 Z9 => (((0 ≤ d ∧ d < S 0 0 5) ∧ (1 ≤ q ∧ q ≤ 1000) ∧ fwP (lsum S d) (kids S d).length (q * SUM S) r ∧ MTH 0 Z Z9) ∨ (¬ (0 ≤ d ∧ d < S 0 0 5) ∧ r = 0 ∧ MTH 1 Z Z9) ∨ ((0 ≤ d ∧ d < S 0 0 5) ∧ ¬ (1 ≤ q ∧ q ≤ 1000) ∧ r = 0 ∧ MTH 2 Z Z9)) ∧ EXT L g L9 g9 ∧ X9 = X)) := by
  refine cm_start hi (by decide +kernel) (Nat.le_of_ble_eq_true rfl) ?_
  intro p_ e_ s_ m_ args_ below_ meth_ c_ A_ Q_ hQ G hr hin
  have hS1 := hS.th 0
  have h1r : inR 1 := by decide
  have hkr : inR 1000 := by decide
  refine j_aload_n G dX7_fewest_0 rfl ?_
  refine j_iconst G dX7_fewest_1 ?_
  refine pf_24_0 G dX7_fewest_2 lf7_52 (by first | assumption | decide) ?_
  refine j_aload_n G dX7_fewest_5 rfl ?_
  refine j_iload_n G dX7_fewest_6 rfl ?_
  refine j_cVI G cvX7_isDimension ml7_63 (c_X7_isDimension hi hS1 hW hd) dX7_fewest_7 ⟨by decide, by decide⟩ (by first | exact ⟨by decide, by decide⟩ | (constructor <;> dsimp only <;> omega)) rfl rfl (Nat.le_of_ble_eq_true rfl) (by first | assumption | decide) rfl rfl rfl (fun r7 h7 => ?_)
  refine j_if_ne G 19 dX7_fewest_10 (by decide) (by omega) (fun c10 => ?_) (fun c10 => ?_)
  · refine j_iload_n G dX7_fewest_19 rfl ?_
    refine j_iconst G dX7_fewest_20 ?_
    refine j_sipush G dX7_fewest_21 (by decide +kernel) ?_
    refine j_cSI G csX7_is ml7_59 rfl (c_X7_is hi hq h1r hkr) dX7_fewest_24 ⟨by decide, by decide⟩ (by first | exact ⟨by decide, by decide⟩ | (constructor <;> dsimp only <;> omega)) rfl rfl (Nat.le_of_ble_eq_true rfl) (fun r24 h24 => ?_)
    refine j_if_ne G 36 dX7_fewest_27 (by decide) (by omega) (fun c27 => ?_) (fun c27 => ?_)
    · have hd0 : 0 ≤ d ∧ d < S 0 0 5 := by omega
      have hqq : 1 ≤ q ∧ q ≤ 1000 := by omega
      have hk := (kids_ok hW hd0.1 hd0.2).1
      have hsl := SUML_len S d
      have hsb := SUM_bd hW
      have hps : inR (q * SUM S) := by
        have := mul_pt (q := q) (by omega) (by omega) hsb.1 hsb.2
        omega
      refine j_aload_n G dX7_fewest_36 rfl ?_
      refine j_iload_n G dX7_fewest_37 rfl ?_
      refine j_cVGA G cvX7_sums ml7_153 (c_X7_sums hi hS1 hRL hW hd0) dX7_fewest_38 ⟨by decide, by decide⟩ (by first | exact ⟨by decide, by decide⟩ | (constructor <;> dsimp only <;> omega)) rfl rfl (Nat.le_of_ble_eq_true rfl) (by first | assumption | decide) rfl rfl rfl (fun r38 L38 g38 X38 Z38 h38 => ?_)
      obtain ⟨s1, s2, s3, eX, eZ⟩ := h38
      subst X38 Z38
      have hRL38 := hRL.ext s3
      have hsl24 : (SUML S d).length ≤ 24 := by omega
      have hrg := SUML_rg hW d
      refine j_astore_n G dX7_fewest_41 (by decide) rfl ?_
      refine j_iconst G dX7_fewest_42 ?_
      refine j_istore G dX7_fewest_43 (by decide) rfl ?_
      refine j_iconst G dX7_fewest_45 ?_
      refine j_istore G dX7_fewest_46 (by decide) rfl ?_
      have loop : ∀ (n : Nat) (a b : Int), 0 ≤ a → a ≤ (kids S d).length + 1 → ((kids S d).length + 1 - a).toNat = n → b = tgF (lsum S d) (kids S d).length (a - 1).toNat → (∀ t, 0 ≤ t → t < a → WR (tgF (lsum S d) (kids S d).length t.toNat * 1000) < q * SUM S) → JJ p_ l e_ { frames := 8, cells := 3, slots := 72, locals := 201 } s_ m_ args_ below_ meth_ c_ D cys ad A_ Q_ 6 3 72 L38 g38 X (zS Z 24 0 0 0) 48 [(0, .ref (ad 24 0)), (1, .int (iI d)), (2, .int (iI q)), (3, .ref r38), (4, .int (iI b)), (5, .int (iI a))] [] := by
        intro n
        induction n with
        | zero =>
          intro a b h0 h1 h2 h3 h4
          have ea : a = (kids S d).length + 1 := by omega
          subst ea
          refine j_iload G dX7_fewest_48 rfl ?_
          refine j_aload_n G dX7_fewest_50 rfl ?_
          refine j_dnA G dX7_fewest_51 (by assumption) ?_
          refine j_icmp_gt G 99 dX7_fewest_52 (by decide) (by omega) (by omega) (fun c52 => ?_) (fun c52 => ?_)
          · refine j_iconst G dX7_fewest_99 ?_
            refine jr_GI G hQ hr dX7_fewest_100 (by first | decide | omega) (by first | decide | omega) ?_
            exact ⟨Or.inl ⟨hd0, hqq, Or.inr ⟨rfl, fun t t0 t1 => h4 t t0 (by omega)⟩, rfl⟩, s3, rfl⟩
          · exfalso; omega
        | succ n ih =>
          intro a b h0 h1 h2 h3 h4
          have main : ∀ b', b' = tgF (lsum S d) (kids S d).length a.toNat → JJ p_ l e_ { frames := 8, cells := 3, slots := 72, locals := 201 } s_ m_ args_ below_ meth_ c_ D cys ad A_ Q_ 6 3 72 L38 g38 X (zS Z 24 0 0 0) 75 [(0, .ref (ad 24 0)), (1, .int (iI d)), (2, .int (iI q)), (3, .ref r38), (4, .int (iI b')), (5, .int (iI a))] [] := by
            intro b' hb'
            have hwr := WR_in (b' * 1000)
            refine j_iload G dX7_fewest_75 rfl ?_
            refine j_sipush G dX7_fewest_77 (by decide +kernel) ?_
            refine j_imul G dX7_fewest_80 ?_
            refine j_iload_n G dX7_fewest_81 rfl ?_
            refine j_aload_n G dX7_fewest_82 rfl ?_
            refine j_cVI G cvX7_sumNow ml7_133 (c_X7_sumNow hi hS1 hRL38 hW) dX7_fewest_83 ⟨by decide, by decide⟩ (by first | exact ⟨by decide, by decide⟩ | (constructor <;> dsimp only <;> omega)) rfl rfl (Nat.le_of_ble_eq_true rfl) (by first | assumption | decide) rfl rfl rfl (fun r83 h83 => ?_)
            subst h83
            refine j_imul G dX7_fewest_86 ?_
            rw [← iI_WR (b' * 1000)]
            refine j_icmp_lt G 93 dX7_fewest_87 (by decide) (by omega) (by omega) (fun c87 => ?_) (fun c87 => ?_)
            · refine j_iinc G dX7_fewest_93 rfl (by decide) rfl ?_
              refine j_goto G 48 dX7_fewest_96 (by decide) ?_
              refine ih (a + 1) b' (by omega) (by omega) (by omega) ?_ (fun t t0 t1 => ?_)
              · rw [show a + 1 - 1 = a by omega]; exact hb'
              · by_cases e : t = a
                · subst e; rw [← hb']; assumption
                · exact h4 t t0 (by omega)
            · refine j_iload G dX7_fewest_90 rfl ?_
              refine jr_GI G hQ hr dX7_fewest_92 (by first | decide | omega) (by first | decide | omega) ?_
              refine ⟨Or.inl ⟨hd0, hqq, Or.inl ⟨h0, by omega, ?_, h4⟩, rfl⟩, s3, rfl⟩
              rw [← hb']; assumption
          refine j_iload G dX7_fewest_48 rfl ?_
          refine j_aload_n G dX7_fewest_50 rfl ?_
          refine j_dnA G dX7_fewest_51 (by assumption) ?_
          refine j_icmp_gt G 99 dX7_fewest_52 (by decide) (by omega) (by omega) (fun c52 => ?_) (fun c52 => ?_)
          · exfalso; omega
          · refine j_iload G dX7_fewest_55 rfl ?_
            refine j_if_le G 75 dX7_fewest_57 (by decide) (by omega) (fun c57 => ?_) (fun c57 => ?_)
            · first
              | (refine main _ ?_
                 have e := tgF_m (s := lsum S d) (n := (kids S d).length) (a := a) (by omega)
                 rw [e, ← h3]
                 have e2 : srF (lsum S d) (kids S d).length (a - 1) = lsum S d r68 := by
                   unfold srF
                   rw [if_neg (by omega), h68']
                 rw [e2])
              | (refine main _ ?_
                 have ea : a = 0 := by omega
                 rw [h3, ea]
                 rfl)
            · have hq1 : 0 ≤ a - 1 ∧ a - 1 < (SUML S d).length := by omega
              refine j_iload G dX7_fewest_60 rfl ?_
              refine j_aload_n G dX7_fewest_62 rfl ?_
              refine j_aload_n G dX7_fewest_63 rfl ?_
              refine j_iload G dX7_fewest_64 rfl ?_
              refine j_iconst G dX7_fewest_66 ?_
              refine j_isub G dX7_fewest_67 ?_
              refine j_cSI G csX7_ofRank ml7_156 rfl (c_X7_ofRank hi s2 hsl24 hrg hq1) dX7_fewest_68 ⟨by decide, by decide⟩ (by first | exact ⟨by decide, by decide⟩ | (constructor <;> dsimp only <;> omega)) rfl rfl (Nat.le_of_ble_eq_true rfl) (fun r68 h68 => ?_)
              have hrk := rkF_in (lsum S d) (kids S d).length (a - 1) hq1.1 (by omega)
              have h68' := h68.trans (rk_SUML S d (a - 1))
              have hat := (SUML_at (S := S) (d := d) (j := r68) (by omega) (by omega)).1
              refine j_dlA G dX7_fewest_71 (by assumption) (by first | omega | decide) (by omega) (by omega) ?_
              rw [hat]
              refine j_iadd G dX7_fewest_72 ?_
              refine j_istore G dX7_fewest_73 (by decide) rfl ?_
              first
              | (refine main _ ?_
                 have e := tgF_m (s := lsum S d) (n := (kids S d).length) (a := a) (by omega)
                 rw [e, ← h3]
                 have e2 : srF (lsum S d) (kids S d).length (a - 1) = lsum S d r68 := by
                   unfold srF
                   rw [if_neg (by omega), h68']
                 rw [e2])
              | (refine main _ ?_
                 have ea : a = 0 := by omega
                 rw [h3, ea]
                 rfl)
      exact loop _ 0 0 (by omega) (by omega) rfl rfl (fun t t0 t1 => by omega)
    · refine j_aload_n G dX7_fewest_30 rfl ?_
      refine j_iconst G dX7_fewest_31 ?_
      refine j_cVIZ G cvX7_refuse ml7_85 (c_X7_refuse hi ) dX7_fewest_32 ⟨by decide, by decide⟩ (by first | exact ⟨by decide, by decide⟩ | (constructor <;> dsimp only <;> omega)) rfl rfl (Nat.le_of_ble_eq_true rfl) (by first | assumption | decide) rfl rfl rfl (fun r32 Z32 h32 => ?_)
      refine jr_GI G hQ hr dX7_fewest_35 (by first | decide | omega) (by first | decide | omega) ?_
      try simp (config := { decide := true }) only [zS_k, zS_s, zS_j, ne_eq]
      exact ⟨Or.inr (Or.inr ⟨by omega, by omega, h32.1, MTH.up h32.2⟩), EXT.rf _ _, by first | rfl | trivial⟩
  · refine j_aload_n G dX7_fewest_13 rfl ?_
    refine j_iconst G dX7_fewest_14 ?_
    refine j_cVIZ G cvX7_refuse ml7_85 (c_X7_refuse hi ) dX7_fewest_15 ⟨by decide, by decide⟩ (by first | exact ⟨by decide, by decide⟩ | (constructor <;> dsimp only <;> omega)) rfl rfl (Nat.le_of_ble_eq_true rfl) (by first | assumption | decide) rfl rfl rfl (fun r15 Z15 h15 => ?_)
    refine jr_GI G hQ hr dX7_fewest_18 (by first | decide | omega) (by first | decide | omega) ?_
    try simp (config := { decide := true }) only [zS_k, zS_s, zS_j, ne_eq]
    exact ⟨Or.inr (Or.inl ⟨by omega, h15.1, MTH.up h15.2⟩), EXT.rf _ _, by first | rfl | trivial⟩
set_option maxRecDepth 100000 in
set_option maxHeartbeats 8000000 in
theorem c_X7_drill {l : Launch} {D : va_G} {cys : Nat → ClassId} {ad : Nat → Int → Nat} {L : List Nat} {g : Nat → va_E} {X : Int64} {Z : ZT} (hi : injA ad) {S : ZT} {d : Int} (hS : RMZ S Z) (hRL : RML cys ad S L g) (hW : WF S) (hd : inR d) : CM l D cys ad yX7_drill cX7_drill 3 (some .int) 8 201 17 408 [.ref (ad 24 0), .int (iI d)] L g X Z (PGI L g X Z (fun r L9 g9 X9 Z9 => (((0 ≤ d ∧ d < S 0 0 5) ∧ r = drF d 3 S 2 d 5 ∧ Z9 = zS (zS Z 24 0 0 0) 31 0 d (drF d 3 S 2 d 5)) ∨ (¬ (0 ≤ d ∧ d < S 0 0 5) ∧ r = 0 ∧ MTH 1 Z Z9)) ∧ EXT L g L9 g9 ∧ X9 = X)) := by
  refine cm_start hi (by decide +kernel) (Nat.le_of_ble_eq_true rfl) ?_
  intro p_ e_ s_ m_ args_ below_ meth_ c_ A_ Q_ hQ G hr hin
  have hn := hW.n
  have hS1 := hS.th 0
  refine j_aload_n G dX7_drill_0 rfl ?_
  refine j_iconst G dX7_drill_1 ?_
  refine pf_24_0 G dX7_drill_2 lf7_52 (by first | assumption | decide) ?_
  refine j_aload_n G dX7_drill_5 rfl ?_
  refine j_iload_n G dX7_drill_6 rfl ?_
  refine j_cVI G cvX7_isDimension ml7_63 (c_X7_isDimension hi hS1 hW hd) dX7_drill_7 ⟨by decide, by decide⟩ (by first | exact ⟨by decide, by decide⟩ | (constructor <;> dsimp only <;> omega)) rfl rfl (Nat.le_of_ble_eq_true rfl) (by first | assumption | decide) rfl rfl rfl (fun r7 h7 => ?_)
  refine j_if_ne G 19 dX7_drill_10 (by decide) (by omega) (fun c10 => ?_) (fun c10 => ?_)
  · have hd0 : 0 ≤ d ∧ d < S 0 0 5 := by omega
    have hd4 : 0 ≤ d ∧ d < 4 := by omega
    refine j_aload_n G dX7_drill_19 rfl ?_
    refine j_iload_n G dX7_drill_20 rfl ?_
    refine j_cVGA G cvX7_childrenOf ml7_139 (c_X7_childrenOf hi hS1 hW hd0) dX7_drill_21 ⟨by decide, by decide⟩ (by first | exact ⟨by decide, by decide⟩ | (constructor <;> dsimp only <;> omega)) rfl rfl (Nat.le_of_ble_eq_true rfl) (by first | assumption | decide) rfl rfl rfl (fun r21 L21 g21 X21 Z21 h21 => ?_)
    obtain ⟨p1, p2, p3, eX, eZ⟩ := h21
    subst X21 Z21
    refine j_astore_n G dX7_drill_24 (by decide) rfl ?_
    have loop : ∀ (n : Nat) (T : ZT) (L1 : List Nat) (g1 : Nat → va_E) (a : Nat), n ≤ 3 → 3 - T 4 d (T 2 d 5) ≤ n → WF T → RMZ T (zS (zS Z 24 0 0 0) 31 0 d (T 2 d 5)) → RML cys ad T L1 g1 → AR cys ad L1 g1 a (kids T d) → EXT L g L1 g1 → T 0 0 5 = S 0 0 5 → drF d n T = drF d 3 S → JJ p_ l e_ { frames := 8, cells := 17, slots := 408, locals := 201 } s_ m_ args_ below_ meth_ c_ D cys ad A_ Q_ 3 (2 + 5 * (3 - n)) (48 + 120 * (3 - n)) L1 g1 X (zS (zS Z 24 0 0 0) 31 0 d (T 2 d 5)) 25 [(0, .ref (ad 24 0)), (1, .int (iI d)), (2, .ref a)] [] := by
      intro n
      induction n with
      | zero =>
        intro T L1 g1 a h1 h2 hWT hRT hRLT hAT hE h5 hdr
        have hdT : 0 ≤ d ∧ d < T 0 0 5 := by omega
        have hk := (kids_ok hWT hdT.1 hdT.2).1
        refine j_aload_n G dX7_drill_25 rfl ?_
        refine j_dnA G dX7_drill_26 (by assumption) ?_
        refine j_if_le G 56 dX7_drill_27 (by decide) (by omega) (fun c27 => ?_) (fun c27 => ?_)
        · refine j_aload_n G dX7_drill_56 rfl ?_
          refine gf_24_6 G dX7_drill_57 lf7_26 (by first | assumption | decide) ?_
          refine j_iload_n G dX7_drill_60 rfl ?_
          refine al_31 G dX7_drill_61 (by first | assumption | decide) (by omega) (by omega) ?_
          refine jr_GI G hQ hr dX7_drill_62 (by first | decide | omega) (by first | decide | omega) ?_
          have hdr : T = drF d 3 S := hdr
          exact ⟨Or.inl ⟨hd0, by first | rw [zS_s, hdr] | rw [hdr], by rw [hdr]⟩, hE, by first | rfl | trivial⟩
        · exfalso
          have hx := kids_dep hWT hdT.1 hdT.2 (getD_mem (W := kids T d) (j := 0) (by omega) (by omega))
          omega
      | succ n ih =>
        intro T L1 g1 a h1 h2 hWT hRT hRLT hAT hE h5 hdr
        have hdT : 0 ≤ d ∧ d < T 0 0 5 := by omega
        have hkk := kids_ok hWT hdT.1 hdT.2
        have hk := hkk.1
        have hslT := SUML_len T d
        refine j_aload_n G dX7_drill_25 rfl ?_
        refine j_dnA G dX7_drill_26 (by assumption) ?_
        refine j_if_le G 56 dX7_drill_27 (by decide) (by omega) (fun c27 => ?_) (fun c27 => ?_)
        · refine j_aload_n G dX7_drill_56 rfl ?_
          refine gf_24_6 G dX7_drill_57 lf7_26 (by first | assumption | decide) ?_
          refine j_iload_n G dX7_drill_60 rfl ?_
          refine al_31 G dX7_drill_61 (by first | assumption | decide) (by omega) (by omega) ?_
          refine jr_GI G hQ hr dX7_drill_62 (by first | decide | omega) (by first | decide | omega) ?_
          have hz : (kids T d).length = 0 := by omega
          rw [drF_0 hz] at hdr
          exact ⟨Or.inl ⟨hd0, by first | rw [zS_s, hdr] | rw [hdr], by rw [hdr]⟩, hE, by first | rfl | trivial⟩
        · refine j_aload_n G dX7_drill_30 rfl ?_
          refine gf_24_6 G dX7_drill_31 lf7_26 (by first | assumption | decide) ?_
          refine j_iload_n G dX7_drill_34 rfl ?_
          refine j_aload_n G dX7_drill_35 rfl ?_
          refine j_aload_n G dX7_drill_36 rfl ?_
          refine j_iload_n G dX7_drill_37 rfl ?_
          refine j_cVGA G cvX7_sums ml7_153 (c_X7_sums hi hRT hRLT hWT hdT) dX7_drill_38 ⟨by decide, by decide⟩ (by first | exact ⟨by decide, by decide⟩ | (constructor <;> dsimp only <;> omega)) rfl rfl (Nat.le_of_ble_eq_true rfl) (by first | assumption | decide) rfl rfl rfl (fun r38 L38 g38 X38 Z38 h38 => ?_)
          obtain ⟨s1, s2, s3, eX, eZ⟩ := h38
          subst X38 Z38
          have hsl24 : (SUML T d).length ≤ 24 := by omega
          have hrg := SUML_rg hWT d
          have hq1 : (0 : Int) ≤ 0 ∧ 0 < ((SUML T d).length : Int) := by omega
          refine j_iconst G dX7_drill_41 ?_
          refine j_cSI G csX7_ofRank ml7_156 rfl (c_X7_ofRank hi s2 hsl24 hrg hq1) dX7_drill_42 ⟨by decide, by decide⟩ (by first | exact ⟨by decide, by decide⟩ | (constructor <;> dsimp only <;> omega)) rfl rfl (Nat.le_of_ble_eq_true rfl) (fun r42 h42 => ?_)
          have h42' := h42.trans (rk_SUML T d 0)
          have hrk := rkF_in (lsum T d) (kids T d).length 0 (by omega) (by omega)
          have hA2 := hAT.ext s3
          have hmm := getD_mem (W := kids T d) (j := r42) (by omega) (by omega)
          have hmi := hkk.2 _ hmm
          have hmd := kids_dep hWT hdT.1 hdT.2 hmm
          refine j_dlA G dX7_drill_45 hA2 (by first | omega | decide) (by omega) (by omega) ?_
          refine as_31 G dX7_drill_46 (by first | assumption | decide) (by omega) (by omega) ?_
          rw [zS_up]
          have hWT' := hWT.goTo (M_goTo.z T d ((kids T d).getD r42.toNat 0)) hdT.2 hmi.1 hmi.2
          have hRT' := hRT.pt hd4.1 hd4.2 ((kids T d).getD r42.toNat 0)
          rw [zS_up] at hRT'
          have hRLT' := (hRLT.ext s3).pt d ((kids T d).getD r42.toNat 0)
          have hdT' : 0 ≤ d ∧ d < zS T 2 d 5 ((kids T d).getD r42.toNat 0) 0 0 5 := by rw [zS_k (by decide)]; exact hdT
          refine j_aload_n G dX7_drill_47 rfl ?_
          refine j_iload_n G dX7_drill_48 rfl ?_
          refine j_cVGA G cvX7_childrenOf ml7_139 (c_X7_childrenOf hi hRT' hWT' hdT') dX7_drill_49 ⟨by decide, by decide⟩ (by first | exact ⟨by decide, by decide⟩ | (constructor <;> dsimp only <;> omega)) rfl rfl (Nat.le_of_ble_eq_true rfl) (by first | assumption | decide) rfl rfl rfl (fun r49 L49 g49 X49 Z49 h49 => ?_)
          obtain ⟨t1, t2, t3, eX, eZ⟩ := h49
          subst X49 Z49
          refine j_astore_n G dX7_drill_52 (by decide) rfl ?_
          refine j_goto G 25 dX7_drill_53 (by decide) ?_
          rw [show 2 + 5 * (3 - (n + 1)) + 3 + 2 = 2 + 5 * (3 - n) by omega, show 48 + 120 * (3 - (n + 1)) + 72 + 48 = 48 + 120 * (3 - n) by omega]
          have hI := ih (zS T 2 d 5 ((kids T d).getD r42.toNat 0)) L49 g49 r49 (by omega) (by rw [zS_s, zS_k (by decide)]; omega) hWT' (by rw [zS_s]; exact hRT') (hRLT'.ext t3) t2 ((hE.tr s3).tr t3) (by rw [zS_k (by decide)]; exact h5) (by
            rw [← hdr]
            show drF d n _ = if _ then _ else _
            rw [if_neg (by omega), ← h42'])
          rw [zS_s] at hI
          exact hI
    have e31 := (hS.d hd4.1 hd4.2).2.2.1
    have eZ : zS (zS Z 24 0 0 0) 31 0 d (S 2 d 5) = zS Z 24 0 0 0 := by
      rw [← e31]
      have := zS_id (zS Z 24 0 0 0) 31 0 d
      rw [zS_k (show (31 : Nat) ≠ 24 by decide)] at this
      exact this
    have hpd : 0 ≤ S 4 d (S 2 d 5) := by
      have ht := hW.t hd0.1 hd0.2
      have := ht.at ht.1.2.2.2.2.1 ht.1.2.2.2.2.2.1
      unfold MOK at this
      exact this.1
    have hI := loop 3 S L21 g21 r21 (by omega) (by omega) hW (by rw [eZ]; exact hS1) (hRL.ext p3) p2 p3 rfl rfl
    rw [eZ] at hI
    exact hI
  · refine j_aload_n G dX7_drill_13 rfl ?_
    refine j_iconst G dX7_drill_14 ?_
    refine j_cVIZ G cvX7_refuse ml7_85 (c_X7_refuse hi ) dX7_drill_15 ⟨by decide, by decide⟩ (by first | exact ⟨by decide, by decide⟩ | (constructor <;> dsimp only <;> omega)) rfl rfl (Nat.le_of_ble_eq_true rfl) (by first | assumption | decide) rfl rfl rfl (fun r15 Z15 h15 => ?_)
    refine jr_GI G hQ hr dX7_drill_18 (by first | decide | omega) (by first | decide | omega) ?_
    try simp (config := { decide := true }) only [zS_k, zS_s, zS_j, ne_eq]
    exact ⟨Or.inr ⟨by omega, h15.1, MTH.up h15.2⟩, EXT.rf _ _, by first | rfl | trivial⟩
set_option maxRecDepth 100000 in
set_option maxHeartbeats 8000000 in
theorem c_X7_memberAt {l : Launch} {D : va_G} {cys : Nat → ClassId} {ad : Nat → Int → Nat} {L : List Nat} {g : Nat → va_E} {X : Int64} {Z : ZT} (hi : injA ad) {S : ZT} {d q w : Int} (hS : RMZ S Z) (hW : WF S) (hd : inR d) (hq : inR q) (hw : inR w) : CM l D cys ad yX7_memberAt cX7_memberAt 5 (some .int) 6 156 2 48 [.ref (ad 24 0), .int (iI d), .int (iI q), .int (iI w)] L g X Z (PGI L g X Z (fun r L9 g9 X9 Z9 => (((0 ≤ d ∧ d < S 0 0 5 ∧ 0 ≤ q ∧ q ≤ S 2 d 3) ∧ (0 ≤ w ∧ w < (wk S d 0 q).length) ∧ r = (wk S d 0 q).getD w.toNat 0 ∧ MTH 0 Z Z9) ∨ (¬ ((0 ≤ d ∧ d < S 0 0 5 ∧ 0 ≤ q ∧ q ≤ S 2 d 3) ∧ 0 ≤ w ∧ w < (wk S d 0 q).length) ∧ r = 0 ∧ MTH 1 Z Z9)) ∧ EXT L g L9 g9 ∧ X9 = X)) := by
  refine cm_start hi (by decide +kernel) (Nat.le_of_ble_eq_true rfl) ?_
  intro p_ e_ s_ m_ args_ below_ meth_ c_ A_ Q_ hQ G hr hin
  have hS1 := hS.th 0
  have h0r : inR 0 := by decide
  refine j_aload_n G dX7_memberAt_0 rfl ?_
  refine j_iconst G dX7_memberAt_1 ?_
  refine pf_24_0 G dX7_memberAt_2 lf7_52 (by first | assumption | decide) ?_
  refine j_aload_n G dX7_memberAt_5 rfl ?_
  refine j_iload_n G dX7_memberAt_6 rfl ?_
  refine j_iload_n G dX7_memberAt_7 rfl ?_
  refine j_cVI G cvX7_isLevel ml7_109 (c_X7_isLevel hi hS1 hW hd hq) dX7_memberAt_8 ⟨by decide, by decide⟩ (by first | exact ⟨by decide, by decide⟩ | (constructor <;> dsimp only <;> omega)) rfl rfl (Nat.le_of_ble_eq_true rfl) (by first | assumption | decide) rfl rfl rfl (fun r8 h8 => ?_)
  refine j_if_ne G 20 dX7_memberAt_11 (by decide) (by omega) (fun c11 => ?_) (fun c11 => ?_)
  · have hdq : 0 ≤ d ∧ d < S 0 0 5 ∧ 0 ≤ q ∧ q ≤ S 2 d 3 := by omega
    have hd0 : 0 ≤ d ∧ d < S 0 0 5 := by omega
    have ht := hW.t hd0.1 hd0.2
    have ht1 := ht.1
    have h00 : (0 : Int) ≤ 0 ∧ 0 < S 2 d 4 := by omega
    have hq4 : 0 ≤ q ∧ q ≤ 4 := by omega
    have hlen := wk_len q ht h00.1 h00.2
    refine j_aload_n G dX7_memberAt_20 rfl ?_
    refine j_iload_n G dX7_memberAt_21 rfl ?_
    refine j_iconst G dX7_memberAt_22 ?_
    refine j_iload_n G dX7_memberAt_23 rfl ?_
    refine j_cVGA G cvX7_membersOf ml7_112 (c_X7_membersOf hi hS1 hW hd0 h00 hq4) dX7_memberAt_24 ⟨by decide, by decide⟩ (by first | exact ⟨by decide, by decide⟩ | (constructor <;> dsimp only <;> omega)) rfl rfl (Nat.le_of_ble_eq_true rfl) (by first | assumption | decide) rfl rfl rfl (fun r24 L24 g24 X24 Z24 h24 => ?_)
    obtain ⟨p1, p2, p3, eX, eZ⟩ := h24
    subst X24 Z24
    have hbr : inR (((wk S d 0 q).length : Int) - 1) := by omega
    refine j_astore G dX7_memberAt_27 (by decide) rfl ?_
    refine j_iload_n G dX7_memberAt_29 rfl ?_
    refine j_iconst G dX7_memberAt_30 ?_
    refine j_aload G dX7_memberAt_31 rfl ?_
    refine j_dnA G dX7_memberAt_33 (by assumption) ?_
    refine j_iconst G dX7_memberAt_34 ?_
    refine j_isub G dX7_memberAt_35 ?_
    refine j_cSI G csX7_is ml7_59 rfl (c_X7_is hi hw h0r hbr) dX7_memberAt_36 ⟨by decide, by decide⟩ (by first | exact ⟨by decide, by decide⟩ | (constructor <;> dsimp only <;> omega)) rfl rfl (Nat.le_of_ble_eq_true rfl) (fun r36 h36 => ?_)
    refine j_if_eq G 49 dX7_memberAt_39 (by decide) (by omega) (fun c39 => ?_) (fun c39 => ?_)
    · refine j_aload_n G dX7_memberAt_49 rfl ?_
      refine j_iconst G dX7_memberAt_50 ?_
      refine j_cVIZ G cvX7_refuse ml7_85 (c_X7_refuse hi ) dX7_memberAt_51 ⟨by decide, by decide⟩ (by first | exact ⟨by decide, by decide⟩ | (constructor <;> dsimp only <;> omega)) rfl rfl (Nat.le_of_ble_eq_true rfl) (by first | assumption | decide) rfl rfl rfl (fun r51 Z51 h51 => ?_)
      refine jr_GI G hQ hr dX7_memberAt_54 (by first | decide | omega) (by first | decide | omega) ?_
      try simp (config := { decide := true }) only [zS_k, zS_s, zS_j, ne_eq]
      first
      | exact ⟨Or.inl ⟨hdq, by omega, by first | rfl | trivial, rfl⟩, p3, by first | rfl | trivial⟩
      | exact ⟨Or.inr ⟨fun z => by have := z.2; omega, h51.1, MTH.up h51.2⟩, p3, by first | rfl | trivial⟩
    · refine j_aload G dX7_memberAt_42 rfl ?_
      refine j_iload_n G dX7_memberAt_44 rfl ?_
      refine j_dlA G dX7_memberAt_45 (by assumption) (by first | omega | decide) (by omega) (by omega) ?_
      refine j_goto G 54 dX7_memberAt_46 (by decide) ?_
      refine jr_GI G hQ hr dX7_memberAt_54 (by first | decide | omega) (by first | decide | omega) ?_
      try simp (config := { decide := true }) only [zS_k, zS_s, zS_j, ne_eq]
      first
      | exact ⟨Or.inl ⟨hdq, by omega, by first | rfl | trivial, rfl⟩, p3, by first | rfl | trivial⟩
      | exact ⟨Or.inr ⟨fun z => by have := z.2; omega, h51.1, MTH.up h51.2⟩, p3, by first | rfl | trivial⟩
  · refine j_aload_n G dX7_memberAt_14 rfl ?_
    refine j_iconst G dX7_memberAt_15 ?_
    refine j_cVIZ G cvX7_refuse ml7_85 (c_X7_refuse hi ) dX7_memberAt_16 ⟨by decide, by decide⟩ (by first | exact ⟨by decide, by decide⟩ | (constructor <;> dsimp only <;> omega)) rfl rfl (Nat.le_of_ble_eq_true rfl) (by first | assumption | decide) rfl rfl rfl (fun r16 Z16 h16 => ?_)
    refine jr_GI G hQ hr dX7_memberAt_19 (by first | decide | omega) (by first | decide | omega) ?_
    try simp (config := { decide := true }) only [zS_k, zS_s, zS_j, ne_eq]
    exact ⟨Or.inr ⟨fun z => by have := z.1; omega, h16.1, MTH.up h16.2⟩, EXT.rf _ _, by first | rfl | trivial⟩

