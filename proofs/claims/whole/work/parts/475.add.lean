theorem dX7_add_0 : decode cX7_add 0 = .ok (.aload_n 0, 1) := by decide +kernel
theorem dX7_add_1 : decode cX7_add 1 = .ok (.iconst 0, 1) := by decide +kernel
theorem dX7_add_2 : decode cX7_add 2 = .ok (.putfield 52, 3) := by decide +kernel
theorem dX7_add_5 : decode cX7_add 5 = .ok (.iload_n 1, 1) := by decide +kernel
theorem dX7_add_6 : decode cX7_add 6 = .ok (.sipush (-10000), 3) := by decide +kernel
theorem dX7_add_9 : decode cX7_add 9 = .ok (.sipush 10000, 3) := by decide +kernel
theorem dX7_add_12 : decode cX7_add 12 = .ok (.invokestatic 59, 3) := by decide +kernel
theorem dX7_add_15 : decode cX7_add 15 = .ok (.ifCond .ne 9, 3) := by decide +kernel
theorem dX7_add_18 : decode cX7_add 18 = .ok (.aload_n 0, 1) := by decide +kernel
theorem dX7_add_19 : decode cX7_add 19 = .ok (.iconst 1, 1) := by decide +kernel
theorem dX7_add_20 : decode cX7_add 20 = .ok (.invokevirtual 85, 3) := by decide +kernel
theorem dX7_add_23 : decode cX7_add 23 = .ok (.ireturn, 1) := by decide +kernel
theorem dX7_add_24 : decode cX7_add 24 = .ok (.aload_n 0, 1) := by decide +kernel
theorem dX7_add_25 : decode cX7_add 25 = .ok (.getfield 56, 3) := by decide +kernel
theorem dX7_add_28 : decode cX7_add 28 = .ok (.ifCond .le 16, 3) := by decide +kernel
theorem dX7_add_31 : decode cX7_add 31 = .ok (.aload_n 0, 1) := by decide +kernel
theorem dX7_add_32 : decode cX7_add 32 = .ok (.getfield 89, 3) := by decide +kernel
theorem dX7_add_35 : decode cX7_add 35 = .ok (.bipush 80, 2) := by decide +kernel
theorem dX7_add_37 : decode cX7_add 37 = .ok (.if_icmp .ge 7, 3) := by decide +kernel
theorem dX7_add_40 : decode cX7_add 40 = .ok (.iconst 1, 1) := by decide +kernel
theorem dX7_add_41 : decode cX7_add 41 = .ok (.goto 4, 3) := by decide +kernel
theorem dX7_add_44 : decode cX7_add 44 = .ok (.iconst 0, 1) := by decide +kernel
theorem dX7_add_45 : decode cX7_add 45 = .ok (.istore_n 2, 1) := by decide +kernel
theorem dX7_add_46 : decode cX7_add 46 = .ok (.iconst 0, 1) := by decide +kernel
theorem dX7_add_47 : decode cX7_add 47 = .ok (.istore_n 3, 1) := by decide +kernel
theorem dX7_add_48 : decode cX7_add 48 = .ok (.iload_n 3, 1) := by decide +kernel
theorem dX7_add_49 : decode cX7_add 49 = .ok (.aload_n 0, 1) := by decide +kernel
theorem dX7_add_50 : decode cX7_add 50 = .ok (.getfield 56, 3) := by decide +kernel
theorem dX7_add_53 : decode cX7_add 53 = .ok (.if_icmp .ge 37, 3) := by decide +kernel
theorem dX7_add_56 : decode cX7_add 56 = .ok (.iload_n 2, 1) := by decide +kernel
theorem dX7_add_57 : decode cX7_add 57 = .ok (.aload_n 0, 1) := by decide +kernel
theorem dX7_add_58 : decode cX7_add 58 = .ok (.iload_n 3, 1) := by decide +kernel
theorem dX7_add_59 : decode cX7_add 59 = .ok (.aload_n 0, 1) := by decide +kernel
theorem dX7_add_60 : decode cX7_add 60 = .ok (.getfield 26, 3) := by decide +kernel
theorem dX7_add_63 : decode cX7_add 63 = .ok (.iload_n 3, 1) := by decide +kernel
theorem dX7_add_64 : decode cX7_add 64 = .ok (.iaload, 1) := by decide +kernel
theorem dX7_add_65 : decode cX7_add 65 = .ok (.invokevirtual 67, 3) := by decide +kernel
theorem dX7_add_68 : decode cX7_add 68 = .ok (.aload_n 0, 1) := by decide +kernel
theorem dX7_add_69 : decode cX7_add 69 = .ok (.getfield 9, 3) := by decide +kernel
theorem dX7_add_72 : decode cX7_add 72 = .ok (.iload_n 3, 1) := by decide +kernel
theorem dX7_add_73 : decode cX7_add 73 = .ok (.iaload, 1) := by decide +kernel
theorem dX7_add_74 : decode cX7_add 74 = .ok (.if_icmp .ne 7, 3) := by decide +kernel
theorem dX7_add_77 : decode cX7_add 77 = .ok (.iconst 1, 1) := by decide +kernel
theorem dX7_add_78 : decode cX7_add 78 = .ok (.goto 4, 3) := by decide +kernel
theorem dX7_add_81 : decode cX7_add 81 = .ok (.iconst 0, 1) := by decide +kernel
theorem dX7_add_82 : decode cX7_add 82 = .ok (.iand, 1) := by decide +kernel
theorem dX7_add_83 : decode cX7_add 83 = .ok (.istore_n 2, 1) := by decide +kernel
theorem dX7_add_84 : decode cX7_add 84 = .ok (.iinc 3 1, 3) := by decide +kernel
theorem dX7_add_87 : decode cX7_add 87 = .ok (.goto (-39), 3) := by decide +kernel
theorem dX7_add_90 : decode cX7_add 90 = .ok (.iload_n 2, 1) := by decide +kernel
theorem dX7_add_91 : decode cX7_add 91 = .ok (.ifCond .ne 9, 3) := by decide +kernel
theorem dX7_add_94 : decode cX7_add 94 = .ok (.aload_n 0, 1) := by decide +kernel
theorem dX7_add_95 : decode cX7_add 95 = .ok (.iconst 2, 1) := by decide +kernel
theorem dX7_add_96 : decode cX7_add 96 = .ok (.invokevirtual 85, 3) := by decide +kernel
theorem dX7_add_99 : decode cX7_add 99 = .ok (.ireturn, 1) := by decide +kernel
theorem dX7_add_100 : decode cX7_add 100 = .ok (.aload_n 0, 1) := by decide +kernel
theorem dX7_add_101 : decode cX7_add 101 = .ok (.getfield 33, 3) := by decide +kernel
theorem dX7_add_104 : decode cX7_add 104 = .ok (.aload_n 0, 1) := by decide +kernel
theorem dX7_add_105 : decode cX7_add 105 = .ok (.getfield 89, 3) := by decide +kernel
theorem dX7_add_108 : decode cX7_add 108 = .ok (.aload_n 0, 1) := by decide +kernel
theorem dX7_add_109 : decode cX7_add 109 = .ok (.getfield 26, 3) := by decide +kernel
theorem dX7_add_112 : decode cX7_add 112 = .ok (.invokevirtual 116, 3) := by decide +kernel
theorem dX7_add_115 : decode cX7_add 115 = .ok (.checkcast 32, 3) := by decide +kernel
theorem dX7_add_118 : decode cX7_add 118 = .ok (.aastore, 1) := by decide +kernel
theorem dX7_add_119 : decode cX7_add 119 = .ok (.aload_n 0, 1) := by decide +kernel
theorem dX7_add_120 : decode cX7_add 120 = .ok (.getfield 36, 3) := by decide +kernel
theorem dX7_add_123 : decode cX7_add 123 = .ok (.aload_n 0, 1) := by decide +kernel
theorem dX7_add_124 : decode cX7_add 124 = .ok (.getfield 89, 3) := by decide +kernel
theorem dX7_add_127 : decode cX7_add 127 = .ok (.iload_n 1, 1) := by decide +kernel
theorem dX7_add_128 : decode cX7_add 128 = .ok (.iastore, 1) := by decide +kernel
theorem dX7_add_129 : decode cX7_add 129 = .ok (.aload_n 0, 1) := by decide +kernel
theorem dX7_add_130 : decode cX7_add 130 = .ok (.dup, 1) := by decide +kernel
theorem dX7_add_131 : decode cX7_add 131 = .ok (.getfield 89, 3) := by decide +kernel
theorem dX7_add_134 : decode cX7_add 134 = .ok (.iconst 1, 1) := by decide +kernel
theorem dX7_add_135 : decode cX7_add 135 = .ok (.iadd, 1) := by decide +kernel
theorem dX7_add_136 : decode cX7_add 136 = .ok (.putfield 89, 3) := by decide +kernel
theorem dX7_add_139 : decode cX7_add 139 = .ok (.aload_n 0, 1) := by decide +kernel
theorem dX7_add_140 : decode cX7_add 140 = .ok (.invokevirtual 103, 3) := by decide +kernel
theorem dX7_add_143 : decode cX7_add 143 = .ok (.aload_n 0, 1) := by decide +kernel
theorem dX7_add_144 : decode cX7_add 144 = .ok (.getfield 89, 3) := by decide +kernel
theorem dX7_add_147 : decode cX7_add 147 = .ok (.iconst 1, 1) := by decide +kernel
theorem dX7_add_148 : decode cX7_add 148 = .ok (.isub, 1) := by decide +kernel
theorem dX7_add_149 : decode cX7_add 149 = .ok (.ireturn, 1) := by decide +kernel
theorem dX7_drop_0 : decode cX7_drop 0 = .ok (.aload_n 0, 1) := by decide +kernel
theorem dX7_drop_1 : decode cX7_drop 1 = .ok (.iconst 0, 1) := by decide +kernel
theorem dX7_drop_2 : decode cX7_drop 2 = .ok (.putfield 52, 3) := by decide +kernel
theorem dX7_drop_5 : decode cX7_drop 5 = .ok (.iload_n 1, 1) := by decide +kernel
theorem dX7_drop_6 : decode cX7_drop 6 = .ok (.iconst 0, 1) := by decide +kernel
theorem dX7_drop_7 : decode cX7_drop 7 = .ok (.aload_n 0, 1) := by decide +kernel
theorem dX7_drop_8 : decode cX7_drop 8 = .ok (.getfield 89, 3) := by decide +kernel
theorem dX7_drop_11 : decode cX7_drop 11 = .ok (.iconst 1, 1) := by decide +kernel
theorem dX7_drop_12 : decode cX7_drop 12 = .ok (.isub, 1) := by decide +kernel
theorem dX7_drop_13 : decode cX7_drop 13 = .ok (.invokestatic 59, 3) := by decide +kernel
theorem dX7_drop_16 : decode cX7_drop 16 = .ok (.ifCond .ne 9, 3) := by decide +kernel
theorem dX7_drop_19 : decode cX7_drop 19 = .ok (.aload_n 0, 1) := by decide +kernel
theorem dX7_drop_20 : decode cX7_drop 20 = .ok (.iconst 1, 1) := by decide +kernel
theorem dX7_drop_21 : decode cX7_drop 21 = .ok (.invokevirtual 85, 3) := by decide +kernel
theorem dX7_drop_24 : decode cX7_drop 24 = .ok (.ireturn, 1) := by decide +kernel
theorem dX7_drop_25 : decode cX7_drop 25 = .ok (.aload_n 0, 1) := by decide +kernel
theorem dX7_drop_26 : decode cX7_drop 26 = .ok (.getfield 36, 3) := by decide +kernel
theorem dX7_drop_29 : decode cX7_drop 29 = .ok (.iload_n 1, 1) := by decide +kernel
theorem dX7_drop_30 : decode cX7_drop 30 = .ok (.iaload, 1) := by decide +kernel
theorem dX7_drop_31 : decode cX7_drop 31 = .ok (.istore_n 2, 1) := by decide +kernel
theorem dX7_drop_32 : decode cX7_drop 32 = .ok (.aload_n 0, 1) := by decide +kernel
theorem dX7_drop_33 : decode cX7_drop 33 = .ok (.dup, 1) := by decide +kernel
theorem dX7_drop_34 : decode cX7_drop 34 = .ok (.getfield 89, 3) := by decide +kernel
theorem dX7_drop_37 : decode cX7_drop 37 = .ok (.iconst 1, 1) := by decide +kernel
theorem dX7_drop_38 : decode cX7_drop 38 = .ok (.isub, 1) := by decide +kernel
theorem dX7_drop_39 : decode cX7_drop 39 = .ok (.putfield 89, 3) := by decide +kernel
theorem dX7_drop_42 : decode cX7_drop 42 = .ok (.iload_n 1, 1) := by decide +kernel
theorem dX7_drop_43 : decode cX7_drop 43 = .ok (.istore_n 3, 1) := by decide +kernel
theorem dX7_drop_44 : decode cX7_drop 44 = .ok (.iload_n 3, 1) := by decide +kernel
theorem dX7_drop_45 : decode cX7_drop 45 = .ok (.aload_n 0, 1) := by decide +kernel
theorem dX7_drop_46 : decode cX7_drop 46 = .ok (.getfield 89, 3) := by decide +kernel
theorem dX7_drop_49 : decode cX7_drop 49 = .ok (.if_icmp .ge 37, 3) := by decide +kernel
theorem dX7_drop_52 : decode cX7_drop 52 = .ok (.aload_n 0, 1) := by decide +kernel
theorem dX7_drop_53 : decode cX7_drop 53 = .ok (.getfield 33, 3) := by decide +kernel
theorem dX7_drop_56 : decode cX7_drop 56 = .ok (.iload_n 3, 1) := by decide +kernel
theorem dX7_drop_57 : decode cX7_drop 57 = .ok (.aload_n 0, 1) := by decide +kernel
theorem dX7_drop_58 : decode cX7_drop 58 = .ok (.getfield 33, 3) := by decide +kernel
theorem dX7_drop_61 : decode cX7_drop 61 = .ok (.iload_n 3, 1) := by decide +kernel
theorem dX7_drop_62 : decode cX7_drop 62 = .ok (.iconst 1, 1) := by decide +kernel
theorem dX7_drop_63 : decode cX7_drop 63 = .ok (.iadd, 1) := by decide +kernel
theorem dX7_drop_64 : decode cX7_drop 64 = .ok (.aaload, 1) := by decide +kernel
theorem dX7_drop_65 : decode cX7_drop 65 = .ok (.aastore, 1) := by decide +kernel
theorem dX7_drop_66 : decode cX7_drop 66 = .ok (.aload_n 0, 1) := by decide +kernel
theorem dX7_drop_67 : decode cX7_drop 67 = .ok (.getfield 36, 3) := by decide +kernel
theorem dX7_drop_70 : decode cX7_drop 70 = .ok (.iload_n 3, 1) := by decide +kernel
theorem dX7_drop_71 : decode cX7_drop 71 = .ok (.aload_n 0, 1) := by decide +kernel
theorem dX7_drop_72 : decode cX7_drop 72 = .ok (.getfield 36, 3) := by decide +kernel
theorem dX7_drop_75 : decode cX7_drop 75 = .ok (.iload_n 3, 1) := by decide +kernel
theorem dX7_drop_76 : decode cX7_drop 76 = .ok (.iconst 1, 1) := by decide +kernel
theorem dX7_drop_77 : decode cX7_drop 77 = .ok (.iadd, 1) := by decide +kernel
theorem dX7_drop_78 : decode cX7_drop 78 = .ok (.iaload, 1) := by decide +kernel
theorem dX7_drop_79 : decode cX7_drop 79 = .ok (.iastore, 1) := by decide +kernel
theorem dX7_drop_80 : decode cX7_drop 80 = .ok (.iinc 3 1, 3) := by decide +kernel
theorem dX7_drop_83 : decode cX7_drop 83 = .ok (.goto (-39), 3) := by decide +kernel
theorem dX7_drop_86 : decode cX7_drop 86 = .ok (.aload_n 0, 1) := by decide +kernel
theorem dX7_drop_87 : decode cX7_drop 87 = .ok (.invokevirtual 103, 3) := by decide +kernel
theorem dX7_drop_90 : decode cX7_drop 90 = .ok (.iload_n 2, 1) := by decide +kernel
theorem dX7_drop_91 : decode cX7_drop 91 = .ok (.ireturn, 1) := by decide +kernel
/-! by program: wip/whole/gen.py out of wip/whole/src/475.add.eb -/
/-! EbbTableModel: add, drop -/
set_option maxRecDepth 100000 in
set_option maxHeartbeats 8000000 in
theorem c_X7_add {l : Launch} {D : va_G} {cys : Nat → ClassId} {ad : Nat → Int → Nat} {L : List Nat} {g : Nat → va_E} {X : Int64} {Z : ZT} (hi : injA ad) {S T : ZT} {v : Int} (hS : RMZ S Z) (hRL : RML cys ad S L g) (hW : WF S) (hv : inR v) (hT : (-10000 ≤ v ∧ v ≤ 10000) → ((0 < S 0 0 5 ∧ ∀ d, 0 ≤ d → d < S 0 0 5 → S 4 d (S 2 d 5) = S 2 d 3) ∧ S 6 0 3 < 80) → M_add S v T) : CMH l D cys ad yX7_add cX7_add 4 (some .int) 2 43 1 4 [.ref (ad 24 0), .int (iI v)] L g X Z (PGI L g X Z (fun r L9 g9 X9 Z9 => (((-10000 ≤ v ∧ v ≤ 10000) ∧ ((0 < S 0 0 5 ∧ ∀ d, 0 ≤ d → d < S 0 0 5 → S 4 d (S 2 d 5) = S 2 d 3) ∧ S 6 0 3 < 80) ∧ r = S 6 0 3 ∧ RML cys ad T L9 g9 ∧ (∀ k' i', ¬ (k' = 38 ∧ i' = 0) → Z9 k' i' = zS (zS (zS Z 24 0 0 0) 34 0 (S 6 0 3) v) 24 0 8 (S 6 0 3 + 1) k' i') ∧ ∀ j, Z9 38 0 j = if 0 ≤ j ∧ j < (6 : Nat) then 1 else Z 38 0 j) ∨ (¬ (-10000 ≤ v ∧ v ≤ 10000) ∧ r = 0 ∧ RML cys ad S L9 g9 ∧ MTH 1 Z Z9) ∨ ((-10000 ≤ v ∧ v ≤ 10000) ∧ ¬ ((0 < S 0 0 5 ∧ ∀ d, 0 ≤ d → d < S 0 0 5 → S 4 d (S 2 d 5) = S 2 d 3) ∧ S 6 0 3 < 80) ∧ r = 0 ∧ RML cys ad S L9 g9 ∧ MTH 2 Z Z9)) ∧ EXM (ad 33 0) L g L9 g9 ∧ X9 = X)) := by
  refine cmh_start hi (by decide +kernel) (Nat.le_of_ble_eq_true rfl) ?_
  intro p_ e_ s_ m_ args_ below_ meth_ c_ A_ Q_ hQ G hr hk4
  have hn := hW.n
  have hf := hW.f
  have hS1 := hS.th 0
  obtain ⟨Y, hY⟩ : ∃ Y, Y = zS Z 24 0 0 0 := ⟨_, rfl⟩
  rw [← hY] at hS1
  have e1 := hS1.a.1
  have e8 := hS1.a.2.1
  have e1' : Z 24 0 1 = S 0 0 5 := hS.a.1
  have e8' : Z 24 0 8 = S 6 0 3 := hS.a.2.1
  have hlo : inR (-10000) := by decide
  have hhi : inR 10000 := by decide
  have hVV : ∀ j : Nat, j < 4 → ([S 2 0 5, S 2 1 5, S 2 2 5, S 2 3 5] : List Int).getD j 0 = Y 31 0 j := fun j hj => by
    rw [(hS1.d (d := (j : Int)) (by omega) (by omega)).2.2.1]
    obtain rfl | rfl | rfl | rfl : j = 0 ∨ j = 1 ∨ j = 2 ∨ j = 3 := by omega
    all_goals rfl
  have hV2 : ∀ d : Int, 0 ≤ d → d < S 0 0 5 → ([S 2 0 5, S 2 1 5, S 2 2 5, S 2 3 5] : List Int).getD d.toNat 0 = S 2 d 5 := fun d d0 d1 => by
    rw [hVV d.toNat (by omega), Int.toNat_of_nonneg d0, (hS1.d (d := d) d0 (by omega)).2.2.1]
  have K := hRL
  obtain ⟨⟨hm, hns⟩, lf, hg, hk⟩ := K
  have loop : (-10000 ≤ v ∧ v ≤ 10000) → ∀ (n : Nat) (a b : Int), 0 ≤ a → a ≤ S 0 0 5 → (S 0 0 5 - a).toNat = n → (b = 0 ∨ b = 1) → (b = 1 ↔ (0 < S 0 0 5 ∧ S 6 0 3 < 80) ∧ ∀ e, 0 ≤ e → e < a → S 4 e (S 2 e 5) = S 2 e 3) → JJ p_ l e_ { frames := 2, cells := 1, slots := 4, locals := 43 } s_ m_ args_ below_ meth_ c_ D cys ad A_ Q_ 4 0 0 L g X Y 48 [(0, .ref (ad 24 0)), (1, .int (iI v)), (2, .int (iI b)), (3, .int (iI a))] [] := by
    intro hvv n
    induction n with
    | zero =>
      intro a b h0 h1 h2 h3 h4
      have ea : a = S 0 0 5 := by omega
      subst ea
      refine j_iload_n G dX7_add_48 rfl ?_
      refine j_aload_n G dX7_add_49 rfl ?_
      refine gf_24_1 G dX7_add_50 lf7_56 (by first | assumption | decide) ?_
      refine j_icmp_ge G 90 dX7_add_53 (by decide) (by omega) (by omega) (fun c53 => ?_) (fun c53 => ?_)
      · refine j_iload_n G dX7_add_90 rfl ?_
        refine j_if_ne G 100 dX7_add_91 (by decide) (by omega) (fun c91 => ?_) (fun c91 => ?_)
        · have hb1 : b = 1 := by omega
          have hyes := h4.mp hb1
          have hMT := hT hvv ⟨⟨hyes.1.1, hyes.2⟩, hyes.1.2⟩
          have h80 := hyes.1.2
          refine j_aload_n G dX7_add_100 rfl ?_
          refine gf_24_9 G dX7_add_101 lf7_33 (by first | assumption | decide) ?_
          refine j_aload_n G dX7_add_104 rfl ?_
          refine gf_24_8 G dX7_add_105 lf7_89 (by first | assumption | decide) ?_
          rw [e8]
          refine j_aload_n G dX7_add_108 rfl ?_
          refine gf_24_6 G dX7_add_109 lf7_26 (by first | assumption | decide) ?_
          refine j_cloneW G 31 0 (V := [S 2 0 5, S 2 1 5, S 2 2 5, S 2 3 5]) (TW_of 1138 (by decide +kernel) (by decide +kernel)) dX7_add_112 (fun _ => rfl) (by first | assumption | decide) rfl hVV ⟨by decide, Nat.le_of_ble_eq_true rfl⟩ (by first | exact ⟨by decide, by decide⟩ | (constructor <;> dsimp only <;> omega)) (fun a112 na112 ns112 => ?_)
          refine j_castA G (TW_of 965 (by decide +kernel) (by decide +kernel)) dX7_add_115 ⟨List.mem_append_right _ (List.mem_singleton.mpr rfl), ns112, va_up_self _ _ _⟩ ?_
          have hne33 : ad 33 0 ≠ a112 := by rintro e; exact na112 (e ▸ hm)
          have hg2 : va_up g a112 (dA cys [S 2 0 5, S 2 1 5, S 2 2 5, S 2 3 5]) (ad 33 0) = eQ (cys 4) 80 lf := by rw [va_up_ne _ _ hne33]; exact hg
          refine j_aastI G hk4 dX7_add_118 (List.mem_append_left _ hm) hns hg2 ⟨List.mem_append_right _ (List.mem_singleton.mpr rfl), ns112, va_up_self _ _ _⟩ (by decide) (by omega) (by omega) ?_
          refine j_aload_n G dX7_add_119 rfl ?_
          refine gf_24_10 G dX7_add_120 lf7_36 (by first | assumption | decide) ?_
          refine j_aload_n G dX7_add_123 rfl ?_
          refine gf_24_8 G dX7_add_124 lf7_89 (by first | assumption | decide) ?_
          rw [e8]
          refine j_iload_n G dX7_add_127 rfl ?_
          refine as_34 G dX7_add_128 (by first | assumption | decide) (by omega) (by omega) ?_
          refine j_aload_n G dX7_add_129 rfl ?_
          refine j_dup G dX7_add_130 rfl ?_
          refine gf_24_8 G dX7_add_131 lf7_89 (by first | assumption | decide) ?_
          try simp (config := { decide := true }) only [zS_k, zS_s, zS_j, ne_eq]
          rw [e8]
          refine j_iconst G dX7_add_134 ?_
          refine j_iadd G dX7_add_135 ?_
          refine pf_24_8 G dX7_add_136 lf7_89 (by first | assumption | decide) ?_
          refine j_aload_n G dX7_add_139 rfl ?_
          refine j_cVVZ G cvX7_stale ml7_103 (c_X7_stale hi ) dX7_add_140 ⟨by decide, by decide⟩ (by first | exact ⟨by decide, by decide⟩ | (constructor <;> dsimp only <;> omega)) rfl rfl (Nat.le_of_ble_eq_true rfl) (by first | assumption | decide) rfl rfl rfl (fun Z140 h140 => ?_)
          refine j_aload_n G dX7_add_143 rfl ?_
          refine gf_24_8 G dX7_add_144 lf7_89 (by first | assumption | decide) ?_
          try simp (config := { decide := true }) only [zS_k, zS_s, zS_j, ne_eq]
          refine j_iconst G dX7_add_147 ?_
          refine j_isub G dX7_add_148 ?_
          refine jr_GI G hQ hr dX7_add_149 (by first | decide | omega) (by first | decide | omega) ?_
          try simp (config := { decide := true }) only [zS_k, zS_s, zS_j, ne_eq]
          have hR2 := RML.addF hm hns hk hMT hf.1 na112 ns112 rfl hV2
          refine ⟨Or.inl ⟨hvv, ⟨⟨hyes.1.1, hyes.2⟩, hyes.1.2⟩, ?_, hR2, fun k' i' hne => ?_, fun j => ?_⟩, ((((EXT.rf L g).push na112 _).m (ad 33 0)).up _), by first | rfl | trivial⟩
          · have e9 : Z140 24 0 8 = S 6 0 3 + 1 := by rw [h140.1 24 0 (by decide), zS_s]
            omega
          · rw [h140.1 k' i' hne, hY]
          · rw [h140.2 j, zS_k (by decide), zS_k (by decide), hY, zS_k (by decide)]
        · refine j_aload_n G dX7_add_94 rfl ?_
          refine j_iconst G dX7_add_95 ?_
          refine j_cVIZ G cvX7_refuse ml7_85 (c_X7_refuse hi ) dX7_add_96 ⟨by decide, by decide⟩ (by first | exact ⟨by decide, by decide⟩ | (constructor <;> dsimp only <;> omega)) rfl rfl (Nat.le_of_ble_eq_true rfl) (by first | assumption | decide) rfl rfl rfl (fun r96 Z96 h96 => ?_)
          refine jr_GI G hQ hr dX7_add_99 (by first | decide | omega) (by first | decide | omega) ?_
          have hnot : ¬ ((0 < S 0 0 5 ∧ ∀ d, 0 ≤ d → d < S 0 0 5 → S 4 d (S 2 d 5) = S 2 d 3) ∧ S 6 0 3 < 80) := fun z => by
            have := h4.mpr ⟨⟨z.1.1, z.2⟩, z.1.2⟩
            omega
          have h96' := h96.2
          rw [hY] at h96'
          exact ⟨Or.inr (Or.inr ⟨hvv, hnot, h96.1, hRL, MTH.up h96'⟩), (EXT.rf L g).m _, by first | rfl | trivial⟩
      · exfalso; omega
    | succ n ih =>
      intro a b h0 h1 h2 h3 h4
      have hda : 0 ≤ a ∧ a < S 0 0 5 := by omega
      have ht := hW.t hda.1 hda.2
      have ht1 := ht.1
      have hd4 := hS1.d h0 (by omega)
      have hpm : 0 ≤ S 2 a 5 ∧ S 2 a 5 < S 2 a 4 := by omega
      have hmk := ht.at hpm.1 hpm.2
      unfold MOK at hmk
      have hh1 : 0 ≤ a + 1 := by omega
      have hh2 : a + 1 ≤ S 0 0 5 := by omega
      have hh3 : (S 0 0 5 - (a + 1)).toNat = n := by omega
      have hstep := fun c => fun hc => all_step (P := fun e => (0 < S 0 0 5 ∧ S 6 0 3 < 80) ∧ S 4 e (S 2 e 5) = S 2 e 3) (b := b) (c := c) h0 hc
      refine j_iload_n G dX7_add_48 rfl ?_
      refine j_aload_n G dX7_add_49 rfl ?_
      refine gf_24_1 G dX7_add_50 lf7_56 (by first | assumption | decide) ?_
      refine j_icmp_ge G 90 dX7_add_53 (by decide) (by omega) (by omega) (fun c53 => ?_) (fun c53 => ?_)
      · exfalso; omega
      · refine j_iload_n G dX7_add_56 rfl ?_
        refine j_aload_n G dX7_add_57 rfl ?_
        refine j_iload_n G dX7_add_58 rfl ?_
        refine j_aload_n G dX7_add_59 rfl ?_
        refine gf_24_6 G dX7_add_60 lf7_26 (by first | assumption | decide) ?_
        refine j_iload_n G dX7_add_63 rfl ?_
        refine al_31 G dX7_add_64 (by first | assumption | decide) (by omega) (by omega) ?_
        rw [hd4.2.2.1]
        refine j_cVI G cvX7_depth ml7_67 (c_X7_depth hi hS1 hW hda hpm) dX7_add_65 ⟨by decide, by decide⟩ (by first | exact ⟨by decide, by decide⟩ | (constructor <;> dsimp only <;> omega)) rfl rfl (Nat.le_of_ble_eq_true rfl) (by first | assumption | decide) rfl rfl rfl (fun r65 h65 => ?_)
        subst h65
        refine j_aload_n G dX7_add_68 rfl ?_
        refine gf_24_2 G dX7_add_69 lf7_9 (by first | assumption | decide) ?_
        refine j_iload_n G dX7_add_72 rfl ?_
        refine al_25 G dX7_add_73 (by first | assumption | decide) (by omega) (by omega) ?_
        rw [hd4.1]
        refine j_icmp_ne G 81 dX7_add_74 (by decide) (by omega) (by omega) (fun c74 => ?_) (fun c74 => ?_)
        · refine j_iconst G dX7_add_81 ?_
          refine j_iand G dX7_add_82 (and_01 h3 (by decide)) ?_
          refine j_istore_n G dX7_add_83 (by decide) rfl ?_
          refine j_iinc G dX7_add_84 rfl (by decide) rfl ?_
          refine j_goto G 48 dX7_add_87 (by decide) ?_
          refine ih (a + 1) _ hh1 hh2 hh3 if_01 ?_
          constructor
          · intro z
            have hb : b = 1 := Classical.byContradiction fun y => by
              rw [if_neg (fun w => y w.1)] at z
              omega
            refine ⟨(h4.mp hb).1, fun e e0 e1 => ?_⟩
            by_cases q : e = a
            · subst q
              first
              | assumption
              | (exfalso; rw [if_neg (fun w => absurd w.2 (by decide))] at z; omega)
            · exact (h4.mp hb).2 e e0 (by omega)
          · intro z
            have hb := h4.mpr ⟨z.1, fun e e0 e1 => z.2 e e0 (by omega)⟩
            have hc := z.2 a h0 (by omega)
            first
            | exact if_pos ⟨hb, rfl⟩
            | (exfalso; exact absurd hc (by assumption))
        · refine j_iconst G dX7_add_77 ?_
          refine j_goto G 82 dX7_add_78 (by decide) ?_
          refine j_iand G dX7_add_82 (and_01 h3 (by decide)) ?_
          refine j_istore_n G dX7_add_83 (by decide) rfl ?_
          refine j_iinc G dX7_add_84 rfl (by decide) rfl ?_
          refine j_goto G 48 dX7_add_87 (by decide) ?_
          refine ih (a + 1) _ hh1 hh2 hh3 if_01 ?_
          constructor
          · intro z
            have hb : b = 1 := Classical.byContradiction fun y => by
              rw [if_neg (fun w => y w.1)] at z
              omega
            refine ⟨(h4.mp hb).1, fun e e0 e1 => ?_⟩
            by_cases q : e = a
            · subst q
              first
              | assumption
              | (exfalso; rw [if_neg (fun w => absurd w.2 (by decide))] at z; omega)
            · exact (h4.mp hb).2 e e0 (by omega)
          · intro z
            have hb := h4.mpr ⟨z.1, fun e e0 e1 => z.2 e e0 (by omega)⟩
            have hc := z.2 a h0 (by omega)
            first
            | exact if_pos ⟨hb, rfl⟩
            | (exfalso; exact absurd hc (by assumption))
  refine j_aload_n G dX7_add_0 rfl ?_
  refine j_iconst G dX7_add_1 ?_
  refine pf_24_0 G dX7_add_2 lf7_52 (by first | assumption | decide) ?_
  refine j_iload_n G dX7_add_5 rfl ?_
  refine j_sipush G dX7_add_6 (by decide +kernel) ?_
  refine j_sipush G dX7_add_9 (by decide +kernel) ?_
  refine j_cSI G csX7_is ml7_59 rfl (c_X7_is hi hv hlo hhi) dX7_add_12 ⟨by decide, by decide⟩ (by first | exact ⟨by decide, by decide⟩ | (constructor <;> dsimp only <;> omega)) rfl rfl (Nat.le_of_ble_eq_true rfl) (fun r12 h12 => ?_)
  refine j_if_ne G 24 dX7_add_15 (by decide) (by omega) (fun c15 => ?_) (fun c15 => ?_)
  · refine j_aload_n G dX7_add_24 rfl ?_
    refine gf_24_1 G dX7_add_25 lf7_56 (by first | assumption | decide) ?_
    try simp (config := { decide := true }) only [zS_k, zS_s, zS_j, ne_eq]
    refine j_if_le G 44 dX7_add_28 (by decide) (by omega) (fun c28 => ?_) (fun c28 => ?_)
    · refine j_iconst G dX7_add_44 ?_
      refine j_istore_n G dX7_add_45 (by decide) rfl ?_
      refine j_iconst G dX7_add_46 ?_
      refine j_istore_n G dX7_add_47 (by decide) rfl ?_
      rw [← hY]
      refine loop (by omega) _ 0 _ (by omega) (by omega) rfl (by decide) ⟨fun z => ⟨⟨by omega, by omega⟩, fun e e0 e1 => by omega⟩, fun z => by omega⟩
    · refine j_aload_n G dX7_add_31 rfl ?_
      refine gf_24_8 G dX7_add_32 lf7_89 (by first | assumption | decide) ?_
      try simp (config := { decide := true }) only [zS_k, zS_s, zS_j, ne_eq]
      refine j_bipush G dX7_add_35 (by decide +kernel) ?_
      refine j_icmp_ge G 44 dX7_add_37 (by decide) (by omega) (by omega) (fun c37 => ?_) (fun c37 => ?_)
      · refine j_iconst G dX7_add_44 ?_
        refine j_istore_n G dX7_add_45 (by decide) rfl ?_
        refine j_iconst G dX7_add_46 ?_
        refine j_istore_n G dX7_add_47 (by decide) rfl ?_
        rw [← hY]
        refine loop (by omega) _ 0 _ (by omega) (by omega) rfl (by decide) ⟨fun z => ⟨⟨by omega, by omega⟩, fun e e0 e1 => by omega⟩, fun z => by omega⟩
      · refine j_iconst G dX7_add_40 ?_
        refine j_goto G 45 dX7_add_41 (by decide) ?_
        refine j_istore_n G dX7_add_45 (by decide) rfl ?_
        refine j_iconst G dX7_add_46 ?_
        refine j_istore_n G dX7_add_47 (by decide) rfl ?_
        rw [← hY]
        refine loop (by omega) _ 0 _ (by omega) (by omega) rfl (by decide) ⟨fun z => ⟨⟨by omega, by omega⟩, fun e e0 e1 => by omega⟩, fun z => by omega⟩
  · refine j_aload_n G dX7_add_18 rfl ?_
    refine j_iconst G dX7_add_19 ?_
    refine j_cVIZ G cvX7_refuse ml7_85 (c_X7_refuse hi ) dX7_add_20 ⟨by decide, by decide⟩ (by first | exact ⟨by decide, by decide⟩ | (constructor <;> dsimp only <;> omega)) rfl rfl (Nat.le_of_ble_eq_true rfl) (by first | assumption | decide) rfl rfl rfl (fun r20 Z20 h20 => ?_)
    refine jr_GI G hQ hr dX7_add_23 (by first | decide | omega) (by first | decide | omega) ?_
    try simp (config := { decide := true }) only [zS_k, zS_s, zS_j, ne_eq]
    exact ⟨Or.inr (Or.inl ⟨by omega, h20.1, hRL, MTH.up h20.2⟩), (EXT.rf L g).m _, by first | rfl | trivial⟩
set_option maxRecDepth 100000 in
set_option maxHeartbeats 8000000 in
theorem c_X7_drop {l : Launch} {D : va_G} {cys : Nat → ClassId} {ad : Nat → Int → Nat} {L : List Nat} {g : Nat → va_E} {X : Int64} {Z : ZT} (hi : injA ad) {S T : ZT} {q : Int} (hS : RMZ S Z) (hRL : RML cys ad S L g) (hW : WF S) (hq : inR q) (hT : (0 ≤ q ∧ q < S 6 0 3) → M_drop S q T) : CMH l D cys ad yX7_drop cX7_drop 4 (some .int) 2 43 0 0 [.ref (ad 24 0), .int (iI q)] L g X Z (PGI L g X Z (fun r L9 g9 X9 Z9 => (((0 ≤ q ∧ q < S 6 0 3) ∧ r = S 9 0 q ∧ RML cys ad T L9 g9 ∧ (∀ k, k ≠ 34 → k ≠ 38 → Z9 k = zS (zS Z 24 0 0 0) 24 0 8 (S 6 0 3 - 1) k) ∧ (∀ k, Z9 34 0 k = gapF q (S 6 0 3 - 1) (Z 34 0) k) ∧ ∀ j, Z9 38 0 j = if 0 ≤ j ∧ j < (6 : Nat) then 1 else Z 38 0 j) ∨ (¬ (0 ≤ q ∧ q < S 6 0 3) ∧ r = 0 ∧ RML cys ad S L9 g9 ∧ MTH 1 Z Z9)) ∧ EXM (ad 33 0) L g L9 g9 ∧ X9 = X)) := by
  refine cmh_start hi (by decide +kernel) (Nat.le_of_ble_eq_true rfl) ?_
  intro p_ e_ s_ m_ args_ below_ meth_ c_ A_ Q_ hQ G hr hk4
  have hn := hW.n
  have hf := hW.f
  have e8 := hS.a.2.1
  have h0r : inR 0 := by decide
  have hbr : inR (Z 24 0 8 - 1) := by omega
  have K := hRL
  obtain ⟨⟨hm, hns⟩, lf, hg, hk⟩ := K
  have hstep : ∀ (a : Int) (f h : Int → Int), q ≤ a → (∀ k, f k = gapF q a h k) → ∀ k, (if k = a then f (a + 1) else f k) = gapF q (a + 1) h k := by
    intro a f h h0 h1 k
    rw [h1, h1]
    unfold gapF
    by_cases e2 : k = a
    · subst e2
      rw [if_pos rfl, if_neg (by omega), if_pos (by omega)]
    · rw [if_neg e2]
      by_cases e3 : q ≤ k ∧ k < a
      · rw [if_pos e3, if_pos (by omega)]
      · rw [if_neg e3, if_neg (by omega)]
  have loop : (0 ≤ q ∧ q < S 6 0 3) → ∀ (n : Nat) (a : Int) (Y : ZT) (g' : Nat → va_E) (f : Nat → Option Nat), q ≤ a → a < S 6 0 3 → (S 6 0 3 - 1 - a).toNat = n → (∀ k, k ≠ 34 → Y k = zS (zS Z 24 0 0 0) 24 0 8 (S 6 0 3 - 1) k) → (∀ k, Y 34 0 k = gapF q a (Z 34 0) k) → g' (ad 33 0) = eQ (cys 4) 80 f → (∀ x, x ≠ ad 33 0 → g' x = g x) → (∀ k : Nat, f k = if q ≤ (k : Int) ∧ (k : Int) < a then lf (k + 1) else lf k) → JJ p_ l e_ { frames := 2, cells := 0, slots := 0, locals := 43 } s_ m_ args_ below_ meth_ c_ D cys ad A_ Q_ 4 0 0 L g' X Y 44 [(0, .ref (ad 24 0)), (1, .int (iI q)), (2, .int (iI (Z 34 0 q))), (3, .int (iI a))] [] := by
    intro hq2 n
    induction n with
    | zero =>
      intro a Y g' f h0 h1 h2 h3 h4 hg' ho hf'
      have e : Y 24 0 8 = S 6 0 3 - 1 := by rw [h3 24 (by decide), zS_s]
      have ea : a = S 6 0 3 - 1 := by omega
      subst ea
      refine j_iload_n G dX7_drop_44 rfl ?_
      refine j_aload_n G dX7_drop_45 rfl ?_
      refine gf_24_8 G dX7_drop_46 lf7_89 (by first | assumption | decide) ?_
      refine j_icmp_ge G 86 dX7_drop_49 (by decide) (by omega) (by omega) (fun c49 => ?_) (fun c49 => ?_)
      · refine j_aload_n G dX7_drop_86 rfl ?_
        refine j_cVVZ G cvX7_stale ml7_103 (c_X7_stale hi ) dX7_drop_87 ⟨by decide, by decide⟩ (by first | exact ⟨by decide, by decide⟩ | (constructor <;> dsimp only <;> omega)) rfl rfl (Nat.le_of_ble_eq_true rfl) (by first | assumption | decide) rfl rfl rfl (fun Z87 h87 => ?_)
        refine j_iload_n G dX7_drop_90 rfl ?_
        refine jr_GI G hQ hr dX7_drop_91 (by first | decide | omega) (by first | decide | omega) ?_
        have hR2 := RML.dropF hm hns hk (hT hq2) hn.2 hq2.1 hg' ho hf'
        refine ⟨Or.inl ⟨hq2, hS.v hq2.1 hq2.2, hR2, fun k k1 k2 => ?_, fun k => ?_, fun j => ?_⟩, ⟨fun _ z => z, fun x _ hx => ho x hx⟩, by first | rfl | trivial⟩
        · funext i
          rw [h87.1 k i (fun z => k2 z.1), h3 k k1]
        · rw [h87.1 34 0 (by decide), h4]
        · rw [h87.2 j, h3 38 (by decide), zS_k (by decide), zS_k (by decide)]
      · exfalso; omega
    | succ n ih =>
      intro a Y g' f h0 h1 h2 h3 h4 hg' ho hf'
      have e : Y 24 0 8 = S 6 0 3 - 1 := by rw [h3 24 (by decide), zS_s]
      obtain ⟨b0, W0, q1, ⟨q2, q3, q4, q5, q6⟩, q7⟩ := hk (a + 1) (by omega) (by omega)
      have hf1 : f (a + 1).toNat = some b0 := by rw [hf', if_neg (by omega)]; exact q1
      have q4' : g' b0 = dA cys W0 := by rw [ho b0 q7]; exact q4
      have hea : (((a.toNat : Nat) : Int)) = a := Int.toNat_of_nonneg (by omega)
      refine j_iload_n G dX7_drop_44 rfl ?_
      refine j_aload_n G dX7_drop_45 rfl ?_
      refine gf_24_8 G dX7_drop_46 lf7_89 (by first | assumption | decide) ?_
      refine j_icmp_ge G 86 dX7_drop_49 (by decide) (by omega) (by omega) (fun c49 => ?_) (fun c49 => ?_)
      · exfalso; omega
      · refine j_aload_n G dX7_drop_52 rfl ?_
        refine gf_24_9 G dX7_drop_53 lf7_33 (by first | assumption | decide) ?_
        refine j_iload_n G dX7_drop_56 rfl ?_
        refine j_aload_n G dX7_drop_57 rfl ?_
        refine gf_24_9 G dX7_drop_58 lf7_33 (by first | assumption | decide) ?_
        refine j_iload_n G dX7_drop_61 rfl ?_
        refine j_iconst G dX7_drop_62 ?_
        refine j_iadd G dX7_drop_63 ?_
        refine j_daldA G 4 (t := .int) dX7_drop_64 hm hns hg' rfl (by decide) (by omega) (by omega) hf1 ?_
        refine j_aastI G hk4 dX7_drop_65 hm hns hg' ⟨q2, q3, q4'⟩ (by decide) (by omega) (by omega) ?_
        refine j_aload_n G dX7_drop_66 rfl ?_
        refine gf_24_10 G dX7_drop_67 lf7_36 (by first | assumption | decide) ?_
        refine j_iload_n G dX7_drop_70 rfl ?_
        refine j_aload_n G dX7_drop_71 rfl ?_
        refine gf_24_10 G dX7_drop_72 lf7_36 (by first | assumption | decide) ?_
        refine j_iload_n G dX7_drop_75 rfl ?_
        refine j_iconst G dX7_drop_76 ?_
        refine j_iadd G dX7_drop_77 ?_
        refine al_34 G dX7_drop_78 (by first | assumption | decide) (by omega) (by omega) ?_
        refine as_34 G dX7_drop_79 (by first | assumption | decide) (by omega) (by omega) ?_
        refine j_iinc G dX7_drop_80 rfl (by decide) rfl ?_
        refine j_goto G 44 dX7_drop_83 (by decide) ?_
        refine ih (a + 1) _ _ _ (by omega) (by omega) (by omega) (fun k k1 => ?_) (fun k => ?_) (va_up_self _ _ _) (fun x hx => ?_) (fun k => ?_)
        · rw [zS_k k1]; exact h3 k k1
        · rw [zS_v]; exact hstep a _ _ h0 h4 k
        · rw [va_up_ne _ _ hx]; exact ho x hx
        · by_cases ek : k = a.toNat
          · subst ek
            rw [va_up_self, if_pos (by omega), ← q1]
            congr 1
            omega
          · rw [va_up_ne _ _ ek, hf']
            by_cases e3 : q ≤ (k : Int) ∧ (k : Int) < a
            · rw [if_pos e3, if_pos (by omega)]
            · rw [if_neg e3, if_neg (by omega)]
  refine j_aload_n G dX7_drop_0 rfl ?_
  refine j_iconst G dX7_drop_1 ?_
  refine pf_24_0 G dX7_drop_2 lf7_52 (by first | assumption | decide) ?_
  refine j_iload_n G dX7_drop_5 rfl ?_
  refine j_iconst G dX7_drop_6 ?_
  refine j_aload_n G dX7_drop_7 rfl ?_
  refine gf_24_8 G dX7_drop_8 lf7_89 (by first | assumption | decide) ?_
  try simp (config := { decide := true }) only [zS_k, zS_s, zS_j, ne_eq]
  refine j_iconst G dX7_drop_11 ?_
  refine j_isub G dX7_drop_12 ?_
  refine j_cSI G csX7_is ml7_59 rfl (c_X7_is hi hq h0r hbr) dX7_drop_13 ⟨by decide, by decide⟩ (by first | exact ⟨by decide, by decide⟩ | (constructor <;> dsimp only <;> omega)) rfl rfl (Nat.le_of_ble_eq_true rfl) (fun r13 h13 => ?_)
  refine j_if_ne G 25 dX7_drop_16 (by decide) (by omega) (fun c16 => ?_) (fun c16 => ?_)
  · refine j_aload_n G dX7_drop_25 rfl ?_
    refine gf_24_10 G dX7_drop_26 lf7_36 (by first | assumption | decide) ?_
    refine j_iload_n G dX7_drop_29 rfl ?_
    refine al_34 G dX7_drop_30 (by first | assumption | decide) (by omega) (by omega) ?_
    try simp (config := { decide := true }) only [zS_k, zS_s, zS_j, ne_eq]
    refine j_istore_n G dX7_drop_31 (by decide) rfl ?_
    refine j_aload_n G dX7_drop_32 rfl ?_
    refine j_dup G dX7_drop_33 rfl ?_
    refine gf_24_8 G dX7_drop_34 lf7_89 (by first | assumption | decide) ?_
    try simp (config := { decide := true }) only [zS_k, zS_s, zS_j, ne_eq]
    refine j_iconst G dX7_drop_37 ?_
    refine j_isub G dX7_drop_38 ?_
    rw [e8]
    refine pf_24_8 G dX7_drop_39 lf7_89 (by first | assumption | decide) ?_
    refine j_iload_n G dX7_drop_42 rfl ?_
    refine j_istore_n G dX7_drop_43 (by decide) rfl ?_
    refine loop (by omega) _ q _ g lf (by omega) (by omega) rfl (fun _ _ => rfl) (fun k => ?_) hg (fun _ _ => rfl) (fun k => ?_)
    · rw [zS_k (by decide), zS_k (by decide)]; unfold gapF; rw [if_neg (by omega)]
    · rw [if_neg (by omega)]
  · refine j_aload_n G dX7_drop_19 rfl ?_
    refine j_iconst G dX7_drop_20 ?_
    refine j_cVIZ G cvX7_refuse ml7_85 (c_X7_refuse hi ) dX7_drop_21 ⟨by decide, by decide⟩ (by first | exact ⟨by decide, by decide⟩ | (constructor <;> dsimp only <;> omega)) rfl rfl (Nat.le_of_ble_eq_true rfl) (by first | assumption | decide) rfl rfl rfl (fun r21 Z21 h21 => ?_)
    refine jr_GI G hQ hr dX7_drop_24 (by first | decide | omega) (by first | decide | omega) ?_
    try simp (config := { decide := true }) only [zS_k, zS_s, zS_j, ne_eq]
    exact ⟨Or.inr ⟨by omega, h21.1, hRL, MTH.up h21.2⟩, (EXT.rf L g).m _, by first | rfl | trivial⟩

