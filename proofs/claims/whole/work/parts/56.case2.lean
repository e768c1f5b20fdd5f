/-! by program: wip/whole/genl.py: cases of the law's switch -/
theorem dL_law_1016 : decode code 1016 = .ok (.aload_n 1, 1) := by decide +kernel
theorem dL_law_1017 : decode code 1017 = .ok (.aload_n 0, 1) := by decide +kernel
theorem dL_law_1018 : decode code 1018 = .ok (.iload 4, 2) := by decide +kernel
theorem dL_law_1020 : decode code 1020 = .ok (.iconst 1, 1) := by decide +kernel
theorem dL_law_1021 : decode code 1021 = .ok (.iadd, 1) := by decide +kernel
theorem dL_law_1022 : decode code 1022 = .ok (.iaload, 1) := by decide +kernel
theorem dL_law_1023 : decode code 1023 = .ok (.aload_n 3, 1) := by decide +kernel
theorem dL_law_1024 : decode code 1024 = .ok (.invokestatic 171, 3) := by decide +kernel
theorem dL_law_1027 : decode code 1027 = .ok (.istore 5, 2) := by decide +kernel
theorem dL_law_1029 : decode code 1029 = .ok (.aload_n 2, 1) := by decide +kernel
theorem dL_law_1030 : decode code 1030 = .ok (.aload_n 0, 1) := by decide +kernel
theorem dL_law_1031 : decode code 1031 = .ok (.iload 4, 2) := by decide +kernel
theorem dL_law_1033 : decode code 1033 = .ok (.iconst 1, 1) := by decide +kernel
theorem dL_law_1034 : decode code 1034 = .ok (.iadd, 1) := by decide +kernel
theorem dL_law_1035 : decode code 1035 = .ok (.iaload, 1) := by decide +kernel
theorem dL_law_1036 : decode code 1036 = .ok (.invokevirtual 173, 3) := by decide +kernel
theorem dL_law_1039 : decode code 1039 = .ok (.istore 6, 2) := by decide +kernel
theorem dL_law_1041 : decode code 1041 = .ok (.aload_n 2, 1) := by decide +kernel
theorem dL_law_1042 : decode code 1042 = .ok (.invokevirtual 131, 3) := by decide +kernel
theorem dL_law_1045 : decode code 1045 = .ok (.iload 5, 2) := by decide +kernel
theorem dL_law_1047 : decode code 1047 = .ok (.if_icmp .eq 5, 3) := by decide +kernel
theorem dL_law_1052 : decode code 1052 = .ok (.iload 5, 2) := by decide +kernel
theorem dL_law_1054 : decode code 1054 = .ok (.ifCond .ne 15, 3) := by decide +kernel
theorem dL_law_1057 : decode code 1057 = .ok (.aload_n 3, 1) := by decide +kernel
theorem dL_law_1058 : decode code 1058 = .ok (.iconst 0, 1) := by decide +kernel
theorem dL_law_1059 : decode code 1059 = .ok (.laload, 1) := by decide +kernel
theorem dL_law_1060 : decode code 1060 = .ok (.iload 6, 2) := by decide +kernel
theorem dL_law_1062 : decode code 1062 = .ok (.i2l, 1) := by decide +kernel
theorem dL_law_1063 : decode code 1063 = .ok (.lcmp, 1) := by decide +kernel
theorem dL_law_1064 : decode code 1064 = .ok (.ifCond .eq 5, 3) := by decide +kernel
theorem dL_law_1069 : decode code 1069 = .ok (.goto 1509, 3) := by decide +kernel
theorem dL_law_1072 : decode code 1072 = .ok (.aload_n 1, 1) := by decide +kernel
theorem dL_law_1073 : decode code 1073 = .ok (.aload_n 0, 1) := by decide +kernel
theorem dL_law_1074 : decode code 1074 = .ok (.iload 4, 2) := by decide +kernel
theorem dL_law_1076 : decode code 1076 = .ok (.iconst 1, 1) := by decide +kernel
theorem dL_law_1077 : decode code 1077 = .ok (.iadd, 1) := by decide +kernel
theorem dL_law_1078 : decode code 1078 = .ok (.iaload, 1) := by decide +kernel
theorem dL_law_1079 : decode code 1079 = .ok (.aload_n 3, 1) := by decide +kernel
theorem dL_law_1080 : decode code 1080 = .ok (.invokestatic 174, 3) := by decide +kernel
theorem dL_law_1083 : decode code 1083 = .ok (.istore 5, 2) := by decide +kernel
theorem dL_law_1085 : decode code 1085 = .ok (.aload_n 2, 1) := by decide +kernel
theorem dL_law_1086 : decode code 1086 = .ok (.aload_n 0, 1) := by decide +kernel
theorem dL_law_1087 : decode code 1087 = .ok (.iload 4, 2) := by decide +kernel
theorem dL_law_1089 : decode code 1089 = .ok (.iconst 1, 1) := by decide +kernel
theorem dL_law_1090 : decode code 1090 = .ok (.iadd, 1) := by decide +kernel
theorem dL_law_1091 : decode code 1091 = .ok (.iaload, 1) := by decide +kernel
theorem dL_law_1092 : decode code 1092 = .ok (.invokevirtual 176, 3) := by decide +kernel
theorem dL_law_1095 : decode code 1095 = .ok (.istore 6, 2) := by decide +kernel
theorem dL_law_1097 : decode code 1097 = .ok (.aload_n 2, 1) := by decide +kernel
theorem dL_law_1098 : decode code 1098 = .ok (.invokevirtual 131, 3) := by decide +kernel
theorem dL_law_1101 : decode code 1101 = .ok (.iload 5, 2) := by decide +kernel
theorem dL_law_1103 : decode code 1103 = .ok (.if_icmp .eq 5, 3) := by decide +kernel
theorem dL_law_1108 : decode code 1108 = .ok (.iload 5, 2) := by decide +kernel
theorem dL_law_1110 : decode code 1110 = .ok (.ifCond .ne 15, 3) := by decide +kernel
theorem dL_law_1113 : decode code 1113 = .ok (.aload_n 3, 1) := by decide +kernel
theorem dL_law_1114 : decode code 1114 = .ok (.iconst 0, 1) := by decide +kernel
theorem dL_law_1115 : decode code 1115 = .ok (.laload, 1) := by decide +kernel
theorem dL_law_1116 : decode code 1116 = .ok (.iload 6, 2) := by decide +kernel
theorem dL_law_1118 : decode code 1118 = .ok (.i2l, 1) := by decide +kernel
theorem dL_law_1119 : decode code 1119 = .ok (.lcmp, 1) := by decide +kernel
theorem dL_law_1120 : decode code 1120 = .ok (.ifCond .eq 5, 3) := by decide +kernel
theorem dL_law_1125 : decode code 1125 = .ok (.goto 1453, 3) := by decide +kernel
theorem dL_law_1128 : decode code 1128 = .ok (.aload_n 1, 1) := by decide +kernel
theorem dL_law_1129 : decode code 1129 = .ok (.invokevirtual 177, 3) := by decide +kernel
theorem dL_law_1132 : decode code 1132 = .ok (.aload_n 2, 1) := by decide +kernel
theorem dL_law_1133 : decode code 1133 = .ok (.invokevirtual 180, 3) := by decide +kernel
theorem dL_law_1136 : decode code 1136 = .ok (.if_icmp .eq 1442, 3) := by decide +kernel
theorem dL_law_1141 : decode code 1141 = .ok (.aload_n 1, 1) := by decide +kernel
theorem dL_law_1142 : decode code 1142 = .ok (.invokevirtual 181, 3) := by decide +kernel
theorem dL_law_1145 : decode code 1145 = .ok (.aload_n 2, 1) := by decide +kernel
theorem dL_law_1146 : decode code 1146 = .ok (.invokevirtual 184, 3) := by decide +kernel
theorem dL_law_1149 : decode code 1149 = .ok (.if_icmp .eq 1429, 3) := by decide +kernel
theorem dL_law_1154 : decode code 1154 = .ok (.aload_n 1, 1) := by decide +kernel
theorem dL_law_1155 : decode code 1155 = .ok (.invokevirtual 185, 3) := by decide +kernel
theorem dL_law_1158 : decode code 1158 = .ok (.aload_n 2, 1) := by decide +kernel
theorem dL_law_1159 : decode code 1159 = .ok (.invokevirtual 188, 3) := by decide +kernel
theorem dL_law_1162 : decode code 1162 = .ok (.if_icmp .eq 1416, 3) := by decide +kernel
theorem dL_law_1167 : decode code 1167 = .ok (.aload_n 1, 1) := by decide +kernel
theorem dL_law_1168 : decode code 1168 = .ok (.invokevirtual 189, 3) := by decide +kernel
theorem dL_law_1171 : decode code 1171 = .ok (.aload_n 2, 1) := by decide +kernel
theorem dL_law_1172 : decode code 1172 = .ok (.invokevirtual 192, 3) := by decide +kernel
theorem dL_law_1175 : decode code 1175 = .ok (.if_icmp .eq 1403, 3) := by decide +kernel
set_option maxRecDepth 100000 in
set_option maxHeartbeats 8000000 in
theorem case_12 {p : Program} {l : Launch} {e : Env} {s : State} {m : MethodId} {below : List Frame} {meth : Method} {c : Code} {Q : State → Prop} {D : va_G} {cys : Nat → ClassId} {ad : Nat → Int → Nat} {b Ls : Nat} {xs : Nat → Int32} (hi : injA ad) (hst : l.stackTraces = false) (G : GG p l s m #[Value.ref b] meth c D cys ad (fun q => s.heap.size ≤ q) code RL 9) (hN : NCS s) (hk4 : HK4 cys s) (hX : va_X b Ls xs s s.heap) (hbl : b < s.heap.size) (hL : Ls ≤ 2560) {L : List Nat} {g : Nat → va_E} {X : Int64} {Z : ZT} {ao : Nat} (hI : INV cys ad ao L g Z) {i : Int} (hi0 : 0 ≤ i) (hi5 : i + 5 ≤ Ls) {cells slots : Nat} (hc : cells + 200 ≤ 601024) (hs : slots + 3000 ≤ 7293034)
    (K : ∀ (L1 : List Nat) (g1 : Nat → va_E) (X1 : Int64) (Z1 : ZT), INV cys ad ao L1 g1 Z1 → JJ p l e room_1 s m #[Value.ref b] below meth c D cys ad (fun q => s.heap.size ≤ q) Q 9 (cells + 200) (slots + 3000) L1 g1 X1 Z1 2578 (LV5 b ad ao i) []) :
    JJ p l e room_1 s m #[Value.ref b] below meth c D cys ad (fun q => s.heap.size ≤ q) Q 9 cells slots L g X Z 1016 (LV5 b ad ao i) [] := by
  obtain ⟨hG, hRL, ⟨hao, hns, h33⟩, v0, hgo⟩ := hI
  have hW := hG.1.1
  have hbA : ¬ (fun q => s.heap.size ≤ q) b := Nat.not_le.mpr hbl
  refine j_aload_n G dL_law_1016 rfl ?_
  refine j_aload_n G dL_law_1017 rfl ?_
  refine j_iload G dL_law_1018 rfl ?_
  refine j_iconst G dL_law_1020 ?_
  refine j_iadd G dL_law_1021 ?_
  refine j_sld G hX hbl hbA dL_law_1022 (by omega) (by omega) hL ?_
  refine j_aload_n G dL_law_1023 rfl ?_
  refine j_callW (n := 3) G hN (TW_of 745 (by decide +kernel) (by decide +kernel)) (TW_of 71 (by decide +kernel) (by decide +kernel)) (TW_of 746 (by decide +kernel) (by decide +kernel)) ⟨by decide +kernel, by decide +kernel, by decide +kernel⟩ (TW_of 744 (by decide +kernel) (by decide +kernel)) (cw_add hi hst (SP.rf Z) hW (sv_in _ _) hao hns hgo) dL_law_1024 ⟨by decide, by decide⟩ ⟨by rw [r1c]; omega, by rw [r1s]; omega⟩ rfl rfl (Nat.le_of_ble_eq_true rfl) (fun k L1 g1 X1 Z1 h => ?_)
  obtain ⟨eL, eX, v9, eg, hA⟩ := h
  subst L1 X1 g1
  have hR1 : RMZ Z Z1 := hG.2.hi (hi_add hA)
  have hRL1 := hRL.out h33 hgo v9
  have hgo1 : va_up g ao (OUT cys v9) ao = OUT cys v9 := va_up_self _ _ _
  refine j_istore G dL_law_1027 (by decide) rfl ?_
  refine j_aload_n G dL_law_1029 rfl ?_
  refine j_aload_n G dL_law_1030 rfl ?_
  refine j_iload G dL_law_1031 rfl ?_
  refine j_iconst G dL_law_1033 ?_
  refine j_iadd G dL_law_1034 ?_
  refine j_sld G hX hbl hbA dL_law_1035 (by omega) (by omega) hL ?_
  have hT1 : (-10000 ≤ (sv xs (i + 1)) ∧ (sv xs (i + 1)) ≤ 10000) → ((0 < Z 0 0 5 ∧ ∀ d, 0 ≤ d → d < Z 0 0 5 → Z 4 d (Z 2 d 5) = Z 2 d 3) ∧ Z 6 0 3 < 80) → M_add Z (sv xs (i + 1)) Z1 := fun u1 u2 => by
    unfold WP_add at hA
    rcases hA with ⟨-, r, hP, -⟩ | ⟨-, hP⟩ | ⟨-, hP⟩
    · exact hP.2.2.2
    · exact absurd u1 hP.1
    · exact absurd u2 hP.1.2
  refine j_cVHGI G hk4 cvX7_add mlL_173 (c_X7_add hi (T := Z1) hR1 hRL1 hW (sv_in _ _) hT1) dL_law_1036 ⟨by decide, by decide⟩ ⟨by rw [r1c]; omega, by rw [r1s]; omega⟩ rfl rfl (Nat.le_of_ble_eq_true rfl) (by decide) rfl rfl rfl (fun x L2 g2 X2 Z2 h2 => ?_)
  obtain ⟨hB0, hE, eX⟩ := h2
  subst X2
  have hao2 : ao ∈ L2 := hE.1 _ hao
  have hgo2 : g2 ao = OUT cys v9 := (hE.2 _ hao h33).trans hgo1
  have hB : MP_add Z Z1 Z2 (sv xs (i + 1)) x := by
    unfold MP_add
    rcases hB0 with z | z | z
    · exact Or.inl ⟨z.1, z.2.1, z.2.2.1, z.2.2.2.2.1, z.2.2.2.2.2⟩
    · exact Or.inr (Or.inl ⟨z.1, z.2.1, z.2.2.2⟩)
    · exact Or.inr (Or.inr ⟨z.1, z.2.1, z.2.2.1, z.2.2.2.2⟩)
  have hag := ag_add hG hA hB
  have hRL2 : RML cys ad Z2 L2 g2 := hag.2.1 cys ad _ _ (by
    unfold WP_add at hA
    rcases hB0 with z | z | z
    · exact z.2.2.2.1
    · rcases hA with ⟨-, r, hP, -⟩ | ⟨-, hP⟩ | ⟨-, hP⟩
      · exact absurd hP.1 z.1
      · rw [hP.2]; exact z.2.2.1
      · rw [hP.2]; exact z.2.2.1
    · rcases hA with ⟨-, r, hP, -⟩ | ⟨-, hP⟩ | ⟨-, hP⟩
      · exact absurd hP.2.1 z.2.1
      · rw [hP.2]; exact z.2.2.2.1
      · rw [hP.2]; exact z.2.2.2.1)
  refine j_istore G dL_law_1039 (by decide) rfl ?_
  refine j_aload_n G dL_law_1041 rfl ?_
  refine j_cVI G cvX7_thrown mlL_131 (c_X7_thrown hi) dL_law_1042 ⟨by decide, by decide⟩ ⟨by rw [r1c]; omega, by rw [r1s]; omega⟩ rfl rfl (Nat.le_of_ble_eq_true rfl) (by decide) rfl rfl rfl (fun t ht => ?_)
  refine j_iload G dL_law_1045 rfl ?_
  refine j_icmpS G 1052 dL_law_1047 (by decide) (ht.trans hag.2.2.1) ?_
  refine j_iload G dL_law_1052 rfl ?_
  have hk02 := hag.2.2.2.2
  refine j_if_ne G 1069 dL_law_1054 (by decide) (by omega) (fun c0 => ?_) (fun c0 => ?_)
  · refine j_goto G 2578 dL_law_1069 (by decide) ?_
    refine j_keep [0, 1, 2, 3, 4] ?_
    refine j_wid (cells' := cells + 200) (slots' := slots + 3000) (by omega) (by omega) ?_
    exact K _ _ _ _ ⟨hag.1, hRL2, ⟨hao2, hns, h33⟩, v9, hgo2⟩
  · refine j_aload_n G dL_law_1057 rfl ?_
    refine j_iconst G dL_law_1058 ?_
    refine j_laldO G dL_law_1059 hao2 hns hgo2 ?_
    refine j_iload G dL_law_1060 rfl ?_
    refine j_i2l G dL_law_1062 ?_
    refine j_lcmpS G dL_law_1063 (hag.2.2.2.1 c0) ?_
    refine j_if_eq G 1069 dL_law_1064 (by decide) (by decide) (fun _ => ?_) (fun h => absurd rfl h)
    refine j_goto G 2578 dL_law_1069 (by decide) ?_
    refine j_keep [0, 1, 2, 3, 4] ?_
    refine j_wid (cells' := cells + 200) (slots' := slots + 3000) (by omega) (by omega) ?_
    exact K _ _ _ _ ⟨hag.1, hRL2, ⟨hao2, hns, h33⟩, v9, hgo2⟩
set_option maxRecDepth 100000 in
set_option maxHeartbeats 8000000 in
theorem case_13 {p : Program} {l : Launch} {e : Env} {s : State} {m : MethodId} {below : List Frame} {meth : Method} {c : Code} {Q : State → Prop} {D : va_G} {cys : Nat → ClassId} {ad : Nat → Int → Nat} {b Ls : Nat} {xs : Nat → Int32} (hi : injA ad) (hst : l.stackTraces = false) (G : GG p l s m #[Value.ref b] meth c D cys ad (fun q => s.heap.size ≤ q) code RL 9) (hN : NCS s) (hk4 : HK4 cys s) (hX : va_X b Ls xs s s.heap) (hbl : b < s.heap.size) (hL : Ls ≤ 2560) {L : List Nat} {g : Nat → va_E} {X : Int64} {Z : ZT} {ao : Nat} (hI : INV cys ad ao L g Z) {i : Int} (hi0 : 0 ≤ i) (hi5 : i + 5 ≤ Ls) {cells slots : Nat} (hc : cells + 200 ≤ 601024) (hs : slots + 3000 ≤ 7293034)
    (K : ∀ (L1 : List Nat) (g1 : Nat → va_E) (X1 : Int64) (Z1 : ZT), INV cys ad ao L1 g1 Z1 → JJ p l e room_1 s m #[Value.ref b] below meth c D cys ad (fun q => s.heap.size ≤ q) Q 9 (cells + 200) (slots + 3000) L1 g1 X1 Z1 2578 (LV5 b ad ao i) []) :
    JJ p l e room_1 s m #[Value.ref b] below meth c D cys ad (fun q => s.heap.size ≤ q) Q 9 cells slots L g X Z 1072 (LV5 b ad ao i) [] := by
  obtain ⟨hG, hRL, ⟨hao, hns, h33⟩, v0, hgo⟩ := hI
  have hW := hG.1.1
  have hbA : ¬ (fun q => s.heap.size ≤ q) b := Nat.not_le.mpr hbl
  refine j_aload_n G dL_law_1072 rfl ?_
  refine j_aload_n G dL_law_1073 rfl ?_
  refine j_iload G dL_law_1074 rfl ?_
  refine j_iconst G dL_law_1076 ?_
  refine j_iadd G dL_law_1077 ?_
  refine j_sld G hX hbl hbA dL_law_1078 (by omega) (by omega) hL ?_
  refine j_aload_n G dL_law_1079 rfl ?_
  refine j_callW (n := 3) G hN (TW_of 759 (by decide +kernel) (by decide +kernel)) (TW_of 71 (by decide +kernel) (by decide +kernel)) (TW_of 760 (by decide +kernel) (by decide +kernel)) ⟨by decide +kernel, by decide +kernel, by decide +kernel⟩ (TW_of 758 (by decide +kernel) (by decide +kernel)) (cw_drop hi hst (SP.rf Z) hW (sv_in _ _) hao hns hgo) dL_law_1080 ⟨by decide, by decide⟩ ⟨by rw [r1c]; omega, by rw [r1s]; omega⟩ rfl rfl (Nat.le_of_ble_eq_true rfl) (fun k L1 g1 X1 Z1 h => ?_)
  obtain ⟨eL, eX, v9, eg, hA⟩ := h
  subst L1 X1 g1
  have hR1 : RMZ Z Z1 := hG.2.hi (hi_drop hA)
  have hRL1 := hRL.out h33 hgo v9
  have hgo1 : va_up g ao (OUT cys v9) ao = OUT cys v9 := va_up_self _ _ _
  refine j_istore G dL_law_1083 (by decide) rfl ?_
  refine j_aload_n G dL_law_1085 rfl ?_
  refine j_aload_n G dL_law_1086 rfl ?_
  refine j_iload G dL_law_1087 rfl ?_
  refine j_iconst G dL_law_1089 ?_
  refine j_iadd G dL_law_1090 ?_
  refine j_sld G hX hbl hbA dL_law_1091 (by omega) (by omega) hL ?_
  have hT1 : (0 ≤ (sv xs (i + 1)) ∧ (sv xs (i + 1)) < Z 6 0 3) → M_drop Z (sv xs (i + 1)) Z1 := fun u1 => by
    unfold WP_drop at hA
    rcases hA with ⟨-, r, hP, -⟩ | ⟨-, hP⟩
    · exact hP.2.2
    · exact absurd u1 hP.1
  refine j_cVHGI G hk4 cvX7_drop mlL_176 (c_X7_drop hi (T := Z1) hR1 hRL1 hW (sv_in _ _) hT1) dL_law_1092 ⟨by decide, by decide⟩ ⟨by rw [r1c]; omega, by rw [r1s]; omega⟩ rfl rfl (Nat.le_of_ble_eq_true rfl) (by decide) rfl rfl rfl (fun x L2 g2 X2 Z2 h2 => ?_)
  obtain ⟨hB0, hE, eX⟩ := h2
  subst X2
  have hao2 : ao ∈ L2 := hE.1 _ hao
  have hgo2 : g2 ao = OUT cys v9 := (hE.2 _ hao h33).trans hgo1
  have hB : MP_drop Z Z1 Z2 (sv xs (i + 1)) x := by
    unfold MP_drop
    rcases hB0 with z | z
    · exact Or.inl ⟨z.1, z.2.1, z.2.2.2.1, z.2.2.2.2.1, z.2.2.2.2.2⟩
    · exact Or.inr ⟨z.1, z.2.1, z.2.2.2⟩
  have hag := ag_drop hG hA hB
  have hRL2 : RML cys ad Z2 L2 g2 := hag.2.1 cys ad _ _ (by
    unfold WP_drop at hA
    rcases hB0 with z | z
    · exact z.2.2.1
    · rcases hA with ⟨-, r, hP, -⟩ | ⟨-, hP⟩
      · exact absurd hP.1 z.1
      · rw [hP.2]; exact z.2.2.1)
  refine j_istore G dL_law_1095 (by decide) rfl ?_
  refine j_aload_n G dL_law_1097 rfl ?_
  refine j_cVI G cvX7_thrown mlL_131 (c_X7_thrown hi) dL_law_1098 ⟨by decide, by decide⟩ ⟨by rw [r1c]; omega, by rw [r1s]; omega⟩ rfl rfl (Nat.le_of_ble_eq_true rfl) (by decide) rfl rfl rfl (fun t ht => ?_)
  refine j_iload G dL_law_1101 rfl ?_
  refine j_icmpS G 1108 dL_law_1103 (by decide) (ht.trans hag.2.2.1) ?_
  refine j_iload G dL_law_1108 rfl ?_
  have hk02 := hag.2.2.2.2
  refine j_if_ne G 1125 dL_law_1110 (by decide) (by omega) (fun c0 => ?_) (fun c0 => ?_)
  · refine j_goto G 2578 dL_law_1125 (by decide) ?_
    refine j_keep [0, 1, 2, 3, 4] ?_
    refine j_wid (cells' := cells + 200) (slots' := slots + 3000) (by omega) (by omega) ?_
    exact K _ _ _ _ ⟨hag.1, hRL2, ⟨hao2, hns, h33⟩, v9, hgo2⟩
  · refine j_aload_n G dL_law_1113 rfl ?_
    refine j_iconst G dL_law_1114 ?_
    refine j_laldO G dL_law_1115 hao2 hns hgo2 ?_
    refine j_iload G dL_law_1116 rfl ?_
    refine j_i2l G dL_law_1118 ?_
    refine j_lcmpS G dL_law_1119 (hag.2.2.2.1 c0) ?_
    refine j_if_eq G 1125 dL_law_1120 (by decide) (by decide) (fun _ => ?_) (fun h => absurd rfl h)
    refine j_goto G 2578 dL_law_1125 (by decide) ?_
    refine j_keep [0, 1, 2, 3, 4] ?_
    refine j_wid (cells' := cells + 200) (slots' := slots + 3000) (by omega) (by omega) ?_
    exact K _ _ _ _ ⟨hag.1, hRL2, ⟨hao2, hns, h33⟩, v9, hgo2⟩
set_option maxRecDepth 100000 in
set_option maxHeartbeats 8000000 in
theorem case_14 {p : Program} {l : Launch} {e : Env} {s : State} {m : MethodId} {below : List Frame} {meth : Method} {c : Code} {Q : State → Prop} {D : va_G} {cys : Nat → ClassId} {ad : Nat → Int → Nat} {b Ls : Nat} {xs : Nat → Int32} (hi : injA ad) (hst : l.stackTraces = false) (G : GG p l s m #[Value.ref b] meth c D cys ad (fun q => s.heap.size ≤ q) code RL 9) (hN : NCS s) (hk4 : HK4 cys s) (hX : va_X b Ls xs s s.heap) (hbl : b < s.heap.size) (hL : Ls ≤ 2560) {L : List Nat} {g : Nat → va_E} {X : Int64} {Z : ZT} {ao : Nat} (hI : INV cys ad ao L g Z) {i : Int} (hi0 : 0 ≤ i) (hi5 : i + 5 ≤ Ls) {cells slots : Nat} (hc : cells + 200 ≤ 601024) (hs : slots + 3000 ≤ 7293034)
    (K : ∀ (L1 : List Nat) (g1 : Nat → va_E) (X1 : Int64) (Z1 : ZT), INV cys ad ao L1 g1 Z1 → JJ p l e room_1 s m #[Value.ref b] below meth c D cys ad (fun q => s.heap.size ≤ q) Q 9 (cells + 200) (slots + 3000) L1 g1 X1 Z1 2578 (LV5 b ad ao i) []) :
    JJ p l e room_1 s m #[Value.ref b] below meth c D cys ad (fun q => s.heap.size ≤ q) Q 9 cells slots L g X Z 1128 (LV5 b ad ao i) [] := by
  obtain ⟨hG, hRL, ⟨hao, hns, h33⟩, v0, hgo⟩ := hI
  have hW := hG.1.1
  have hbA : ¬ (fun q => s.heap.size ≤ q) b := Nat.not_le.mpr hbl
  refine j_aload_n G dL_law_1128 rfl ?_
  refine j_cVI G cvX6_facts mlL_177 (c_X6_facts hi ) dL_law_1129 ⟨by decide, by decide⟩ ⟨by rw [r1c]; omega, by rw [r1s]; omega⟩ rfl rfl (Nat.le_of_ble_eq_true rfl) (by decide) rfl rfl rfl (fun r h => ?_)
  have hS : SP Z Z := SP.rf Z
  have hR1 : RMZ Z Z := hG.2.hi (HI.sp hS)
  have hRL1 := hRL
  refine j_aload_n G dL_law_1132 rfl ?_
  refine j_cVIZ G cvX7_facts mlL_180 (c_X7_facts hi hR1) dL_law_1133 ⟨by decide, by decide⟩ ⟨by rw [r1c]; omega, by rw [r1s]; omega⟩ rfl rfl (Nat.le_of_ble_eq_true rfl) (by decide) rfl rfl rfl (fun x Z2 h2 => ?_)
  obtain ⟨hx, hM⟩ := h2
  have hq := ag_ask hG hS hM
  have hrx : r = x := h.trans hx.symm
  refine j_icmpS G 2578 dL_law_1136 (by decide) hrx ?_
  refine j_keep [0, 1, 2, 3, 4] ?_
  refine j_wid (cells' := cells + 200) (slots' := slots + 3000) (by omega) (by omega) ?_
  exact K _ _ _ _ ⟨hq.1, hq.2.1 cys ad _ _ hRL, ⟨hao, hns, h33⟩, v0, hgo⟩
set_option maxRecDepth 100000 in
set_option maxHeartbeats 8000000 in
theorem case_15 {p : Program} {l : Launch} {e : Env} {s : State} {m : MethodId} {below : List Frame} {meth : Method} {c : Code} {Q : State → Prop} {D : va_G} {cys : Nat → ClassId} {ad : Nat → Int → Nat} {b Ls : Nat} {xs : Nat → Int32} (hi : injA ad) (hst : l.stackTraces = false) (G : GG p l s m #[Value.ref b] meth c D cys ad (fun q => s.heap.size ≤ q) code RL 9) (hN : NCS s) (hk4 : HK4 cys s) (hX : va_X b Ls xs s s.heap) (hbl : b < s.heap.size) (hL : Ls ≤ 2560) {L : List Nat} {g : Nat → va_E} {X : Int64} {Z : ZT} {ao : Nat} (hI : INV cys ad ao L g Z) {i : Int} (hi0 : 0 ≤ i) (hi5 : i + 5 ≤ Ls) {cells slots : Nat} (hc : cells + 200 ≤ 601024) (hs : slots + 3000 ≤ 7293034)
    (K : ∀ (L1 : List Nat) (g1 : Nat → va_E) (X1 : Int64) (Z1 : ZT), INV cys ad ao L1 g1 Z1 → JJ p l e room_1 s m #[Value.ref b] below meth c D cys ad (fun q => s.heap.size ≤ q) Q 9 (cells + 200) (slots + 3000) L1 g1 X1 Z1 2578 (LV5 b ad ao i) []) :
    JJ p l e room_1 s m #[Value.ref b] below meth c D cys ad (fun q => s.heap.size ≤ q) Q 9 cells slots L g X Z 1141 (LV5 b ad ao i) [] := by
  obtain ⟨hG, hRL, ⟨hao, hns, h33⟩, v0, hgo⟩ := hI
  have hW := hG.1.1
  have hbA : ¬ (fun q => s.heap.size ≤ q) b := Nat.not_le.mpr hbl
  refine j_aload_n G dL_law_1141 rfl ?_
  refine j_cVI G cvX6_count mlL_181 (c_X6_count hi (SP.rf Z) hW) dL_law_1142 ⟨by decide, by decide⟩ ⟨by rw [r1c]; omega, by rw [r1s]; omega⟩ rfl rfl (Nat.le_of_ble_eq_true rfl) (by decide) rfl rfl rfl (fun r h => ?_)
  have hS : SP Z Z := SP.rf Z
  have hR1 : RMZ Z Z := hG.2.hi (HI.sp hS)
  have hRL1 := hRL
  refine j_aload_n G dL_law_1145 rfl ?_
  refine j_cVIZ G cvX7_count mlL_184 (c_X7_count hi hR1 hRL1 hW) dL_law_1146 ⟨by decide, by decide⟩ ⟨by rw [r1c]; omega, by rw [r1s]; omega⟩ rfl rfl (Nat.le_of_ble_eq_true rfl) (by decide) rfl rfl rfl (fun x Z2 h2 => ?_)
  obtain ⟨hx, hM⟩ := h2
  have hq := ag_ask hG hS hM
  have hrx : r = x := h.trans hx.symm
  refine j_icmpS G 2578 dL_law_1149 (by decide) hrx ?_
  refine j_keep [0, 1, 2, 3, 4] ?_
  refine j_wid (cells' := cells + 200) (slots' := slots + 3000) (by omega) (by omega) ?_
  exact K _ _ _ _ ⟨hq.1, hq.2.1 cys ad _ _ hRL, ⟨hao, hns, h33⟩, v0, hgo⟩
set_option maxRecDepth 100000 in
set_option maxHeartbeats 8000000 in
theorem case_16 {p : Program} {l : Launch} {e : Env} {s : State} {m : MethodId} {below : List Frame} {meth : Method} {c : Code} {Q : State → Prop} {D : va_G} {cys : Nat → ClassId} {ad : Nat → Int → Nat} {b Ls : Nat} {xs : Nat → Int32} (hi : injA ad) (hst : l.stackTraces = false) (G : GG p l s m #[Value.ref b] meth c D cys ad (fun q => s.heap.size ≤ q) code RL 9) (hN : NCS s) (hk4 : HK4 cys s) (hX : va_X b Ls xs s s.heap) (hbl : b < s.heap.size) (hL : Ls ≤ 2560) {L : List Nat} {g : Nat → va_E} {X : Int64} {Z : ZT} {ao : Nat} (hI : INV cys ad ao L g Z) {i : Int} (hi0 : 0 ≤ i) (hi5 : i + 5 ≤ Ls) {cells slots : Nat} (hc : cells + 200 ≤ 601024) (hs : slots + 3000 ≤ 7293034)
    (K : ∀ (L1 : List Nat) (g1 : Nat → va_E) (X1 : Int64) (Z1 : ZT), INV cys ad ao L1 g1 Z1 → JJ p l e room_1 s m #[Value.ref b] below meth c D cys ad (fun q => s.heap.size ≤ q) Q 9 (cells + 200) (slots + 3000) L1 g1 X1 Z1 2578 (LV5 b ad ao i) []) :
    JJ p l e room_1 s m #[Value.ref b] below meth c D cys ad (fun q => s.heap.size ≤ q) Q 9 cells slots L g X Z 1154 (LV5 b ad ao i) [] := by
  obtain ⟨hG, hRL, ⟨hao, hns, h33⟩, v0, hgo⟩ := hI
  have hW := hG.1.1
  have hbA : ¬ (fun q => s.heap.size ≤ q) b := Nat.not_le.mpr hbl
  refine j_aload_n G dL_law_1154 rfl ?_
  refine j_cVI G cvX6_sum mlL_185 (c_X6_sum hi (SP.rf Z) hW) dL_law_1155 ⟨by decide, by decide⟩ ⟨by rw [r1c]; omega, by rw [r1s]; omega⟩ rfl rfl (Nat.le_of_ble_eq_true rfl) (by decide) rfl rfl rfl (fun r h => ?_)
  have hS : SP Z Z := SP.rf Z
  have hR1 : RMZ Z Z := hG.2.hi (HI.sp hS)
  have hRL1 := hRL
  refine j_aload_n G dL_law_1158 rfl ?_
  refine j_cVIZ G cvX7_sum mlL_188 (c_X7_sum hi hR1 hRL1 hW) dL_law_1159 ⟨by decide, by decide⟩ ⟨by rw [r1c]; omega, by rw [r1s]; omega⟩ rfl rfl (Nat.le_of_ble_eq_true rfl) (by decide) rfl rfl rfl (fun x Z2 h2 => ?_)
  obtain ⟨hx, hM⟩ := h2
  have hq := ag_ask hG hS hM
  have hrx : r = x := h.trans hx.symm
  refine j_icmpS G 2578 dL_law_1162 (by decide) hrx ?_
  refine j_keep [0, 1, 2, 3, 4] ?_
  refine j_wid (cells' := cells + 200) (slots' := slots + 3000) (by omega) (by omega) ?_
  exact K _ _ _ _ ⟨hq.1, hq.2.1 cys ad _ _ hRL, ⟨hao, hns, h33⟩, v0, hgo⟩
set_option maxRecDepth 100000 in
set_option maxHeartbeats 8000000 in
theorem case_17 {p : Program} {l : Launch} {e : Env} {s : State} {m : MethodId} {below : List Frame} {meth : Method} {c : Code} {Q : State → Prop} {D : va_G} {cys : Nat → ClassId} {ad : Nat → Int → Nat} {b Ls : Nat} {xs : Nat → Int32} (hi : injA ad) (hst : l.stackTraces = false) (G : GG p l s m #[Value.ref b] meth c D cys ad (fun q => s.heap.size ≤ q) code RL 9) (hN : NCS s) (hk4 : HK4 cys s) (hX : va_X b Ls xs s s.heap) (hbl : b < s.heap.size) (hL : Ls ≤ 2560) {L : List Nat} {g : Nat → va_E} {X : Int64} {Z : ZT} {ao : Nat} (hI : INV cys ad ao L g Z) {i : Int} (hi0 : 0 ≤ i) (hi5 : i + 5 ≤ Ls) {cells slots : Nat} (hc : cells + 200 ≤ 601024) (hs : slots + 3000 ≤ 7293034)
    (K : ∀ (L1 : List Nat) (g1 : Nat → va_E) (X1 : Int64) (Z1 : ZT), INV cys ad ao L1 g1 Z1 → JJ p l e room_1 s m #[Value.ref b] below meth c D cys ad (fun q => s.heap.size ≤ q) Q 9 (cells + 200) (slots + 3000) L1 g1 X1 Z1 2578 (LV5 b ad ao i) []) :
    JJ p l e room_1 s m #[Value.ref b] below meth c D cys ad (fun q => s.heap.size ≤ q) Q 9 cells slots L g X Z 1167 (LV5 b ad ao i) [] := by
  obtain ⟨hG, hRL, ⟨hao, hns, h33⟩, v0, hgo⟩ := hI
  have hW := hG.1.1
  have hbA : ¬ (fun q => s.heap.size ≤ q) b := Nat.not_le.mpr hbl
  refine j_aload_n G dL_law_1167 rfl ?_
  refine j_cVI G cvX6_least mlL_189 (c_X6_least hi (SP.rf Z) hW) dL_law_1168 ⟨by decide, by decide⟩ ⟨by rw [r1c]; omega, by rw [r1s]; omega⟩ rfl rfl (Nat.le_of_ble_eq_true rfl) (by decide) rfl rfl rfl (fun r h => ?_)
  have hS : SP Z Z := SP.rf Z
  have hR1 : RMZ Z Z := hG.2.hi (HI.sp hS)
  have hRL1 := hRL
  refine j_aload_n G dL_law_1171 rfl ?_
  refine j_cVIZ G cvX7_least mlL_192 (c_X7_least hi hR1 hRL1 hW) dL_law_1172 ⟨by decide, by decide⟩ ⟨by rw [r1c]; omega, by rw [r1s]; omega⟩ rfl rfl (Nat.le_of_ble_eq_true rfl) (by decide) rfl rfl rfl (fun x Z2 h2 => ?_)
  obtain ⟨hx, hM⟩ := h2
  have hq := ag_ask hG hS hM
  have hrx : r = x := h.trans hx.symm
  refine j_icmpS G 2578 dL_law_1175 (by decide) hrx ?_
  refine j_keep [0, 1, 2, 3, 4] ?_
  refine j_wid (cells' := cells + 200) (slots' := slots + 3000) (by omega) (by omega) ?_
  exact K _ _ _ _ ⟨hq.1, hq.2.1 cys ad _ _ hRL, ⟨hao, hns, h33⟩, v0, hgo⟩
