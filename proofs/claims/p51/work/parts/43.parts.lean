theorem dL_arePartsRight_0 : decode cL_arePartsRight 0 = .ok (.aload_n 0, 1) := by decide +kernel
theorem dL_arePartsRight_1 : decode cL_arePartsRight 1 = .ok (.invokevirtual 134, 3) := by decide +kernel
theorem dL_arePartsRight_4 : decode cL_arePartsRight 4 = .ok (.aload_n 0, 1) := by decide +kernel
theorem dL_arePartsRight_5 : decode cL_arePartsRight 5 = .ok (.invokevirtual 59, 3) := by decide +kernel
theorem dL_arePartsRight_8 : decode cL_arePartsRight 8 = .ok (.if_icmp .gt 21, 3) := by decide +kernel
theorem dL_arePartsRight_11 : decode cL_arePartsRight 11 = .ok (.aload_n 0, 1) := by decide +kernel
theorem dL_arePartsRight_12 : decode cL_arePartsRight 12 = .ok (.invokevirtual 137, 3) := by decide +kernel
theorem dL_arePartsRight_15 : decode cL_arePartsRight 15 = .ok (.aload_n 0, 1) := by decide +kernel
theorem dL_arePartsRight_16 : decode cL_arePartsRight 16 = .ok (.invokevirtual 140, 3) := by decide +kernel
theorem dL_arePartsRight_19 : decode cL_arePartsRight 19 = .ok (.if_icmp .le 12, 3) := by decide +kernel
theorem dL_arePartsRight_22 : decode cL_arePartsRight 22 = .ok (.aload_n 0, 1) := by decide +kernel
theorem dL_arePartsRight_23 : decode cL_arePartsRight 23 = .ok (.invokevirtual 134, 3) := by decide +kernel
theorem dL_arePartsRight_26 : decode cL_arePartsRight 26 = .ok (.ifCond .le 5, 3) := by decide +kernel
theorem dL_arePartsRight_29 : decode cL_arePartsRight 29 = .ok (.iconst 0, 1) := by decide +kernel
theorem dL_arePartsRight_30 : decode cL_arePartsRight 30 = .ok (.ireturn, 1) := by decide +kernel
theorem dL_arePartsRight_31 : decode cL_arePartsRight 31 = .ok (.iconst 0, 1) := by decide +kernel
theorem dL_arePartsRight_32 : decode cL_arePartsRight 32 = .ok (.istore_n 2, 1) := by decide +kernel
theorem dL_arePartsRight_33 : decode cL_arePartsRight 33 = .ok (.iload_n 2, 1) := by decide +kernel
theorem dL_arePartsRight_34 : decode cL_arePartsRight 34 = .ok (.aload_n 1, 1) := by decide +kernel
theorem dL_arePartsRight_35 : decode cL_arePartsRight 35 = .ok (.getfield 62, 3) := by decide +kernel
theorem dL_arePartsRight_38 : decode cL_arePartsRight 38 = .ok (.if_icmp .ge 145, 3) := by decide +kernel
theorem dL_arePartsRight_41 : decode cL_arePartsRight 41 = .ok (.aload_n 0, 1) := by decide +kernel
theorem dL_arePartsRight_42 : decode cL_arePartsRight 42 = .ok (.iload_n 2, 1) := by decide +kernel
theorem dL_arePartsRight_43 : decode cL_arePartsRight 43 = .ok (.invokevirtual 143, 3) := by decide +kernel
theorem dL_arePartsRight_46 : decode cL_arePartsRight 46 = .ok (.istore_n 3, 1) := by decide +kernel
theorem dL_arePartsRight_47 : decode cL_arePartsRight 47 = .ok (.aload_n 0, 1) := by decide +kernel
theorem dL_arePartsRight_48 : decode cL_arePartsRight 48 = .ok (.iload_n 2, 1) := by decide +kernel
theorem dL_arePartsRight_49 : decode cL_arePartsRight 49 = .ok (.invokevirtual 146, 3) := by decide +kernel
theorem dL_arePartsRight_52 : decode cL_arePartsRight 52 = .ok (.istore 4, 2) := by decide +kernel
theorem dL_arePartsRight_54 : decode cL_arePartsRight 54 = .ok (.iconst 0, 1) := by decide +kernel
theorem dL_arePartsRight_55 : decode cL_arePartsRight 55 = .ok (.istore 5, 2) := by decide +kernel
theorem dL_arePartsRight_57 : decode cL_arePartsRight 57 = .ok (.iconst 0, 1) := by decide +kernel
theorem dL_arePartsRight_58 : decode cL_arePartsRight 58 = .ok (.istore 6, 2) := by decide +kernel
theorem dL_arePartsRight_60 : decode cL_arePartsRight 60 = .ok (.iload 6, 2) := by decide +kernel
theorem dL_arePartsRight_62 : decode cL_arePartsRight 62 = .ok (.iload_n 3, 1) := by decide +kernel
theorem dL_arePartsRight_63 : decode cL_arePartsRight 63 = .ok (.if_icmp .ge 69, 3) := by decide +kernel
theorem dL_arePartsRight_66 : decode cL_arePartsRight 66 = .ok (.iload 5, 2) := by decide +kernel
theorem dL_arePartsRight_68 : decode cL_arePartsRight 68 = .ok (.aload_n 0, 1) := by decide +kernel
theorem dL_arePartsRight_69 : decode cL_arePartsRight 69 = .ok (.iload_n 2, 1) := by decide +kernel
theorem dL_arePartsRight_70 : decode cL_arePartsRight 70 = .ok (.iload 6, 2) := by decide +kernel
theorem dL_arePartsRight_72 : decode cL_arePartsRight 72 = .ok (.invokevirtual 149, 3) := by decide +kernel
theorem dL_arePartsRight_75 : decode cL_arePartsRight 75 = .ok (.iadd, 1) := by decide +kernel
theorem dL_arePartsRight_76 : decode cL_arePartsRight 76 = .ok (.istore 5, 2) := by decide +kernel
theorem dL_arePartsRight_78 : decode cL_arePartsRight 78 = .ok (.aload_n 0, 1) := by decide +kernel
theorem dL_arePartsRight_79 : decode cL_arePartsRight 79 = .ok (.iload_n 2, 1) := by decide +kernel
theorem dL_arePartsRight_80 : decode cL_arePartsRight 80 = .ok (.iload 6, 2) := by decide +kernel
theorem dL_arePartsRight_82 : decode cL_arePartsRight 82 = .ok (.invokevirtual 152, 3) := by decide +kernel
theorem dL_arePartsRight_85 : decode cL_arePartsRight 85 = .ok (.iload 5, 2) := by decide +kernel
theorem dL_arePartsRight_87 : decode cL_arePartsRight 87 = .ok (.if_icmp .ne 37, 3) := by decide +kernel
theorem dL_arePartsRight_90 : decode cL_arePartsRight 90 = .ok (.iload 6, 2) := by decide +kernel
theorem dL_arePartsRight_92 : decode cL_arePartsRight 92 = .ok (.ifCond .le 34, 3) := by decide +kernel
theorem dL_arePartsRight_95 : decode cL_arePartsRight 95 = .ok (.aload_n 0, 1) := by decide +kernel
theorem dL_arePartsRight_96 : decode cL_arePartsRight 96 = .ok (.iload_n 2, 1) := by decide +kernel
theorem dL_arePartsRight_97 : decode cL_arePartsRight 97 = .ok (.aload_n 0, 1) := by decide +kernel
theorem dL_arePartsRight_98 : decode cL_arePartsRight 98 = .ok (.iload_n 2, 1) := by decide +kernel
theorem dL_arePartsRight_99 : decode cL_arePartsRight 99 = .ok (.iload 6, 2) := by decide +kernel
theorem dL_arePartsRight_101 : decode cL_arePartsRight 101 = .ok (.invokevirtual 155, 3) := by decide +kernel
theorem dL_arePartsRight_104 : decode cL_arePartsRight 104 = .ok (.invokevirtual 149, 3) := by decide +kernel
theorem dL_arePartsRight_107 : decode cL_arePartsRight 107 = .ok (.aload_n 0, 1) := by decide +kernel
theorem dL_arePartsRight_108 : decode cL_arePartsRight 108 = .ok (.iload_n 2, 1) := by decide +kernel
theorem dL_arePartsRight_109 : decode cL_arePartsRight 109 = .ok (.aload_n 0, 1) := by decide +kernel
theorem dL_arePartsRight_110 : decode cL_arePartsRight 110 = .ok (.iload_n 2, 1) := by decide +kernel
theorem dL_arePartsRight_111 : decode cL_arePartsRight 111 = .ok (.iload 6, 2) := by decide +kernel
theorem dL_arePartsRight_113 : decode cL_arePartsRight 113 = .ok (.iconst 1, 1) := by decide +kernel
theorem dL_arePartsRight_114 : decode cL_arePartsRight 114 = .ok (.isub, 1) := by decide +kernel
theorem dL_arePartsRight_115 : decode cL_arePartsRight 115 = .ok (.invokevirtual 155, 3) := by decide +kernel
theorem dL_arePartsRight_118 : decode cL_arePartsRight 118 = .ok (.invokevirtual 149, 3) := by decide +kernel
theorem dL_arePartsRight_121 : decode cL_arePartsRight 121 = .ok (.if_icmp .le 5, 3) := by decide +kernel
theorem dL_arePartsRight_124 : decode cL_arePartsRight 124 = .ok (.iconst 0, 1) := by decide +kernel
theorem dL_arePartsRight_125 : decode cL_arePartsRight 125 = .ok (.ireturn, 1) := by decide +kernel
theorem dL_arePartsRight_126 : decode cL_arePartsRight 126 = .ok (.iinc 6 1, 3) := by decide +kernel
theorem dL_arePartsRight_129 : decode cL_arePartsRight 129 = .ok (.goto (-69), 3) := by decide +kernel
theorem dL_arePartsRight_132 : decode cL_arePartsRight 132 = .ok (.aload_n 0, 1) := by decide +kernel
theorem dL_arePartsRight_133 : decode cL_arePartsRight 133 = .ok (.iload_n 2, 1) := by decide +kernel
theorem dL_arePartsRight_134 : decode cL_arePartsRight 134 = .ok (.iload 4, 2) := by decide +kernel
theorem dL_arePartsRight_136 : decode cL_arePartsRight 136 = .ok (.invokevirtual 158, 3) := by decide +kernel
theorem dL_arePartsRight_139 : decode cL_arePartsRight 139 = .ok (.aload_n 1, 1) := by decide +kernel
theorem dL_arePartsRight_140 : decode cL_arePartsRight 140 = .ok (.getfield 66, 3) := by decide +kernel
theorem dL_arePartsRight_143 : decode cL_arePartsRight 143 = .ok (.iload_n 2, 1) := by decide +kernel
theorem dL_arePartsRight_144 : decode cL_arePartsRight 144 = .ok (.iaload, 1) := by decide +kernel
theorem dL_arePartsRight_145 : decode cL_arePartsRight 145 = .ok (.if_icmp .ge 14, 3) := by decide +kernel
theorem dL_arePartsRight_148 : decode cL_arePartsRight 148 = .ok (.iload 5, 2) := by decide +kernel
theorem dL_arePartsRight_150 : decode cL_arePartsRight 150 = .ok (.aload_n 0, 1) := by decide +kernel
theorem dL_arePartsRight_151 : decode cL_arePartsRight 151 = .ok (.invokevirtual 161, 3) := by decide +kernel
theorem dL_arePartsRight_154 : decode cL_arePartsRight 154 = .ok (.if_icmp .eq 5, 3) := by decide +kernel
theorem dL_arePartsRight_157 : decode cL_arePartsRight 157 = .ok (.iconst 0, 1) := by decide +kernel
theorem dL_arePartsRight_158 : decode cL_arePartsRight 158 = .ok (.ireturn, 1) := by decide +kernel
theorem dL_arePartsRight_159 : decode cL_arePartsRight 159 = .ok (.iload_n 3, 1) := by decide +kernel
theorem dL_arePartsRight_160 : decode cL_arePartsRight 160 = .ok (.ifCond .le 17, 3) := by decide +kernel
theorem dL_arePartsRight_163 : decode cL_arePartsRight 163 = .ok (.aload_n 0, 1) := by decide +kernel
theorem dL_arePartsRight_164 : decode cL_arePartsRight 164 = .ok (.iload_n 2, 1) := by decide +kernel
theorem dL_arePartsRight_165 : decode cL_arePartsRight 165 = .ok (.sipush 1000, 3) := by decide +kernel
theorem dL_arePartsRight_168 : decode cL_arePartsRight 168 = .ok (.invokevirtual 164, 3) := by decide +kernel
theorem dL_arePartsRight_171 : decode cL_arePartsRight 171 = .ok (.iload_n 3, 1) := by decide +kernel
theorem dL_arePartsRight_172 : decode cL_arePartsRight 172 = .ok (.if_icmp .le 5, 3) := by decide +kernel
theorem dL_arePartsRight_175 : decode cL_arePartsRight 175 = .ok (.iconst 0, 1) := by decide +kernel
theorem dL_arePartsRight_176 : decode cL_arePartsRight 176 = .ok (.ireturn, 1) := by decide +kernel
theorem dL_arePartsRight_177 : decode cL_arePartsRight 177 = .ok (.iinc 2 1, 3) := by decide +kernel
theorem dL_arePartsRight_180 : decode cL_arePartsRight 180 = .ok (.goto (-147), 3) := by decide +kernel
theorem dL_arePartsRight_183 : decode cL_arePartsRight 183 = .ok (.iconst 1, 1) := by decide +kernel
theorem dL_arePartsRight_184 : decode cL_arePartsRight 184 = .ok (.ireturn, 1) := by decide +kernel
/-! by program: wip/whole/gen.py out of wip/whole/src/43.parts.eb -/
/-! the law's check of the parts -/
set_option maxRecDepth 100000 in
set_option maxHeartbeats 8000000 in
theorem c_L_arePartsRight {l : Launch} {D : va_G} {cys : Nat → ClassId} {ad : Nat → Int → Nat} {L : List Nat} {g : Nat → va_E} {X : Int64} {Z : ZT} (hi : injA ad) {S : ZT} {aw : Nat} {n : Int} {Wd : List Int} (hst : l.stackTraces = false) (hS : SP S Z) (hV : IV n Wd S) (hw : WRX cys ad L g aw n Wd) : CM l D cys ad yL_arePartsRight cL_arePartsRight 7 (some .boolean) 9 157 900 5400 [.ref (ad 0 0), .ref aw] L g X Z (PIZ L g X Z (fun r Z' => r = 1 ∧ SP S Z')) := by
  refine cm_start hi (by decide +kernel) (Nat.le_of_ble_eq_true rfl) ?_
  intro p_ e_ s_ m_ args_ below_ meth_ c_ A_ Q_ hQ G hr hin
  have hW := hV.1.1
  have hn := hV.2.2.1
  have hn5 := hV.2.1
  have hf := hW.f
  have e6 : Z 6 0 3 = S 6 0 3 := by rw [hS.1 6 rfl]
  obtain ⟨dp, v2, v3, v4, v5, v6, v7, v8, hO, hA, hl⟩ := hw
  have hcn := CNT_bd hW
  have hcl := cnt_le hW
  have hls := LEAST_in hW
  have hgr := GREAT_in hW
  have hll := least_le hW
  have hsm := SUM_bd hW
  have K : ∀ (nn : Nat) (d : Int) (Z1 : ZT) (cells slots : Nat), (n - d).toNat = nn → 0 ≤ d → d ≤ n → SP S Z1 → cells + 298 * nn ≤ 900 → slots + 1788 * nn ≤ 5400 → JJ p_ l e_ { frames := 9, cells := 900, slots := 5400, locals := 157 } s_ m_ args_ below_ meth_ c_ D cys ad A_ Q_ 7 cells slots L g X Z1 33 [(0, .ref (ad 0 0)), (1, .ref aw), (2, .int (iI d))] [] := by
    intro nn
    induction nn with
    | zero =>
      intro d Z1 cells slots hnn d0 d1 hS1 hc hs
      refine j_iload_n G dL_arePartsRight_33 rfl ?_
      refine j_aload_n G dL_arePartsRight_34 rfl ?_
      refine jo_getN G 0 hO dL_arePartsRight_35 rfl rfl (by decide) (List.mem_of_getElem? (i := 0) rfl) (Or.inl rfl) inT7 ?_
      refine j_icmp_ge G 183 dL_arePartsRight_38 (by decide) (by omega) (by omega) (fun c38 => ?_) (fun c38 => ?_)
      · refine j_iconst G dL_arePartsRight_183 ?_
        refine jr_BZ G hQ hr dL_arePartsRight_184 (by first | decide | omega) (by first | decide | omega) (by omega) ?_
        exact ⟨rfl, hS1⟩
      · exfalso; omega
    | succ nn ih =>
      intro d Z1 cells slots hnn d0 d1 hS1 hc hs
      have hdr : inR d := by omega
      have hd5 : d < S 0 0 5 := by omega
      have hWd := hV.2.2.2.1 d d0 (by omega)
      have hk := (kids_ok hW d0 hd5).1
      have hT := hW.t d0 hd5
      have hT1 := hT.1
      have hTp := (hT.at (m := S 2 d 5) (by omega) (by omega))
      unfold MOK at hTp
      have J : ∀ (mm : Nat) (j : Int) (Z2 : ZT) (sm : Int) (cells slots : Nat), ((kids S d).length - j).toNat = mm → 0 ≤ j → j ≤ (kids S d).length → SP S Z2 → sm = sumTo (lsum S d) j.toNat → cells + 12 * mm + 4 + 298 * nn ≤ 900 → slots + 72 * mm + 24 + 1788 * nn ≤ 5400 → JJ p_ l e_ { frames := 9, cells := 900, slots := 5400, locals := 157 } s_ m_ args_ below_ meth_ c_ D cys ad A_ Q_ 7 cells slots L g X Z2 60 [(0, .ref (ad 0 0)), (1, .ref aw), (2, .int (iI d)), (3, .int (iI (kids S d).length)), (4, .int (iI (S 2 d 5))), (5, .int (iI sm)), (6, .int (iI j))] [] := by
        intro mm
        induction mm with
        | zero =>
          intro j Z2 sm cells slots hmm j0 j1 hS2 hsm2 hc hs
          have hpr : inR (S 2 d 5) := by omega
          have ej : j = (kids S d).length := by omega
          have hsb := sumTo_bd (f := lsum S d) (n := j.toNat) (B := 800000) (fun k _ _ => lsum_bd hW d k)
          rw [← hsm2] at hsb
          have h1000 : inR 1000 := by decide
          refine j_iload G dL_arePartsRight_60 rfl ?_
          refine j_iload_n G dL_arePartsRight_62 rfl ?_
          refine j_icmp_ge G 132 dL_arePartsRight_63 (by decide) (by omega) (by omega) (fun c63 => ?_) (fun c63 => ?_)
          · refine j_aload_n G dL_arePartsRight_132 rfl ?_
            refine j_iload_n G dL_arePartsRight_133 rfl ?_
            refine j_iload G dL_arePartsRight_134 rfl ?_
            refine j_cW_I G cvX6_levelOf mlL_158 (cm_of (c_X6_levelOf hi hst hS2 hW hdr hpr) (by intro E9 L9 g9 X9 Z9 hx9; have hx9 := hx9.1; omega)) dL_arePartsRight_136 (by first | exact ⟨by decide, by decide⟩ | (constructor <;> dsimp only <;> omega)) (by first | exact ⟨by decide, by decide⟩ | (constructor <;> dsimp only <;> omega)) rfl rfl (Nat.le_of_ble_eq_true rfl) (by first | assumption | decide) rfl rfl rfl (fun r136 h136 => ?_)
            refine j_aload_n G dL_arePartsRight_139 rfl ?_
            refine jo_getN G 1 hO dL_arePartsRight_140 rfl rfl (by decide) (List.mem_of_getElem? (i := 1) rfl) (Or.inl rfl) inT7 ?_
            refine j_iload_n G dL_arePartsRight_143 rfl ?_
            refine j_dlA G dL_arePartsRight_144 hA (by first | omega | decide) (by omega) (by omega) ?_
            refine j_icmp_ge G 159 dL_arePartsRight_145 (by decide) (by omega) (by omega) (fun c145 => ?_) (fun c145 => ?_)
            · refine j_iload_n G dL_arePartsRight_159 rfl ?_
              refine j_if_le G 177 dL_arePartsRight_160 (by decide) (by omega) (fun c160 => ?_) (fun c160 => ?_)
              · refine j_iinc G dL_arePartsRight_177 rfl (by decide) rfl ?_
                refine j_goto G 33 dL_arePartsRight_180 (by decide) ?_
                refine j_keep [0, 1, 2] ?_
                first | exact ih (d + 1) Z168 _ _ (by omega) (by omega) (by omega) h168.2.2.2 (by omega) (by omega) | exact ih (d + 1) Z2 _ _ (by omega) (by omega) (by omega) hS2 (by omega) (by omega)
              · skip
                refine j_aload_n G dL_arePartsRight_163 rfl ?_
                refine j_iload_n G dL_arePartsRight_164 rfl ?_
                refine j_sipush G dL_arePartsRight_165 (by decide +kernel) ?_
                refine j_cW_IZ G cvX6_fewest mlL_164 (cm_of (c_X6_fewest hi hst hS2 hW hdr h1000) (by intro E9 L9 g9 X9 Z9 hx9; have hx9 := hx9.1; omega)) dL_arePartsRight_168 (by first | exact ⟨by decide, by decide⟩ | (constructor <;> dsimp only <;> omega)) (by first | exact ⟨by decide, by decide⟩ | (constructor <;> dsimp only <;> omega)) rfl rfl (Nat.le_of_ble_eq_true rfl) (by first | assumption | decide) rfl rfl rfl (fun r168 Z168 h168 => ?_)
                have hfw : r168 ≤ (kids S d).length ∧ -1 ≤ r168 := by
                  rcases h168.2.2.1 with z | z
                  · exact ⟨z.2.1, by have := z.1; omega⟩
                  · have := z.1; omega
                refine j_iload_n G dL_arePartsRight_171 rfl ?_
                refine j_icmp_le G 177 dL_arePartsRight_172 (by decide) (by omega) (by omega) (fun c172 => ?_) (fun c172 => ?_)
                · refine j_iinc G dL_arePartsRight_177 rfl (by decide) rfl ?_
                  refine j_goto G 33 dL_arePartsRight_180 (by decide) ?_
                  refine j_keep [0, 1, 2] ?_
                  first | exact ih (d + 1) Z168 _ _ (by omega) (by omega) (by omega) h168.2.2.2 (by omega) (by omega) | exact ih (d + 1) Z2 _ _ (by omega) (by omega) (by omega) hS2 (by omega) (by omega)
                · exfalso; omega
            · have hks := kids_sum hW d0 hd5 (by omega)
              have hks2 : sm = SUM S := by rw [hsm2, ej, ← hks]; rfl
              refine j_iload G dL_arePartsRight_148 rfl ?_
              refine j_aload_n G dL_arePartsRight_150 rfl ?_
              refine j_cVI G cvX6_sum mlL_161 (c_X6_sum hi hS2 hW) dL_arePartsRight_151 ⟨by decide, by decide⟩ (by first | exact ⟨by decide, by decide⟩ | (constructor <;> dsimp only <;> omega)) rfl rfl (Nat.le_of_ble_eq_true rfl) (by first | assumption | decide) rfl rfl rfl (fun r151 h151 => ?_)
              refine j_icmp_eq G 159 dL_arePartsRight_154 (by decide) (by omega) (by omega) (fun c154 => ?_) (fun c154 => ?_)
              · refine j_iload_n G dL_arePartsRight_159 rfl ?_
                refine j_if_le G 177 dL_arePartsRight_160 (by decide) (by omega) (fun c160 => ?_) (fun c160 => ?_)
                · refine j_iinc G dL_arePartsRight_177 rfl (by decide) rfl ?_
                  refine j_goto G 33 dL_arePartsRight_180 (by decide) ?_
                  refine j_keep [0, 1, 2] ?_
                  first | exact ih (d + 1) Z168 _ _ (by omega) (by omega) (by omega) h168.2.2.2 (by omega) (by omega) | exact ih (d + 1) Z2 _ _ (by omega) (by omega) (by omega) hS2 (by omega) (by omega)
                · skip
                  refine j_aload_n G dL_arePartsRight_163 rfl ?_
                  refine j_iload_n G dL_arePartsRight_164 rfl ?_
                  refine j_sipush G dL_arePartsRight_165 (by decide +kernel) ?_
                  refine j_cW_IZ G cvX6_fewest mlL_164 (cm_of (c_X6_fewest hi hst hS2 hW hdr h1000) (by intro E9 L9 g9 X9 Z9 hx9; have hx9 := hx9.1; omega)) dL_arePartsRight_168 (by first | exact ⟨by decide, by decide⟩ | (constructor <;> dsimp only <;> omega)) (by first | exact ⟨by decide, by decide⟩ | (constructor <;> dsimp only <;> omega)) rfl rfl (Nat.le_of_ble_eq_true rfl) (by first | assumption | decide) rfl rfl rfl (fun r168 Z168 h168 => ?_)
                  have hfw : r168 ≤ (kids S d).length ∧ -1 ≤ r168 := by
                    rcases h168.2.2.1 with z | z
                    · exact ⟨z.2.1, by have := z.1; omega⟩
                    · have := z.1; omega
                  refine j_iload_n G dL_arePartsRight_171 rfl ?_
                  refine j_icmp_le G 177 dL_arePartsRight_172 (by decide) (by omega) (by omega) (fun c172 => ?_) (fun c172 => ?_)
                  · refine j_iinc G dL_arePartsRight_177 rfl (by decide) rfl ?_
                    refine j_goto G 33 dL_arePartsRight_180 (by decide) ?_
                    refine j_keep [0, 1, 2] ?_
                    first | exact ih (d + 1) Z168 _ _ (by omega) (by omega) (by omega) h168.2.2.2 (by omega) (by omega) | exact ih (d + 1) Z2 _ _ (by omega) (by omega) (by omega) hS2 (by omega) (by omega)
                  · exfalso; omega
              · exfalso; omega
          · exfalso; omega
        | succ mm ihj =>
          intro j Z2 sm cells slots hmm j0 j1 hS2 hsm2 hc hs
          have hsb := sumTo_bd (f := lsum S d) (n := j.toNat) (B := 800000) (fun k _ _ => lsum_bd hW d k)
          rw [← hsm2] at hsb
          have hlb := lsum_bd hW d j
          have hjr : inR j := by omega
          have hstep := sumTo_s (f := lsum S d) j0
          rw [← hsm2] at hstep
          refine j_iload G dL_arePartsRight_60 rfl ?_
          refine j_iload_n G dL_arePartsRight_62 rfl ?_
          refine j_icmp_ge G 132 dL_arePartsRight_63 (by decide) (by omega) (by omega) (fun c63 => ?_) (fun c63 => ?_)
          · exfalso; omega
          · refine j_iload G dL_arePartsRight_66 rfl ?_
            refine j_aload_n G dL_arePartsRight_68 rfl ?_
            refine j_iload_n G dL_arePartsRight_69 rfl ?_
            refine j_iload G dL_arePartsRight_70 rfl ?_
            refine j_cW_IZ G cvX6_sumOf mlL_149 (cm_of (c_X6_sumOf hi hst hS2 hW hdr hjr) (by intro E9 L9 g9 X9 Z9 hx9; have hx9 := hx9.1; omega)) dL_arePartsRight_72 (by first | exact ⟨by decide, by decide⟩ | (constructor <;> dsimp only <;> omega)) (by first | exact ⟨by decide, by decide⟩ | (constructor <;> dsimp only <;> omega)) rfl rfl (Nat.le_of_ble_eq_true rfl) (by first | assumption | decide) rfl rfl rfl (fun r72 Z72 h72 => ?_)
            obtain ⟨-, -, h72, hS3⟩ := h72
            subst h72
            refine j_iadd G dL_arePartsRight_75 ?_
            refine j_istore G dL_arePartsRight_76 (by decide) rfl ?_
            refine j_aload_n G dL_arePartsRight_78 rfl ?_
            refine j_iload_n G dL_arePartsRight_79 rfl ?_
            refine j_iload G dL_arePartsRight_80 rfl ?_
            refine j_cW_IZ G cvX6_running mlL_152 (cm_of (c_X6_running hi hst hS3 hW hdr hjr) (by intro E9 L9 g9 X9 Z9 hx9; have hx9 := hx9.1; omega)) dL_arePartsRight_82 (by first | exact ⟨by decide, by decide⟩ | (constructor <;> dsimp only <;> omega)) (by first | exact ⟨by decide, by decide⟩ | (constructor <;> dsimp only <;> omega)) rfl rfl (Nat.le_of_ble_eq_true rfl) (by first | assumption | decide) rfl rfl rfl (fun r82 Z82 h82 => ?_)
            obtain ⟨-, -, h82, hS4⟩ := h82
            refine j_iload G dL_arePartsRight_85 rfl ?_
            refine j_icmp_ne G 124 dL_arePartsRight_87 (by decide) (by omega) (by omega) (fun c87 => ?_) (fun c87 => ?_)
            · exfalso; omega
            · refine j_iload G dL_arePartsRight_90 rfl ?_
              refine j_if_le G 126 dL_arePartsRight_92 (by decide) (by omega) (fun c92 => ?_) (fun c92 => ?_)
              · refine j_iinc G dL_arePartsRight_126 rfl (by decide) rfl ?_
                refine j_goto G 60 dL_arePartsRight_129 (by decide) ?_
                refine j_keep [0, 1, 2, 3, 4, 5, 6] ?_
                first | exact ihj (j + 1) Z118 _ _ _ (by omega) (by omega) (by omega) hS8 hstep.symm (by omega) (by omega) | exact ihj (j + 1) Z82 _ _ _ (by omega) (by omega) (by omega) hS4 hstep.symm (by omega) (by omega)
              · have hra := rkF_in (lsum S d) (kids S d).length j (by omega) (by omega)
                have hrb := rkF_in (lsum S d) (kids S d).length (j - 1) (by omega) (by omega)
                have hrl := rank_le (lsum S d) (kids S d).length (k := j) (by omega) (by omega)
                have hlc := lsum_bd hW d (rkF (lsum S d) (kids S d).length j)
                have hld := lsum_bd hW d (rkF (lsum S d) (kids S d).length (j - 1))
                have hjr1 : inR (j - 1) := by omega
                have hra2 : inR (rkF (lsum S d) (kids S d).length j) := by omega
                have hrb2 : inR (rkF (lsum S d) (kids S d).length (j - 1)) := by omega
                refine j_aload_n G dL_arePartsRight_95 rfl ?_
                refine j_iload_n G dL_arePartsRight_96 rfl ?_
                refine j_aload_n G dL_arePartsRight_97 rfl ?_
                refine j_iload_n G dL_arePartsRight_98 rfl ?_
                refine j_iload G dL_arePartsRight_99 rfl ?_
                refine j_cW_IZ G cvX6_ranked mlL_155 (cm_of (c_X6_ranked hi hst hS4 hW hdr hjr) (by intro E9 L9 g9 X9 Z9 hx9; have hx9 := hx9.1; omega)) dL_arePartsRight_101 (by first | exact ⟨by decide, by decide⟩ | (constructor <;> dsimp only <;> omega)) (by first | exact ⟨by decide, by decide⟩ | (constructor <;> dsimp only <;> omega)) rfl rfl (Nat.le_of_ble_eq_true rfl) (by first | assumption | decide) rfl rfl rfl (fun r101 Z101 h101 => ?_)
                obtain ⟨-, -, h101, hS5⟩ := h101
                subst h101
                refine j_cW_IZ G cvX6_sumOf mlL_149 (cm_of (c_X6_sumOf hi hst hS5 hW hdr hra2) (by intro E9 L9 g9 X9 Z9 hx9; have hx9 := hx9.1; omega)) dL_arePartsRight_104 (by first | exact ⟨by decide, by decide⟩ | (constructor <;> dsimp only <;> omega)) (by first | exact ⟨by decide, by decide⟩ | (constructor <;> dsimp only <;> omega)) rfl rfl (Nat.le_of_ble_eq_true rfl) (by first | assumption | decide) rfl rfl rfl (fun r104 Z104 h104 => ?_)
                obtain ⟨-, -, h104, hS6⟩ := h104
                subst h104
                refine j_aload_n G dL_arePartsRight_107 rfl ?_
                refine j_iload_n G dL_arePartsRight_108 rfl ?_
                refine j_aload_n G dL_arePartsRight_109 rfl ?_
                refine j_iload_n G dL_arePartsRight_110 rfl ?_
                refine j_iload G dL_arePartsRight_111 rfl ?_
                refine j_iconst G dL_arePartsRight_113 ?_
                refine j_isub G dL_arePartsRight_114 ?_
                refine j_cW_IZ G cvX6_ranked mlL_155 (cm_of (c_X6_ranked hi hst hS6 hW hdr hjr1) (by intro E9 L9 g9 X9 Z9 hx9; have hx9 := hx9.1; omega)) dL_arePartsRight_115 (by first | exact ⟨by decide, by decide⟩ | (constructor <;> dsimp only <;> omega)) (by first | exact ⟨by decide, by decide⟩ | (constructor <;> dsimp only <;> omega)) rfl rfl (Nat.le_of_ble_eq_true rfl) (by first | assumption | decide) rfl rfl rfl (fun r115 Z115 h115 => ?_)
                obtain ⟨-, -, h115, hS7⟩ := h115
                subst h115
                refine j_cW_IZ G cvX6_sumOf mlL_149 (cm_of (c_X6_sumOf hi hst hS7 hW hdr hrb2) (by intro E9 L9 g9 X9 Z9 hx9; have hx9 := hx9.1; omega)) dL_arePartsRight_118 (by first | exact ⟨by decide, by decide⟩ | (constructor <;> dsimp only <;> omega)) (by first | exact ⟨by decide, by decide⟩ | (constructor <;> dsimp only <;> omega)) rfl rfl (Nat.le_of_ble_eq_true rfl) (by first | assumption | decide) rfl rfl rfl (fun r118 Z118 h118 => ?_)
                obtain ⟨-, -, h118, hS8⟩ := h118
                subst h118
                refine j_icmp_le G 126 dL_arePartsRight_121 (by decide) (by omega) (by omega) (fun c121 => ?_) (fun c121 => ?_)
                · refine j_iinc G dL_arePartsRight_126 rfl (by decide) rfl ?_
                  refine j_goto G 60 dL_arePartsRight_129 (by decide) ?_
                  refine j_keep [0, 1, 2, 3, 4, 5, 6] ?_
                  first | exact ihj (j + 1) Z118 _ _ _ (by omega) (by omega) (by omega) hS8 hstep.symm (by omega) (by omega) | exact ihj (j + 1) Z82 _ _ _ (by omega) (by omega) (by omega) hS4 hstep.symm (by omega) (by omega)
                · exfalso; omega
      refine j_iload_n G dL_arePartsRight_33 rfl ?_
      refine j_aload_n G dL_arePartsRight_34 rfl ?_
      refine jo_getN G 0 hO dL_arePartsRight_35 rfl rfl (by decide) (List.mem_of_getElem? (i := 0) rfl) (Or.inl rfl) inT7 ?_
      refine j_icmp_ge G 183 dL_arePartsRight_38 (by decide) (by omega) (by omega) (fun c38 => ?_) (fun c38 => ?_)
      · exfalso; omega
      · refine j_aload_n G dL_arePartsRight_41 rfl ?_
        refine j_iload_n G dL_arePartsRight_42 rfl ?_
        refine j_cW_IZ G cvX6_children mlL_143 (cm_of (c_X6_children hi hst hS1 hW hdr) (by intro E9 L9 g9 X9 Z9 hx9; have hx9 := hx9.1; omega)) dL_arePartsRight_43 (by first | exact ⟨by decide, by decide⟩ | (constructor <;> dsimp only <;> omega)) (by first | exact ⟨by decide, by decide⟩ | (constructor <;> dsimp only <;> omega)) rfl rfl (Nat.le_of_ble_eq_true rfl) (by first | assumption | decide) rfl rfl rfl (fun r43 Z43 h43 => ?_)
        obtain ⟨-, h43, hS2⟩ := h43
        subst h43
        refine j_istore_n G dL_arePartsRight_46 (by decide) rfl ?_
        refine j_aload_n G dL_arePartsRight_47 rfl ?_
        refine j_iload_n G dL_arePartsRight_48 rfl ?_
        refine j_cW_I G cvX6_pointOf mlL_146 (cm_of (c_X6_pointOf hi hst hS2 hW hdr) (by intro E9 L9 g9 X9 Z9 hx9; have hx9 := hx9.1; omega)) dL_arePartsRight_49 (by first | exact ⟨by decide, by decide⟩ | (constructor <;> dsimp only <;> omega)) (by first | exact ⟨by decide, by decide⟩ | (constructor <;> dsimp only <;> omega)) rfl rfl (Nat.le_of_ble_eq_true rfl) (by first | assumption | decide) rfl rfl rfl (fun r49 h49 => ?_)
        obtain ⟨-, h49⟩ := h49
        subst h49
        refine j_istore G dL_arePartsRight_52 (by decide) rfl ?_
        refine j_iconst G dL_arePartsRight_54 ?_
        refine j_istore G dL_arePartsRight_55 (by decide) rfl ?_
        refine j_iconst G dL_arePartsRight_57 ?_
        refine j_istore G dL_arePartsRight_58 (by decide) rfl ?_
        refine j_keep [0, 1, 2, 3, 4, 5, 6] ?_
        exact J _ 0 Z43 0 _ _ rfl (by omega) (by omega) hS2 rfl (by omega) (by omega)
  refine j_aload_n G dL_arePartsRight_0 rfl ?_
  refine j_cVI G cvX6_count mlL_134 (c_X6_count hi hS hW) dL_arePartsRight_1 ⟨by decide, by decide⟩ (by first | exact ⟨by decide, by decide⟩ | (constructor <;> dsimp only <;> omega)) rfl rfl (Nat.le_of_ble_eq_true rfl) (by first | assumption | decide) rfl rfl rfl (fun r1 h1 => ?_)
  refine j_aload_n G dL_arePartsRight_4 rfl ?_
  refine j_cVI G cvX6_facts mlL_59 (c_X6_facts hi ) dL_arePartsRight_5 ⟨by decide, by decide⟩ (by first | exact ⟨by decide, by decide⟩ | (constructor <;> dsimp only <;> omega)) rfl rfl (Nat.le_of_ble_eq_true rfl) (by first | assumption | decide) rfl rfl rfl (fun r5 h5 => ?_)
  refine j_icmp_gt G 29 dL_arePartsRight_8 (by decide) (by omega) (by omega) (fun c8 => ?_) (fun c8 => ?_)
  · exfalso; omega
  · refine j_aload_n G dL_arePartsRight_11 rfl ?_
    refine j_cVI G cvX6_least mlL_137 (c_X6_least hi hS hW) dL_arePartsRight_12 ⟨by decide, by decide⟩ (by first | exact ⟨by decide, by decide⟩ | (constructor <;> dsimp only <;> omega)) rfl rfl (Nat.le_of_ble_eq_true rfl) (by first | assumption | decide) rfl rfl rfl (fun r12 h12 => ?_)
    refine j_aload_n G dL_arePartsRight_15 rfl ?_
    refine j_cVI G cvX6_greatest mlL_140 (c_X6_greatest hi hS hW) dL_arePartsRight_16 ⟨by decide, by decide⟩ (by first | exact ⟨by decide, by decide⟩ | (constructor <;> dsimp only <;> omega)) rfl rfl (Nat.le_of_ble_eq_true rfl) (by first | assumption | decide) rfl rfl rfl (fun r16 h16 => ?_)
    refine j_icmp_le G 31 dL_arePartsRight_19 (by decide) (by omega) (by omega) (fun c19 => ?_) (fun c19 => ?_)
    · refine j_iconst G dL_arePartsRight_31 ?_
      refine j_istore_n G dL_arePartsRight_32 (by decide) rfl ?_
      exact K _ 0 Z _ _ rfl (by omega) (by omega) hS (by omega) (by omega)
    · refine j_aload_n G dL_arePartsRight_22 rfl ?_
      refine j_cVI G cvX6_count mlL_134 (c_X6_count hi hS hW) dL_arePartsRight_23 ⟨by decide, by decide⟩ (by first | exact ⟨by decide, by decide⟩ | (constructor <;> dsimp only <;> omega)) rfl rfl (Nat.le_of_ble_eq_true rfl) (by first | assumption | decide) rfl rfl rfl (fun r23 h23 => ?_)
      refine j_if_le G 31 dL_arePartsRight_26 (by decide) (by omega) (fun c26 => ?_) (fun c26 => ?_)
      · refine j_iconst G dL_arePartsRight_31 ?_
        refine j_istore_n G dL_arePartsRight_32 (by decide) rfl ?_
        exact K _ 0 Z _ _ rfl (by omega) (by omega) hS (by omega) (by omega)
      · exfalso
        have := hll (by omega)
        omega

