theorem dX7_childrenOf_0 : decode cX7_childrenOf 0 = .ok (.aload_n 0, 1) := by decide +kernel
theorem dX7_childrenOf_1 : decode cX7_childrenOf 1 = .ok (.iload_n 1, 1) := by decide +kernel
theorem dX7_childrenOf_2 : decode cX7_childrenOf 2 = .ok (.aload_n 0, 1) := by decide +kernel
theorem dX7_childrenOf_3 : decode cX7_childrenOf 3 = .ok (.getfield 26, 3) := by decide +kernel
theorem dX7_childrenOf_6 : decode cX7_childrenOf 6 = .ok (.iload_n 1, 1) := by decide +kernel
theorem dX7_childrenOf_7 : decode cX7_childrenOf 7 = .ok (.iaload, 1) := by decide +kernel
theorem dX7_childrenOf_8 : decode cX7_childrenOf 8 = .ok (.aload_n 0, 1) := by decide +kernel
theorem dX7_childrenOf_9 : decode cX7_childrenOf 9 = .ok (.iload_n 1, 1) := by decide +kernel
theorem dX7_childrenOf_10 : decode cX7_childrenOf 10 = .ok (.aload_n 0, 1) := by decide +kernel
theorem dX7_childrenOf_11 : decode cX7_childrenOf 11 = .ok (.getfield 26, 3) := by decide +kernel
theorem dX7_childrenOf_14 : decode cX7_childrenOf 14 = .ok (.iload_n 1, 1) := by decide +kernel
theorem dX7_childrenOf_15 : decode cX7_childrenOf 15 = .ok (.iaload, 1) := by decide +kernel
theorem dX7_childrenOf_16 : decode cX7_childrenOf 16 = .ok (.invokevirtual 67, 3) := by decide +kernel
theorem dX7_childrenOf_19 : decode cX7_childrenOf 19 = .ok (.iconst 1, 1) := by decide +kernel
theorem dX7_childrenOf_20 : decode cX7_childrenOf 20 = .ok (.iadd, 1) := by decide +kernel
theorem dX7_childrenOf_21 : decode cX7_childrenOf 21 = .ok (.invokevirtual 112, 3) := by decide +kernel
theorem dX7_childrenOf_24 : decode cX7_childrenOf 24 = .ok (.areturn, 1) := by decide +kernel
theorem dX7_sumAt_0 : decode cX7_sumAt 0 = .ok (.aload_n 0, 1) := by decide +kernel
theorem dX7_sumAt_1 : decode cX7_sumAt 1 = .ok (.getfield 26, 3) := by decide +kernel
theorem dX7_sumAt_4 : decode cX7_sumAt 4 = .ok (.iload_n 1, 1) := by decide +kernel
theorem dX7_sumAt_5 : decode cX7_sumAt 5 = .ok (.iaload, 1) := by decide +kernel
theorem dX7_sumAt_6 : decode cX7_sumAt 6 = .ok (.istore_n 3, 1) := by decide +kernel
theorem dX7_sumAt_7 : decode cX7_sumAt 7 = .ok (.aload_n 0, 1) := by decide +kernel
theorem dX7_sumAt_8 : decode cX7_sumAt 8 = .ok (.getfield 26, 3) := by decide +kernel
theorem dX7_sumAt_11 : decode cX7_sumAt 11 = .ok (.iload_n 1, 1) := by decide +kernel
theorem dX7_sumAt_12 : decode cX7_sumAt 12 = .ok (.iload_n 2, 1) := by decide +kernel
theorem dX7_sumAt_13 : decode cX7_sumAt 13 = .ok (.iastore, 1) := by decide +kernel
theorem dX7_sumAt_14 : decode cX7_sumAt 14 = .ok (.aload_n 0, 1) := by decide +kernel
theorem dX7_sumAt_15 : decode cX7_sumAt 15 = .ok (.invokevirtual 133, 3) := by decide +kernel
theorem dX7_sumAt_18 : decode cX7_sumAt 18 = .ok (.istore 4, 2) := by decide +kernel
theorem dX7_sumAt_20 : decode cX7_sumAt 20 = .ok (.aload_n 0, 1) := by decide +kernel
theorem dX7_sumAt_21 : decode cX7_sumAt 21 = .ok (.getfield 26, 3) := by decide +kernel
theorem dX7_sumAt_24 : decode cX7_sumAt 24 = .ok (.iload_n 1, 1) := by decide +kernel
theorem dX7_sumAt_25 : decode cX7_sumAt 25 = .ok (.iload_n 3, 1) := by decide +kernel
theorem dX7_sumAt_26 : decode cX7_sumAt 26 = .ok (.iastore, 1) := by decide +kernel
theorem dX7_sumAt_27 : decode cX7_sumAt 27 = .ok (.iload 4, 2) := by decide +kernel
theorem dX7_sumAt_29 : decode cX7_sumAt 29 = .ok (.ireturn, 1) := by decide +kernel
theorem dX7_sums_0 : decode cX7_sums 0 = .ok (.aload_n 0, 1) := by decide +kernel
theorem dX7_sums_1 : decode cX7_sums 1 = .ok (.iload_n 1, 1) := by decide +kernel
theorem dX7_sums_2 : decode cX7_sums 2 = .ok (.invokevirtual 139, 3) := by decide +kernel
theorem dX7_sums_5 : decode cX7_sums 5 = .ok (.astore_n 2, 1) := by decide +kernel
theorem dX7_sums_6 : decode cX7_sums 6 = .ok (.aload_n 2, 1) := by decide +kernel
theorem dX7_sums_7 : decode cX7_sums 7 = .ok (.arraylength, 1) := by decide +kernel
theorem dX7_sums_8 : decode cX7_sums 8 = .ok (.newarray .int, 2) := by decide +kernel
theorem dX7_sums_10 : decode cX7_sums 10 = .ok (.astore_n 3, 1) := by decide +kernel
theorem dX7_sums_11 : decode cX7_sums 11 = .ok (.iconst 0, 1) := by decide +kernel
theorem dX7_sums_12 : decode cX7_sums 12 = .ok (.istore 4, 2) := by decide +kernel
theorem dX7_sums_14 : decode cX7_sums 14 = .ok (.iload 4, 2) := by decide +kernel
theorem dX7_sums_16 : decode cX7_sums 16 = .ok (.aload_n 2, 1) := by decide +kernel
theorem dX7_sums_17 : decode cX7_sums 17 = .ok (.arraylength, 1) := by decide +kernel
theorem dX7_sums_18 : decode cX7_sums 18 = .ok (.if_icmp .ge 22, 3) := by decide +kernel
theorem dX7_sums_21 : decode cX7_sums 21 = .ok (.aload_n 3, 1) := by decide +kernel
theorem dX7_sums_22 : decode cX7_sums 22 = .ok (.iload 4, 2) := by decide +kernel
theorem dX7_sums_24 : decode cX7_sums 24 = .ok (.aload_n 0, 1) := by decide +kernel
theorem dX7_sums_25 : decode cX7_sums 25 = .ok (.iload_n 1, 1) := by decide +kernel
theorem dX7_sums_26 : decode cX7_sums 26 = .ok (.aload_n 2, 1) := by decide +kernel
theorem dX7_sums_27 : decode cX7_sums 27 = .ok (.iload 4, 2) := by decide +kernel
theorem dX7_sums_29 : decode cX7_sums 29 = .ok (.iaload, 1) := by decide +kernel
theorem dX7_sums_30 : decode cX7_sums 30 = .ok (.invokevirtual 143, 3) := by decide +kernel
theorem dX7_sums_33 : decode cX7_sums 33 = .ok (.iastore, 1) := by decide +kernel
theorem dX7_sums_34 : decode cX7_sums 34 = .ok (.iinc 4 1, 3) := by decide +kernel
theorem dX7_sums_37 : decode cX7_sums 37 = .ok (.goto (-23), 3) := by decide +kernel
theorem dX7_sums_40 : decode cX7_sums 40 = .ok (.aload_n 3, 1) := by decide +kernel
theorem dX7_sums_41 : decode cX7_sums 41 = .ok (.areturn, 1) := by decide +kernel
theorem dX7_rankOf_0 : decode cX7_rankOf 0 = .ok (.iconst 0, 1) := by decide +kernel
theorem dX7_rankOf_1 : decode cX7_rankOf 1 = .ok (.istore_n 2, 1) := by decide +kernel
theorem dX7_rankOf_2 : decode cX7_rankOf 2 = .ok (.iconst 0, 1) := by decide +kernel
theorem dX7_rankOf_3 : decode cX7_rankOf 3 = .ok (.istore_n 3, 1) := by decide +kernel
theorem dX7_rankOf_4 : decode cX7_rankOf 4 = .ok (.iload_n 3, 1) := by decide +kernel
theorem dX7_rankOf_5 : decode cX7_rankOf 5 = .ok (.aload_n 0, 1) := by decide +kernel
theorem dX7_rankOf_6 : decode cX7_rankOf 6 = .ok (.arraylength, 1) := by decide +kernel
theorem dX7_rankOf_7 : decode cX7_rankOf 7 = .ok (.if_icmp .ge 40, 3) := by decide +kernel
theorem dX7_rankOf_10 : decode cX7_rankOf 10 = .ok (.iload_n 2, 1) := by decide +kernel
theorem dX7_rankOf_11 : decode cX7_rankOf 11 = .ok (.aload_n 0, 1) := by decide +kernel
theorem dX7_rankOf_12 : decode cX7_rankOf 12 = .ok (.iload_n 3, 1) := by decide +kernel
theorem dX7_rankOf_13 : decode cX7_rankOf 13 = .ok (.iaload, 1) := by decide +kernel
theorem dX7_rankOf_14 : decode cX7_rankOf 14 = .ok (.aload_n 0, 1) := by decide +kernel
theorem dX7_rankOf_15 : decode cX7_rankOf 15 = .ok (.iload_n 1, 1) := by decide +kernel
theorem dX7_rankOf_16 : decode cX7_rankOf 16 = .ok (.iaload, 1) := by decide +kernel
theorem dX7_rankOf_17 : decode cX7_rankOf 17 = .ok (.if_icmp .gt 17, 3) := by decide +kernel
theorem dX7_rankOf_20 : decode cX7_rankOf 20 = .ok (.aload_n 0, 1) := by decide +kernel
theorem dX7_rankOf_21 : decode cX7_rankOf 21 = .ok (.iload_n 3, 1) := by decide +kernel
theorem dX7_rankOf_22 : decode cX7_rankOf 22 = .ok (.iaload, 1) := by decide +kernel
theorem dX7_rankOf_23 : decode cX7_rankOf 23 = .ok (.aload_n 0, 1) := by decide +kernel
theorem dX7_rankOf_24 : decode cX7_rankOf 24 = .ok (.iload_n 1, 1) := by decide +kernel
theorem dX7_rankOf_25 : decode cX7_rankOf 25 = .ok (.iaload, 1) := by decide +kernel
theorem dX7_rankOf_26 : decode cX7_rankOf 26 = .ok (.if_icmp .ne 12, 3) := by decide +kernel
theorem dX7_rankOf_29 : decode cX7_rankOf 29 = .ok (.iload_n 3, 1) := by decide +kernel
theorem dX7_rankOf_30 : decode cX7_rankOf 30 = .ok (.iload_n 1, 1) := by decide +kernel
theorem dX7_rankOf_31 : decode cX7_rankOf 31 = .ok (.if_icmp .ge 7, 3) := by decide +kernel
theorem dX7_rankOf_34 : decode cX7_rankOf 34 = .ok (.iconst 1, 1) := by decide +kernel
theorem dX7_rankOf_35 : decode cX7_rankOf 35 = .ok (.goto 4, 3) := by decide +kernel
theorem dX7_rankOf_38 : decode cX7_rankOf 38 = .ok (.iconst 0, 1) := by decide +kernel
theorem dX7_rankOf_39 : decode cX7_rankOf 39 = .ok (.iadd, 1) := by decide +kernel
theorem dX7_rankOf_40 : decode cX7_rankOf 40 = .ok (.istore_n 2, 1) := by decide +kernel
theorem dX7_rankOf_41 : decode cX7_rankOf 41 = .ok (.iinc 3 1, 3) := by decide +kernel
theorem dX7_rankOf_44 : decode cX7_rankOf 44 = .ok (.goto (-40), 3) := by decide +kernel
theorem dX7_rankOf_47 : decode cX7_rankOf 47 = .ok (.iload_n 2, 1) := by decide +kernel
theorem dX7_rankOf_48 : decode cX7_rankOf 48 = .ok (.ireturn, 1) := by decide +kernel
theorem dX7_ofRank_0 : decode cX7_ofRank 0 = .ok (.iconst 0, 1) := by decide +kernel
theorem dX7_ofRank_1 : decode cX7_ofRank 1 = .ok (.istore_n 2, 1) := by decide +kernel
theorem dX7_ofRank_2 : decode cX7_ofRank 2 = .ok (.aload_n 0, 1) := by decide +kernel
theorem dX7_ofRank_3 : decode cX7_ofRank 3 = .ok (.iload_n 2, 1) := by decide +kernel
theorem dX7_ofRank_4 : decode cX7_ofRank 4 = .ok (.invokestatic 146, 3) := by decide +kernel
theorem dX7_ofRank_7 : decode cX7_ofRank 7 = .ok (.iload_n 1, 1) := by decide +kernel
theorem dX7_ofRank_8 : decode cX7_ofRank 8 = .ok (.if_icmp .eq 9, 3) := by decide +kernel
theorem dX7_ofRank_11 : decode cX7_ofRank 11 = .ok (.iinc 2 1, 3) := by decide +kernel
theorem dX7_ofRank_14 : decode cX7_ofRank 14 = .ok (.goto (-12), 3) := by decide +kernel
theorem dX7_ofRank_17 : decode cX7_ofRank 17 = .ok (.iload_n 2, 1) := by decide +kernel
theorem dX7_ofRank_18 : decode cX7_ofRank 18 = .ok (.ireturn, 1) := by decide +kernel
/-! by program: wip/whole/gen.py out of wip/whole/src/32.sums.eb -/
/-! EbbTableModel: children, their sums, their ranks -/
set_option maxRecDepth 100000 in
set_option maxHeartbeats 8000000 in
theorem c_X7_childrenOf {l : Launch} {D : va_G} {cys : Nat → ClassId} {ad : Nat → Int → Nat} {L : List Nat} {g : Nat → va_E} {X : Int64} {Z : ZT} (hi : injA ad) {S : ZT} {d : Int} (hS : RMZ S Z) (hW : WF S) (hd : 0 ≤ d ∧ d < S 0 0 5) : CM l D cys ad yX7_childrenOf cX7_childrenOf 2 (some (.array .int)) 6 156 2 48 [.ref (ad 24 0), .int (iI d)] L g X Z (PGA L g X Z (fun r L9 g9 X9 Z9 => r ∉ L ∧ AR cys ad L9 g9 r (kids S d) ∧ EXT L g L9 g9 ∧ X9 = X ∧ Z9 = Z)) := by
  refine cm_start hi (by decide +kernel) (Nat.le_of_ble_eq_true rfl) ?_
  intro p_ e_ s_ m_ args_ below_ meth_ c_ A_ Q_ hQ G hr hin
  have hn := hW.n
  have ht := hW.t hd.1 hd.2
  have ht1 := ht.1
  have hpp : 0 ≤ S 2 d 5 ∧ S 2 d 5 < S 2 d 4 := by omega
  have hpm := ht.at hpp.1 hpp.2
  unfold MOK at hpm
  have e31 := (hS.d hd.1 (by omega)).2.2.1
  refine j_aload_n G dX7_childrenOf_0 rfl ?_
  refine j_iload_n G dX7_childrenOf_1 rfl ?_
  refine j_aload_n G dX7_childrenOf_2 rfl ?_
  refine gf_24_6 G dX7_childrenOf_3 lf7_26 (by first | assumption | decide) ?_
  refine j_iload_n G dX7_childrenOf_6 rfl ?_
  refine al_31 G dX7_childrenOf_7 (by first | assumption | decide) (by omega) (by omega) ?_
  refine j_aload_n G dX7_childrenOf_8 rfl ?_
  refine j_iload_n G dX7_childrenOf_9 rfl ?_
  refine j_aload_n G dX7_childrenOf_10 rfl ?_
  refine gf_24_6 G dX7_childrenOf_11 lf7_26 (by first | assumption | decide) ?_
  refine j_iload_n G dX7_childrenOf_14 rfl ?_
  refine al_31 G dX7_childrenOf_15 (by first | assumption | decide) (by omega) (by omega) ?_
  rw [e31]
  refine j_cVI G cvX7_depth ml7_67 (c_X7_depth hi hS hW hd hpp) dX7_childrenOf_16 ⟨by decide, by decide⟩ (by first | exact ⟨by decide, by decide⟩ | (constructor <;> dsimp only <;> omega)) rfl rfl (Nat.le_of_ble_eq_true rfl) (by first | assumption | decide) rfl rfl rfl (fun r16 h16 => ?_)
  subst h16
  have hw : 0 ≤ S 4 d (S 2 d 5) + 1 ∧ S 4 d (S 2 d 5) + 1 ≤ 4 := by omega
  refine j_iconst G dX7_childrenOf_19 ?_
  refine j_iadd G dX7_childrenOf_20 ?_
  refine j_cVGA G cvX7_membersOf ml7_112 (c_X7_membersOf hi hS hW hd hpp hw) dX7_childrenOf_21 ⟨by decide, by decide⟩ (by first | exact ⟨by decide, by decide⟩ | (constructor <;> dsimp only <;> omega)) rfl rfl (Nat.le_of_ble_eq_true rfl) (by first | assumption | decide) rfl rfl rfl (fun r21 L21 g21 X21 Z21 h21 => ?_)
  refine jr_GA G hQ hr (Or.inr ⟨_, rfl⟩) dX7_childrenOf_24 (by first | decide | omega) (by first | decide | omega) ?_
  exact h21
set_option maxRecDepth 100000 in
set_option maxHeartbeats 8000000 in
theorem c_X7_sumAt {l : Launch} {D : va_G} {cys : Nat → ClassId} {ad : Nat → Int → Nat} {L : List Nat} {g : Nat → va_E} {X : Int64} {Z : ZT} (hi : injA ad) {S : ZT} {d q : Int} (hS : RMZ S Z) (hRL : RML cys ad S L g) (hW : WF S) (hd : 0 ≤ d ∧ d < S 0 0 5) (hq : q ∈ kids S d) : CM l D cys ad yX7_sumAt cX7_sumAt 5 (some .int) 4 92 0 0 [.ref (ad 24 0), .int (iI d), .int (iI q)] L g X Z (PI L g X Z (fun r => r = csum S d q)) := by
  refine cm_start hi (by decide +kernel) (Nat.le_of_ble_eq_true rfl) ?_
  intro p_ e_ s_ m_ args_ below_ meth_ c_ A_ Q_ hQ G hr hin
  have hn := hW.n
  have hd4 : 0 ≤ d ∧ d < 4 := by omega
  have hqk := (kids_ok hW hd.1 hd.2).2 q hq
  have hS' := hS.pt hd4.1 hd4.2 q
  have hR' := hRL.pt d q
  have hW' := hW.goTo (M_goTo.z S d q) hd.2 hqk.1 hqk.2
  refine j_aload_n G dX7_sumAt_0 rfl ?_
  refine gf_24_6 G dX7_sumAt_1 lf7_26 (by first | assumption | decide) ?_
  refine j_iload_n G dX7_sumAt_4 rfl ?_
  refine al_31 G dX7_sumAt_5 (by first | assumption | decide) (by omega) (by omega) ?_
  refine j_istore_n G dX7_sumAt_6 (by decide) rfl ?_
  refine j_aload_n G dX7_sumAt_7 rfl ?_
  refine gf_24_6 G dX7_sumAt_8 lf7_26 (by first | assumption | decide) ?_
  refine j_iload_n G dX7_sumAt_11 rfl ?_
  refine j_iload_n G dX7_sumAt_12 rfl ?_
  refine as_31 G dX7_sumAt_13 (by first | assumption | decide) (by omega) (by omega) ?_
  refine j_aload_n G dX7_sumAt_14 rfl ?_
  refine j_cVI G cvX7_sumNow ml7_133 (c_X7_sumNow hi hS' hR' hW') dX7_sumAt_15 ⟨by decide, by decide⟩ ⟨by decide, by decide⟩ rfl rfl (Nat.le_of_ble_eq_true rfl) (by first | assumption | decide) rfl rfl rfl (fun r15 h15 => ?_)
  rw [SUM_pt hW hd.1 hd.2 hq] at h15
  refine j_istore G dX7_sumAt_18 (by decide) rfl ?_
  refine j_aload_n G dX7_sumAt_20 rfl ?_
  refine gf_24_6 G dX7_sumAt_21 lf7_26 (by first | assumption | decide) ?_
  refine j_iload_n G dX7_sumAt_24 rfl ?_
  refine j_iload_n G dX7_sumAt_25 rfl ?_
  refine as_31 G dX7_sumAt_26 (by first | assumption | decide) (by omega) (by omega) ?_
  rw [zS_back]
  refine j_iload G dX7_sumAt_27 rfl ?_
  refine jr_I G hQ hr dX7_sumAt_29 (by decide) (by decide) ?_
  try simp (config := { decide := true }) only [zS_k, zS_s, zS_j, ne_eq]
  exact h15
set_option maxRecDepth 100000 in
set_option maxHeartbeats 8000000 in
theorem c_X7_sums {l : Launch} {D : va_G} {cys : Nat → ClassId} {ad : Nat → Int → Nat} {L : List Nat} {g : Nat → va_E} {X : Int64} {Z : ZT} (hi : injA ad) {S : ZT} {d : Int} (hS : RMZ S Z) (hRL : RML cys ad S L g) (hW : WF S) (hd : 0 ≤ d ∧ d < S 0 0 5) : CM l D cys ad yX7_sums cX7_sums 5 (some (.array .int)) 7 177 3 72 [.ref (ad 24 0), .int (iI d)] L g X Z (PGA L g X Z (fun r L9 g9 X9 Z9 => r ∉ L ∧ AR cys ad L9 g9 r (SUML S d) ∧ EXT L g L9 g9 ∧ X9 = X ∧ Z9 = Z)) := by
  refine cm_start hi (by decide +kernel) (Nat.le_of_ble_eq_true rfl) ?_
  intro p_ e_ s_ m_ args_ below_ meth_ c_ A_ Q_ hQ G hr hin
  have hn := hW.n
  have hkk := kids_ok hW hd.1 hd.2
  have hk24 := hkk.1
  refine j_aload_n G dX7_sums_0 rfl ?_
  refine j_iload_n G dX7_sums_1 rfl ?_
  refine j_cVGA G cvX7_childrenOf ml7_139 (c_X7_childrenOf hi hS hW hd) dX7_sums_2 ⟨by decide, by decide⟩ (by first | exact ⟨by decide, by decide⟩ | (constructor <;> dsimp only <;> omega)) rfl rfl (Nat.le_of_ble_eq_true rfl) (by first | assumption | decide) rfl rfl rfl (fun r2 L2 g2 X2 Z2 h2 => ?_)
  obtain ⟨p1, p2, p3, eX, eZ⟩ := h2
  subst X2 Z2
  refine j_astore_n G dX7_sums_5 (by decide) rfl ?_
  refine j_aload_n G dX7_sums_6 rfl ?_
  refine j_dnA G dX7_sums_7 (by assumption) ?_
  refine j_newI G dX7_sums_8 (TW_of 124 (by decide +kernel) (by decide +kernel)) (by omega) (by omega) (by first | exact ⟨by decide, by decide⟩ | (constructor <;> dsimp only <;> omega)) (fun a8 na8 ns8 => ?_)
  have hE8 : EXT L2 g2 (L2 ++ [a8]) (va_up g2 a8 (dA cys (List.replicate ((kids S d).length : Int).toNat 0))) := (EXT.rf L2 g2).push na8 _
  have hk8 := p2.ext hE8
  have hne : r2 ≠ a8 := fun z => na8 (z ▸ p2.1)
  refine j_astore_n G dX7_sums_10 (by decide) rfl ?_
  refine j_iconst G dX7_sums_11 ?_
  refine j_istore G dX7_sums_12 (by decide) rfl ?_
  have loop : ∀ (n : Nat) (k : Int) (V : List Int) (g1 : Nat → va_E), 0 ≤ k → k ≤ (kids S d).length → ((kids S d).length - k).toNat = n → V.length = (kids S d).length → (∀ j : Nat, j < k → V.getD j 0 = (SUML S d).getD j 0) → AR cys ad (L2 ++ [a8]) g1 a8 V → AR cys ad (L2 ++ [a8]) g1 r2 (kids S d) → EXT L2 g2 (L2 ++ [a8]) g1 → JJ p_ l e_ { frames := 7, cells := 3, slots := 72, locals := 177 } s_ m_ args_ below_ meth_ c_ D cys ad A_ Q_ 5 3 (0 + 48 + ((kids S d).length : Int).toNat) (L2 ++ [a8]) g1 X Z 14 [(0, .ref (ad 24 0)), (1, .int (iI d)), (2, .ref r2), (3, .ref a8), (4, .int (iI k))] [] := by
    intro n
    induction n with
    | zero =>
      intro k V g1 h0 h1 h2 h3 h4 h5 h6 h7
      have ek : k = (kids S d).length := by omega
      subst ek
      refine j_iload G dX7_sums_14 rfl ?_
      refine j_aload_n G dX7_sums_16 rfl ?_
      refine j_dnA G dX7_sums_17 h6 ?_
      refine j_icmp_ge G 40 dX7_sums_18 (by decide) (by omega) (by omega) (fun c18 => ?_) (fun c18 => ?_)
      · refine j_aload_n G dX7_sums_40 rfl ?_
        refine jr_GA G hQ hr (Or.inr ⟨_, rfl⟩) dX7_sums_41 (by first | decide | omega) (by first | decide | omega) ?_
        have eV : V = SUML S d := ext_getD (by rw [h3, SUML_len]) (fun j hj => h4 j (by rw [SUML_len] at hj; omega))
        rw [eV] at h5
        exact ⟨fun z => na8 (p3.1 _ z), h5, p3.tr h7, rfl, rfl⟩
      · exfalso; omega
    | succ n ih =>
      intro k V g1 h0 h1 h2 h3 h4 h5 h6 h7
      have hRL1 := hRL.ext (p3.tr h7)
      have hgm : (kids S d).getD k.toNat 0 ∈ kids S d := getD_mem h0 (by omega)
      refine j_iload G dX7_sums_14 rfl ?_
      refine j_aload_n G dX7_sums_16 rfl ?_
      refine j_dnA G dX7_sums_17 h6 ?_
      refine j_icmp_ge G 40 dX7_sums_18 (by decide) (by omega) (by omega) (fun c18 => ?_) (fun c18 => ?_)
      · exfalso; omega
      · refine j_aload_n G dX7_sums_21 rfl ?_
        refine j_iload G dX7_sums_22 rfl ?_
        refine j_aload_n G dX7_sums_24 rfl ?_
        refine j_iload_n G dX7_sums_25 rfl ?_
        refine j_aload_n G dX7_sums_26 rfl ?_
        refine j_iload G dX7_sums_27 rfl ?_
        refine j_dlA G dX7_sums_29 h6 (by first | omega | decide) (by omega) (by omega) ?_
        refine j_cVI G cvX7_sumAt ml7_143 (c_X7_sumAt hi hS hRL1 hW hd hgm) dX7_sums_30 ⟨by decide, by decide⟩ (by first | exact ⟨by decide, by decide⟩ | (constructor <;> dsimp only <;> omega)) rfl rfl (Nat.le_of_ble_eq_true rfl) (by first | assumption | decide) rfl rfl rfl (fun r30 h30 => ?_)
        refine j_dst G dX7_sums_33 h5 (by first | omega | decide) (by omega) (by omega) ?_
        refine j_iinc G dX7_sums_34 rfl (by decide) rfl ?_
        refine j_goto G 14 dX7_sums_37 (by decide) ?_
        refine ih (k + 1) (V.set k.toNat r30) _ (by omega) (by omega) (by omega) (by rw [List.length_set]; exact h3) (fun j hj => ?_) ⟨h5.1, h5.2.1, va_up_self _ _ _⟩ ⟨h6.1, h6.2.1, ?_⟩ (h7.up na8 _)
        · rw [getD_set (by omega)]
          by_cases e : j = k.toNat
          · rw [if_pos e, e, (SUML_at h0 (by omega)).1, (SUML_at h0 (by omega)).2]
            exact h30
          · rw [if_neg e]; exact h4 j (by omega)
        · rw [va_up_ne _ _ hne]; exact h6.2.2
  exact loop _ 0 (List.replicate ((kids S d).length : Int).toNat 0) _ (by omega) (by omega) rfl (by rw [List.length_replicate]; omega) (fun j hj => by omega) ⟨List.mem_append_right _ (List.mem_singleton.mpr rfl), ns8, va_up_self _ _ _⟩ hk8 hE8
set_option maxRecDepth 100000 in
set_option maxHeartbeats 8000000 in
theorem c_X7_rankOf {l : Launch} {D : va_G} {cys : Nat → ClassId} {ad : Nat → Int → Nat} {L : List Nat} {g : Nat → va_E} {X : Int64} {Z : ZT} (hi : injA ad) {a : Nat} {W : List Int} {q : Int} (hA : AR cys ad L g a W) (hl : W.length ≤ 24) (hrg : ∀ j : Int, 0 ≤ j → j < W.length → inR (W.getD j.toNat 0)) (hq : 0 ≤ q ∧ q < W.length) : CM l D cys ad yX7_rankOf cX7_rankOf 4 (some .int) 0 0 0 0 [.ref a, .int (iI q)] L g X Z (PI L g X Z (fun r => r = ahd (fun j => W.getD j.toNat 0) q W.length)) := by
  refine cm_start hi (by decide +kernel) (Nat.le_of_ble_eq_true rfl) ?_
  intro p_ e_ s_ m_ args_ below_ meth_ c_ A_ Q_ hQ G hr hin
  have loop : ∀ (n : Nat) (k b : Int), 0 ≤ k → k ≤ W.length → (W.length - k).toNat = n → b = sumTo (fun o => iv (W.getD q.toNat 0 < W.getD o.toNat 0 ∨ (W.getD o.toNat 0 = W.getD q.toNat 0 ∧ o < q))) k.toNat → JJ p_ l e_ { frames := 0, cells := 0, slots := 0, locals := 0 } s_ m_ args_ below_ meth_ c_ D cys ad A_ Q_ 4 0 0 L g X Z 4 [(0, .ref a), (1, .int (iI q)), (2, .int (iI b)), (3, .int (iI k))] [] := by
    intro n
    induction n with
    | zero =>
      intro k b h0 h1 h2 h3
      have ek : k = W.length := by omega
      subst ek
      refine j_iload_n G dX7_rankOf_4 rfl ?_
      refine j_aload_n G dX7_rankOf_5 rfl ?_
      refine j_dnA G dX7_rankOf_6 (by assumption) ?_
      refine j_icmp_ge G 47 dX7_rankOf_7 (by decide) (by omega) (by omega) (fun c7 => ?_) (fun c7 => ?_)
      · refine j_iload_n G dX7_rankOf_47 rfl ?_
        refine jr_I G hQ hr dX7_rankOf_48 (by decide) (by decide) ?_
        exact h3
      · exfalso; omega
    | succ n ih =>
      intro k b h0 h1 h2 h3
      have hrk := hrg k h0 (by omega)
      have hrq := hrg q hq.1 hq.2
      have hs := sumTo_s (f := fun o => iv (W.getD q.toNat 0 < W.getD o.toNat 0 ∨ (W.getD o.toNat 0 = W.getD q.toNat 0 ∧ o < q))) h0
      have hh1 : 0 ≤ k + 1 := by omega
      have hh2 : k + 1 ≤ W.length := by omega
      have hh3 : (W.length - (k + 1)).toNat = n := by omega
      refine j_iload_n G dX7_rankOf_4 rfl ?_
      refine j_aload_n G dX7_rankOf_5 rfl ?_
      refine j_dnA G dX7_rankOf_6 (by assumption) ?_
      refine j_icmp_ge G 47 dX7_rankOf_7 (by decide) (by omega) (by omega) (fun c7 => ?_) (fun c7 => ?_)
      · exfalso; omega
      · refine j_iload_n G dX7_rankOf_10 rfl ?_
        refine j_aload_n G dX7_rankOf_11 rfl ?_
        refine j_iload_n G dX7_rankOf_12 rfl ?_
        refine j_dlA G dX7_rankOf_13 (by assumption) (by first | omega | decide) (by omega) (by omega) ?_
        refine j_aload_n G dX7_rankOf_14 rfl ?_
        refine j_iload_n G dX7_rankOf_15 rfl ?_
        refine j_dlA G dX7_rankOf_16 (by assumption) (by first | omega | decide) (by omega) (by omega) ?_
        refine j_icmp_gt G 34 dX7_rankOf_17 (by decide) (by omega) (by omega) (fun c17 => ?_) (fun c17 => ?_)
        · refine j_iconst G dX7_rankOf_34 ?_
          refine j_goto G 39 dX7_rankOf_35 (by decide) ?_
          refine j_iadd G dX7_rankOf_39 ?_
          refine j_istore_n G dX7_rankOf_40 (by decide) rfl ?_
          refine j_iinc G dX7_rankOf_41 rfl (by decide) rfl ?_
          refine j_goto G 4 dX7_rankOf_44 (by decide) ?_
          refine ih (k + 1) _ hh1 hh2 hh3 ?_
          rw [hs, ← h3]
          first
          | rw [iv_t (by omega)]
          | rw [iv_f (by omega)]
        · refine j_aload_n G dX7_rankOf_20 rfl ?_
          refine j_iload_n G dX7_rankOf_21 rfl ?_
          refine j_dlA G dX7_rankOf_22 (by assumption) (by first | omega | decide) (by omega) (by omega) ?_
          refine j_aload_n G dX7_rankOf_23 rfl ?_
          refine j_iload_n G dX7_rankOf_24 rfl ?_
          refine j_dlA G dX7_rankOf_25 (by assumption) (by first | omega | decide) (by omega) (by omega) ?_
          refine j_icmp_ne G 38 dX7_rankOf_26 (by decide) (by omega) (by omega) (fun c26 => ?_) (fun c26 => ?_)
          · refine j_iconst G dX7_rankOf_38 ?_
            refine j_iadd G dX7_rankOf_39 ?_
            refine j_istore_n G dX7_rankOf_40 (by decide) rfl ?_
            refine j_iinc G dX7_rankOf_41 rfl (by decide) rfl ?_
            refine j_goto G 4 dX7_rankOf_44 (by decide) ?_
            refine ih (k + 1) _ hh1 hh2 hh3 ?_
            rw [hs, ← h3]
            first
            | rw [iv_t (by omega)]
            | rw [iv_f (by omega)]
          · refine j_iload_n G dX7_rankOf_29 rfl ?_
            refine j_iload_n G dX7_rankOf_30 rfl ?_
            refine j_icmp_ge G 38 dX7_rankOf_31 (by decide) (by omega) (by omega) (fun c31 => ?_) (fun c31 => ?_)
            · refine j_iconst G dX7_rankOf_38 ?_
              refine j_iadd G dX7_rankOf_39 ?_
              refine j_istore_n G dX7_rankOf_40 (by decide) rfl ?_
              refine j_iinc G dX7_rankOf_41 rfl (by decide) rfl ?_
              refine j_goto G 4 dX7_rankOf_44 (by decide) ?_
              refine ih (k + 1) _ hh1 hh2 hh3 ?_
              rw [hs, ← h3]
              first
              | rw [iv_t (by omega)]
              | rw [iv_f (by omega)]
            · refine j_iconst G dX7_rankOf_34 ?_
              refine j_goto G 39 dX7_rankOf_35 (by decide) ?_
              refine j_iadd G dX7_rankOf_39 ?_
              refine j_istore_n G dX7_rankOf_40 (by decide) rfl ?_
              refine j_iinc G dX7_rankOf_41 rfl (by decide) rfl ?_
              refine j_goto G 4 dX7_rankOf_44 (by decide) ?_
              refine ih (k + 1) _ hh1 hh2 hh3 ?_
              rw [hs, ← h3]
              first
              | rw [iv_t (by omega)]
              | rw [iv_f (by omega)]
  refine j_iconst G dX7_rankOf_0 ?_
  refine j_istore_n G dX7_rankOf_1 (by decide) rfl ?_
  refine j_iconst G dX7_rankOf_2 ?_
  refine j_istore_n G dX7_rankOf_3 (by decide) rfl ?_
  exact loop _ 0 0 (by omega) (by omega) rfl rfl
set_option maxRecDepth 100000 in
set_option maxHeartbeats 8000000 in
theorem c_X7_ofRank {l : Launch} {D : va_G} {cys : Nat → ClassId} {ad : Nat → Int → Nat} {L : List Nat} {g : Nat → va_E} {X : Int64} {Z : ZT} (hi : injA ad) {a : Nat} {W : List Int} {q : Int} (hA : AR cys ad L g a W) (hl : W.length ≤ 24) (hr' : ∀ j : Int, 0 ≤ j → j < W.length → inR (W.getD j.toNat 0)) (hq : 0 ≤ q ∧ q < W.length) : CM l D cys ad yX7_ofRank cX7_ofRank 3 (some .int) 1 23 0 0 [.ref a, .int (iI q)] L g X Z (PI L g X Z (fun r => r = rkF (fun j => W.getD j.toNat 0) W.length q)) := by
  refine cm_start hi (by decide +kernel) (Nat.le_of_ble_eq_true rfl) ?_
  intro p_ e_ s_ m_ args_ below_ meth_ c_ A_ Q_ hQ G hr hin
  have hrk := rkF_in (fun j => W.getD j.toNat 0) W.length q hq.1 hq.2
  have loop : ∀ (n : Nat) (k : Int), 0 ≤ k → k ≤ rkF (fun j => W.getD j.toNat 0) W.length q → (rkF (fun j => W.getD j.toNat 0) W.length q - k).toNat = n → JJ p_ l e_ { frames := 1, cells := 0, slots := 0, locals := 23 } s_ m_ args_ below_ meth_ c_ D cys ad A_ Q_ 3 0 0 L g X Z 2 [(0, .ref a), (1, .int (iI q)), (2, .int (iI k))] [] := by
    intro n
    induction n with
    | zero =>
      intro k h0 h1 h2
      have ek : k = rkF (fun j => W.getD j.toNat 0) W.length q := by omega
      have hkk : 0 ≤ k ∧ k < W.length := by omega
      have hab := ahd_bd (fun j => W.getD j.toNat 0) k W.length
      refine j_aload_n G dX7_ofRank_2 rfl ?_
      refine j_iload_n G dX7_ofRank_3 rfl ?_
      refine j_cSI G csX7_rankOf ml7_146 rfl (c_X7_rankOf hi hA hl hr' hkk) dX7_ofRank_4 ⟨by decide, by decide⟩ ⟨by decide, by decide⟩ rfl rfl (Nat.le_of_ble_eq_true rfl) (fun r4 h4 => ?_)
      subst h4
      refine j_iload_n G dX7_ofRank_7 rfl ?_
      refine j_icmp_eq G 17 dX7_ofRank_8 (by decide) (by omega) (by omega) (fun c8 => ?_) (fun c8 => ?_)
      · refine j_iload_n G dX7_ofRank_17 rfl ?_
        refine jr_I G hQ hr dX7_ofRank_18 (by decide) (by decide) ?_
        exact ek
      · exfalso
        rw [← ek] at hrk
        omega
    | succ n ih =>
      intro k h0 h1 h2
      have hkk : 0 ≤ k ∧ k < W.length := by omega
      have hab := ahd_bd (fun j => W.getD j.toNat 0) k W.length
      have hne := ahd_ne (s := fun j => W.getD j.toNat 0) (n := W.length) hkk.1 hkk.2 hrk.1 hrk.2.1 (by omega)
      refine j_aload_n G dX7_ofRank_2 rfl ?_
      refine j_iload_n G dX7_ofRank_3 rfl ?_
      refine j_cSI G csX7_rankOf ml7_146 rfl (c_X7_rankOf hi hA hl hr' hkk) dX7_ofRank_4 ⟨by decide, by decide⟩ ⟨by decide, by decide⟩ rfl rfl (Nat.le_of_ble_eq_true rfl) (fun r4 h4 => ?_)
      subst h4
      refine j_iload_n G dX7_ofRank_7 rfl ?_
      refine j_icmp_eq G 17 dX7_ofRank_8 (by decide) (by omega) (by omega) (fun c8 => ?_) (fun c8 => ?_)
      · exfalso; omega
      · refine j_iinc G dX7_ofRank_11 rfl (by decide) rfl ?_
        refine j_goto G 2 dX7_ofRank_14 (by decide) ?_
        exact ih (k + 1) (by omega) (by omega) (by omega)
  refine j_iconst G dX7_ofRank_0 ?_
  refine j_istore_n G dX7_ofRank_1 (by decide) rfl ?_
  exact loop _ 0 (by omega) (by omega) rfl

