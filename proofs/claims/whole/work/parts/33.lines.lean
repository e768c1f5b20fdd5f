theorem dX7_allLines_0 : decode cX7_allLines 0 = .ok (.aload_n 0, 1) := by decide +kernel
theorem dX7_allLines_1 : decode cX7_allLines 1 = .ok (.aload_n 0, 1) := by decide +kernel
theorem dX7_allLines_2 : decode cX7_allLines 2 = .ok (.getfield 39, 3) := by decide +kernel
theorem dX7_allLines_5 : decode cX7_allLines 5 = .ok (.iload_n 1, 1) := by decide +kernel
theorem dX7_allLines_6 : decode cX7_allLines 6 = .ok (.iaload, 1) := by decide +kernel
theorem dX7_allLines_7 : decode cX7_allLines 7 = .ok (.aload_n 0, 1) := by decide +kernel
theorem dX7_allLines_8 : decode cX7_allLines 8 = .ok (.getfield 26, 3) := by decide +kernel
theorem dX7_allLines_11 : decode cX7_allLines 11 = .ok (.aload_n 0, 1) := by decide +kernel
theorem dX7_allLines_12 : decode cX7_allLines 12 = .ok (.getfield 39, 3) := by decide +kernel
theorem dX7_allLines_15 : decode cX7_allLines 15 = .ok (.iload_n 1, 1) := by decide +kernel
theorem dX7_allLines_16 : decode cX7_allLines 16 = .ok (.iaload, 1) := by decide +kernel
theorem dX7_allLines_17 : decode cX7_allLines 17 = .ok (.iaload, 1) := by decide +kernel
theorem dX7_allLines_18 : decode cX7_allLines 18 = .ok (.aload_n 0, 1) := by decide +kernel
theorem dX7_allLines_19 : decode cX7_allLines 19 = .ok (.getfield 39, 3) := by decide +kernel
theorem dX7_allLines_22 : decode cX7_allLines 22 = .ok (.iload_n 1, 1) := by decide +kernel
theorem dX7_allLines_23 : decode cX7_allLines 23 = .ok (.iconst 1, 1) := by decide +kernel
theorem dX7_allLines_24 : decode cX7_allLines 24 = .ok (.iadd, 1) := by decide +kernel
theorem dX7_allLines_25 : decode cX7_allLines 25 = .ok (.iaload, 1) := by decide +kernel
theorem dX7_allLines_26 : decode cX7_allLines 26 = .ok (.invokevirtual 112, 3) := by decide +kernel
theorem dX7_allLines_29 : decode cX7_allLines 29 = .ok (.areturn, 1) := by decide +kernel
theorem dX7_isIn_0 : decode cX7_isIn 0 = .ok (.aload_n 0, 1) := by decide +kernel
theorem dX7_isIn_1 : decode cX7_isIn 1 = .ok (.iload_n 1, 1) := by decide +kernel
theorem dX7_isIn_2 : decode cX7_isIn 2 = .ok (.invokevirtual 126, 3) := by decide +kernel
theorem dX7_isIn_5 : decode cX7_isIn 5 = .ok (.ifCond .eq 61, 3) := by decide +kernel
theorem dX7_isIn_8 : decode cX7_isIn 8 = .ok (.aload_n 0, 1) := by decide +kernel
theorem dX7_isIn_9 : decode cX7_isIn 9 = .ok (.aload_n 0, 1) := by decide +kernel
theorem dX7_isIn_10 : decode cX7_isIn 10 = .ok (.getfield 39, 3) := by decide +kernel
theorem dX7_isIn_13 : decode cX7_isIn 13 = .ok (.iconst 0, 1) := by decide +kernel
theorem dX7_isIn_14 : decode cX7_isIn 14 = .ok (.iaload, 1) := by decide +kernel
theorem dX7_isIn_15 : decode cX7_isIn 15 = .ok (.aload_n 0, 1) := by decide +kernel
theorem dX7_isIn_16 : decode cX7_isIn 16 = .ok (.getfield 33, 3) := by decide +kernel
theorem dX7_isIn_19 : decode cX7_isIn 19 = .ok (.iload_n 1, 1) := by decide +kernel
theorem dX7_isIn_20 : decode cX7_isIn 20 = .ok (.aaload, 1) := by decide +kernel
theorem dX7_isIn_21 : decode cX7_isIn 21 = .ok (.aload_n 0, 1) := by decide +kernel
theorem dX7_isIn_22 : decode cX7_isIn 22 = .ok (.getfield 39, 3) := by decide +kernel
theorem dX7_isIn_25 : decode cX7_isIn 25 = .ok (.iconst 0, 1) := by decide +kernel
theorem dX7_isIn_26 : decode cX7_isIn 26 = .ok (.iaload, 1) := by decide +kernel
theorem dX7_isIn_27 : decode cX7_isIn 27 = .ok (.iaload, 1) := by decide +kernel
theorem dX7_isIn_28 : decode cX7_isIn 28 = .ok (.iload_n 2, 1) := by decide +kernel
theorem dX7_isIn_29 : decode cX7_isIn 29 = .ok (.invokevirtual 120, 3) := by decide +kernel
theorem dX7_isIn_32 : decode cX7_isIn 32 = .ok (.ifCond .eq 34, 3) := by decide +kernel
theorem dX7_isIn_35 : decode cX7_isIn 35 = .ok (.aload_n 0, 1) := by decide +kernel
theorem dX7_isIn_36 : decode cX7_isIn 36 = .ok (.aload_n 0, 1) := by decide +kernel
theorem dX7_isIn_37 : decode cX7_isIn 37 = .ok (.getfield 39, 3) := by decide +kernel
theorem dX7_isIn_40 : decode cX7_isIn 40 = .ok (.iconst 2, 1) := by decide +kernel
theorem dX7_isIn_41 : decode cX7_isIn 41 = .ok (.iaload, 1) := by decide +kernel
theorem dX7_isIn_42 : decode cX7_isIn 42 = .ok (.aload_n 0, 1) := by decide +kernel
theorem dX7_isIn_43 : decode cX7_isIn 43 = .ok (.getfield 33, 3) := by decide +kernel
theorem dX7_isIn_46 : decode cX7_isIn 46 = .ok (.iload_n 1, 1) := by decide +kernel
theorem dX7_isIn_47 : decode cX7_isIn 47 = .ok (.aaload, 1) := by decide +kernel
theorem dX7_isIn_48 : decode cX7_isIn 48 = .ok (.aload_n 0, 1) := by decide +kernel
theorem dX7_isIn_49 : decode cX7_isIn 49 = .ok (.getfield 39, 3) := by decide +kernel
theorem dX7_isIn_52 : decode cX7_isIn 52 = .ok (.iconst 2, 1) := by decide +kernel
theorem dX7_isIn_53 : decode cX7_isIn 53 = .ok (.iaload, 1) := by decide +kernel
theorem dX7_isIn_54 : decode cX7_isIn 54 = .ok (.iaload, 1) := by decide +kernel
theorem dX7_isIn_55 : decode cX7_isIn 55 = .ok (.iload_n 3, 1) := by decide +kernel
theorem dX7_isIn_56 : decode cX7_isIn 56 = .ok (.invokevirtual 120, 3) := by decide +kernel
theorem dX7_isIn_59 : decode cX7_isIn 59 = .ok (.ifCond .eq 7, 3) := by decide +kernel
theorem dX7_isIn_62 : decode cX7_isIn 62 = .ok (.iconst 1, 1) := by decide +kernel
theorem dX7_isIn_63 : decode cX7_isIn 63 = .ok (.goto 4, 3) := by decide +kernel
theorem dX7_isIn_66 : decode cX7_isIn 66 = .ok (.iconst 0, 1) := by decide +kernel
theorem dX7_isIn_67 : decode cX7_isIn 67 = .ok (.ireturn, 1) := by decide +kernel
theorem dX7_cellOf_0 : decode cX7_cellOf 0 = .ok (.iconst 0, 1) := by decide +kernel
theorem dX7_cellOf_1 : decode cX7_cellOf 1 = .ok (.istore_n 3, 1) := by decide +kernel
theorem dX7_cellOf_2 : decode cX7_cellOf 2 = .ok (.iconst 0, 1) := by decide +kernel
theorem dX7_cellOf_3 : decode cX7_cellOf 3 = .ok (.istore 4, 2) := by decide +kernel
theorem dX7_cellOf_5 : decode cX7_cellOf 5 = .ok (.iload 4, 2) := by decide +kernel
theorem dX7_cellOf_7 : decode cX7_cellOf 7 = .ok (.aload_n 0, 1) := by decide +kernel
theorem dX7_cellOf_8 : decode cX7_cellOf 8 = .ok (.getfield 89, 3) := by decide +kernel
theorem dX7_cellOf_11 : decode cX7_cellOf 11 = .ok (.if_icmp .ge 34, 3) := by decide +kernel
theorem dX7_cellOf_14 : decode cX7_cellOf 14 = .ok (.iload_n 3, 1) := by decide +kernel
theorem dX7_cellOf_15 : decode cX7_cellOf 15 = .ok (.aload_n 0, 1) := by decide +kernel
theorem dX7_cellOf_16 : decode cX7_cellOf 16 = .ok (.iload 4, 2) := by decide +kernel
theorem dX7_cellOf_18 : decode cX7_cellOf 18 = .ok (.iload_n 1, 1) := by decide +kernel
theorem dX7_cellOf_19 : decode cX7_cellOf 19 = .ok (.iload_n 2, 1) := by decide +kernel
theorem dX7_cellOf_20 : decode cX7_cellOf 20 = .ok (.invokevirtual 174, 3) := by decide +kernel
theorem dX7_cellOf_23 : decode cX7_cellOf 23 = .ok (.ifCond .eq 13, 3) := by decide +kernel
theorem dX7_cellOf_26 : decode cX7_cellOf 26 = .ok (.aload_n 0, 1) := by decide +kernel
theorem dX7_cellOf_27 : decode cX7_cellOf 27 = .ok (.getfield 36, 3) := by decide +kernel
theorem dX7_cellOf_30 : decode cX7_cellOf 30 = .ok (.iload 4, 2) := by decide +kernel
theorem dX7_cellOf_32 : decode cX7_cellOf 32 = .ok (.iaload, 1) := by decide +kernel
theorem dX7_cellOf_33 : decode cX7_cellOf 33 = .ok (.goto 4, 3) := by decide +kernel
theorem dX7_cellOf_36 : decode cX7_cellOf 36 = .ok (.iconst 0, 1) := by decide +kernel
theorem dX7_cellOf_37 : decode cX7_cellOf 37 = .ok (.iadd, 1) := by decide +kernel
theorem dX7_cellOf_38 : decode cX7_cellOf 38 = .ok (.istore_n 3, 1) := by decide +kernel
theorem dX7_cellOf_39 : decode cX7_cellOf 39 = .ok (.iinc 4 1, 3) := by decide +kernel
theorem dX7_cellOf_42 : decode cX7_cellOf 42 = .ok (.goto (-37), 3) := by decide +kernel
theorem dX7_cellOf_45 : decode cX7_cellOf 45 = .ok (.iload_n 3, 1) := by decide +kernel
theorem dX7_cellOf_46 : decode cX7_cellOf 46 = .ok (.ireturn, 1) := by decide +kernel
/-! by program: wip/whole/gen.py out of wip/whole/src/33.lines.eb -/
/-! EbbTableModel: lines and cells of a table -/
set_option maxRecDepth 100000 in
set_option maxHeartbeats 8000000 in
theorem c_X7_allLines {l : Launch} {D : va_G} {cys : Nat → ClassId} {ad : Nat → Int → Nat} {L : List Nat} {g : Nat → va_E} {X : Int64} {Z : ZT} (hi : injA ad) {S : ZT} {q i : Int} (hS : RMZ S Z) (hW : WF S) (ha : S 0 0 7 = 1) (hq : (q = 0 ∧ i = 0) ∨ (q = 2 ∧ i = 1)) : CM l D cys ad yX7_allLines cX7_allLines 2 (some (.array .int)) 6 156 2 48 [.ref (ad 24 0), .int (iI q)] L g X Z (PGA L g X Z (fun r L9 g9 X9 Z9 => r ∉ L ∧ AR cys ad L9 g9 r (allL S i) ∧ EXT L g L9 g9 ∧ X9 = X ∧ Z9 = Z)) := by
  refine cm_start hi (by decide +kernel) (Nat.le_of_ble_eq_true rfl) ?_
  intro p_ e_ s_ m_ args_ below_ meth_ c_ A_ Q_ hQ G hr hin
  have hn := hW.n
  have hi2 : 0 ≤ i ∧ i < 2 := by omega
  have ai := hW.ai ha hi2.1 hi2.2
  have ht := hW.t ai.1 ai.2.1
  have ht1 := ht.1
  have hx := hS.x
  have e1 : Z 35 0 q = S 15 i 4 := by
    rcases hq with ⟨rfl, rfl⟩ | ⟨rfl, rfl⟩
    · exact hx.1
    · exact hx.2.2.1
  have e2 : Z 35 0 (q + 1) = S 15 i 5 := by
    rcases hq with ⟨rfl, rfl⟩ | ⟨rfl, rfl⟩
    · exact hx.2.1
    · exact hx.2.2.2
  have e31 := (hS.d ai.1 (by omega)).2.2.1
  have hdd : 0 ≤ S 15 i 4 ∧ S 15 i 4 < S 0 0 5 := ⟨ai.1, ai.2.1⟩
  have hpp : 0 ≤ S 2 (S 15 i 4) 5 ∧ S 2 (S 15 i 4) 5 < S 2 (S 15 i 4) 4 := by omega
  have hll : 0 ≤ S 15 i 5 ∧ S 15 i 5 ≤ 4 := by omega
  refine j_aload_n G dX7_allLines_0 rfl ?_
  refine j_aload_n G dX7_allLines_1 rfl ?_
  refine gf_24_12 G dX7_allLines_2 lf7_39 (by first | assumption | decide) ?_
  refine j_iload_n G dX7_allLines_5 rfl ?_
  refine al_35 G dX7_allLines_6 (by first | assumption | decide) (by omega) (by omega) ?_
  refine j_aload_n G dX7_allLines_7 rfl ?_
  refine gf_24_6 G dX7_allLines_8 lf7_26 (by first | assumption | decide) ?_
  refine j_aload_n G dX7_allLines_11 rfl ?_
  refine gf_24_12 G dX7_allLines_12 lf7_39 (by first | assumption | decide) ?_
  refine j_iload_n G dX7_allLines_15 rfl ?_
  refine al_35 G dX7_allLines_16 (by first | assumption | decide) (by omega) (by omega) ?_
  refine al_31 G dX7_allLines_17 (by first | assumption | decide) (by omega) (by omega) ?_
  refine j_aload_n G dX7_allLines_18 rfl ?_
  refine gf_24_12 G dX7_allLines_19 lf7_39 (by first | assumption | decide) ?_
  refine j_iload_n G dX7_allLines_22 rfl ?_
  refine j_iconst G dX7_allLines_23 ?_
  refine j_iadd G dX7_allLines_24 ?_
  refine al_35 G dX7_allLines_25 (by first | assumption | decide) (by omega) (by omega) ?_
  rw [e1, e2, e31]
  refine j_cVGA G cvX7_membersOf ml7_112 (c_X7_membersOf hi hS hW hdd hpp hll) dX7_allLines_26 ⟨by decide, by decide⟩ (by first | exact ⟨by decide, by decide⟩ | (constructor <;> dsimp only <;> omega)) rfl rfl (Nat.le_of_ble_eq_true rfl) (by first | assumption | decide) rfl rfl rfl (fun r26 L26 g26 X26 Z26 h26 => ?_)
  refine jr_GA G hQ hr (Or.inr ⟨_, rfl⟩) dX7_allLines_29 (by first | decide | omega) (by first | decide | omega) ?_
  exact h26
set_option maxRecDepth 100000 in
set_option maxHeartbeats 8000000 in
theorem c_X7_isIn {l : Launch} {D : va_G} {cys : Nat → ClassId} {ad : Nat → Int → Nat} {L : List Nat} {g : Nat → va_E} {X : Int64} {Z : ZT} (hi : injA ad) {S : ZT} {k q w : Int} (hS : RMZ S Z) (hRL : RML cys ad S L g) (hW : WF S) (ha : S 0 0 7 = 1) (hk : 0 ≤ k ∧ k < S 6 0 3) (hq : 0 ≤ q ∧ q < S 2 (S 15 0 4) 4) (hw : 0 ≤ w ∧ w < S 2 (S 15 1 4) 4) : CM l D cys ad yX7_isIn cX7_isIn 4 (some .boolean) 3 70 0 0 [.ref (ad 24 0), .int (iI k), .int (iI q), .int (iI w)] L g X Z (PI L g X Z (fun r => (r = 1 ∧ seen S k ∧ bel S (S 15 0 4) (S 8 (S 15 0 4) k) q ∧ bel S (S 15 1 4) (S 8 (S 15 1 4) k) w) ∨ (r = 0 ∧ ¬ (seen S k ∧ bel S (S 15 0 4) (S 8 (S 15 0 4) k) q ∧ bel S (S 15 1 4) (S 8 (S 15 1 4) k) w)))) := by
  refine cm_start hi (by decide +kernel) (Nat.le_of_ble_eq_true rfl) ?_
  intro p_ e_ s_ m_ args_ below_ meth_ c_ A_ Q_ hQ G hr hin
  have hn := hW.n
  have hf := hW.f
  have a0 := hW.ai ha (i := 0) (by omega) (by omega)
  have a1 := hW.ai ha (i := 1) (by omega) (by omega)
  have hx := hS.x
  have hfk := (hW.fk hk.1 hk.2).1
  have h80 := hfk (S 15 0 4) a0.1 a0.2.1
  have h81 := hfk (S 15 1 4) a1.1 a1.2.1
  have hd0 : 0 ≤ S 15 0 4 ∧ S 15 0 4 < S 0 0 5 := ⟨a0.1, a0.2.1⟩
  have hd1 : 0 ≤ S 15 1 4 ∧ S 15 1 4 < S 0 0 5 := ⟨a1.1, a1.2.1⟩
  have hl0 : 0 ≤ S 8 (S 15 0 4) k ∧ S 8 (S 15 0 4) k < S 2 (S 15 0 4) 4 := ⟨h80.1, h80.2.1⟩
  have hl1 : 0 ≤ S 8 (S 15 1 4) k ∧ S 8 (S 15 1 4) k < S 2 (S 15 1 4) 4 := ⟨h81.1, h81.2.1⟩
  have x0 := hx.1
  have x2 := hx.2.2.1
  refine j_aload_n G dX7_isIn_0 rfl ?_
  refine j_iload_n G dX7_isIn_1 rfl ?_
  refine j_cVI G cvX7_counts ml7_126 (c_X7_counts hi hS hRL hW hk) dX7_isIn_2 ⟨by decide, by decide⟩ ⟨by decide, by decide⟩ rfl rfl (Nat.le_of_ble_eq_true rfl) (by first | assumption | decide) rfl rfl rfl (fun r2 h2 => ?_)
  have h2' : (r2 = 0 ∨ r2 = 1) ∧ (r2 = 0 → ¬ seen S k) ∧ (r2 = 1 → seen S k) := by
    rcases h2 with z | z
    · exact ⟨Or.inr z.1, fun y => by omega, fun _ => z.2⟩
    · exact ⟨Or.inl z.1, fun _ => z.2, fun y => by omega⟩
  clear h2
  refine j_if_eq G 66 dX7_isIn_5 (by decide) (by omega) (fun c5 => ?_) (fun c5 => ?_)
  · refine j_iconst G dX7_isIn_66 ?_
    refine jr_B G hQ hr dX7_isIn_67 (by decide) (by decide) (by omega) ?_
    first
    | exact Or.inl ⟨rfl, h2'.2.2 (by omega), h29'.2.2 (by omega), h56'.2.2 (by omega)⟩
    | exact Or.inr ⟨rfl, fun z => h56'.2.1 (by omega) z.2.2⟩
    | exact Or.inr ⟨rfl, fun z => h29'.2.1 (by omega) z.2.1⟩
    | exact Or.inr ⟨rfl, fun z => h2'.2.1 (by omega) z.1⟩
  · refine j_aload_n G dX7_isIn_8 rfl ?_
    refine j_aload_n G dX7_isIn_9 rfl ?_
    refine gf_24_12 G dX7_isIn_10 lf7_39 (by first | assumption | decide) ?_
    refine j_iconst G dX7_isIn_13 ?_
    refine al_35 G dX7_isIn_14 (by first | assumption | decide) (by omega) (by omega) ?_
    refine j_aload_n G dX7_isIn_15 rfl ?_
    refine gf_24_9 G dX7_isIn_16 lf7_33 (by first | assumption | decide) ?_
    refine j_iload_n G dX7_isIn_19 rfl ?_
    refine j_leaf G dX7_isIn_20 hRL (by omega) (by omega) (by omega) (fun a20 W20 l20 => ?_)
    refine j_aload_n G dX7_isIn_21 rfl ?_
    refine gf_24_12 G dX7_isIn_22 lf7_39 (by first | assumption | decide) ?_
    refine j_iconst G dX7_isIn_25 ?_
    refine al_35 G dX7_isIn_26 (by first | assumption | decide) (by omega) (by omega) ?_
    refine j_dld G dX7_isIn_27 l20.1 l20.2.1 l20.2.2.1 (by rw [l20.2.2.2.1]; decide) (by omega) (by rw [l20.2.2.2.1]; omega) ?_
    rw [l20.2.2.2.2 _ (by omega) (by omega)]
    rw [x0]
    refine j_iload_n G dX7_isIn_28 rfl ?_
    refine j_cVI G cvX7_isBeneath ml7_120 (c_X7_isBeneath hi hS hW hd0 hl0 hq) dX7_isIn_29 ⟨by decide, by decide⟩ ⟨by decide, by decide⟩ rfl rfl (Nat.le_of_ble_eq_true rfl) (by first | assumption | decide) rfl rfl rfl (fun r29 h29 => ?_)
    have h29' : (r29 = 0 ∨ r29 = 1) ∧ (r29 = 0 → ¬ bel S (S 15 0 4) (S 8 (S 15 0 4) k) q) ∧ (r29 = 1 → bel S (S 15 0 4) (S 8 (S 15 0 4) k) q) := by
      rcases h29 with z | z
      · exact ⟨Or.inr z.1, fun y => by omega, fun _ => z.2⟩
      · exact ⟨Or.inl z.1, fun _ => z.2, fun y => by omega⟩
    clear h29
    refine j_if_eq G 66 dX7_isIn_32 (by decide) (by omega) (fun c32 => ?_) (fun c32 => ?_)
    · refine j_iconst G dX7_isIn_66 ?_
      refine jr_B G hQ hr dX7_isIn_67 (by decide) (by decide) (by omega) ?_
      first
      | exact Or.inl ⟨rfl, h2'.2.2 (by omega), h29'.2.2 (by omega), h56'.2.2 (by omega)⟩
      | exact Or.inr ⟨rfl, fun z => h56'.2.1 (by omega) z.2.2⟩
      | exact Or.inr ⟨rfl, fun z => h29'.2.1 (by omega) z.2.1⟩
      | exact Or.inr ⟨rfl, fun z => h2'.2.1 (by omega) z.1⟩
    · refine j_aload_n G dX7_isIn_35 rfl ?_
      refine j_aload_n G dX7_isIn_36 rfl ?_
      refine gf_24_12 G dX7_isIn_37 lf7_39 (by first | assumption | decide) ?_
      refine j_iconst G dX7_isIn_40 ?_
      refine al_35 G dX7_isIn_41 (by first | assumption | decide) (by omega) (by omega) ?_
      refine j_aload_n G dX7_isIn_42 rfl ?_
      refine gf_24_9 G dX7_isIn_43 lf7_33 (by first | assumption | decide) ?_
      refine j_iload_n G dX7_isIn_46 rfl ?_
      refine j_leaf G dX7_isIn_47 hRL (by omega) (by omega) (by omega) (fun a47 W47 l47 => ?_)
      refine j_aload_n G dX7_isIn_48 rfl ?_
      refine gf_24_12 G dX7_isIn_49 lf7_39 (by first | assumption | decide) ?_
      refine j_iconst G dX7_isIn_52 ?_
      refine al_35 G dX7_isIn_53 (by first | assumption | decide) (by omega) (by omega) ?_
      refine j_dld G dX7_isIn_54 l47.1 l47.2.1 l47.2.2.1 (by rw [l47.2.2.2.1]; decide) (by omega) (by rw [l47.2.2.2.1]; omega) ?_
      rw [l47.2.2.2.2 _ (by omega) (by omega)]
      rw [x2]
      refine j_iload_n G dX7_isIn_55 rfl ?_
      refine j_cVI G cvX7_isBeneath ml7_120 (c_X7_isBeneath hi hS hW hd1 hl1 hw) dX7_isIn_56 ⟨by decide, by decide⟩ ⟨by decide, by decide⟩ rfl rfl (Nat.le_of_ble_eq_true rfl) (by first | assumption | decide) rfl rfl rfl (fun r56 h56 => ?_)
      have h56' : (r56 = 0 ∨ r56 = 1) ∧ (r56 = 0 → ¬ bel S (S 15 1 4) (S 8 (S 15 1 4) k) w) ∧ (r56 = 1 → bel S (S 15 1 4) (S 8 (S 15 1 4) k) w) := by
        rcases h56 with z | z
        · exact ⟨Or.inr z.1, fun y => by omega, fun _ => z.2⟩
        · exact ⟨Or.inl z.1, fun _ => z.2, fun y => by omega⟩
      clear h56
      refine j_if_eq G 66 dX7_isIn_59 (by decide) (by omega) (fun c59 => ?_) (fun c59 => ?_)
      · refine j_iconst G dX7_isIn_66 ?_
        refine jr_B G hQ hr dX7_isIn_67 (by decide) (by decide) (by omega) ?_
        first
        | exact Or.inl ⟨rfl, h2'.2.2 (by omega), h29'.2.2 (by omega), h56'.2.2 (by omega)⟩
        | exact Or.inr ⟨rfl, fun z => h56'.2.1 (by omega) z.2.2⟩
        | exact Or.inr ⟨rfl, fun z => h29'.2.1 (by omega) z.2.1⟩
        | exact Or.inr ⟨rfl, fun z => h2'.2.1 (by omega) z.1⟩
      · refine j_iconst G dX7_isIn_62 ?_
        refine j_goto G 67 dX7_isIn_63 (by decide) ?_
        refine jr_B G hQ hr dX7_isIn_67 (by decide) (by decide) (by omega) ?_
        first
        | exact Or.inl ⟨rfl, h2'.2.2 (by omega), h29'.2.2 (by omega), h56'.2.2 (by omega)⟩
        | exact Or.inr ⟨rfl, fun z => h56'.2.1 (by omega) z.2.2⟩
        | exact Or.inr ⟨rfl, fun z => h29'.2.1 (by omega) z.2.1⟩
        | exact Or.inr ⟨rfl, fun z => h2'.2.1 (by omega) z.1⟩
set_option maxRecDepth 100000 in
set_option maxHeartbeats 8000000 in
theorem c_X7_cellOf {l : Launch} {D : va_G} {cys : Nat → ClassId} {ad : Nat → Int → Nat} {L : List Nat} {g : Nat → va_E} {X : Int64} {Z : ZT} (hi : injA ad) {S : ZT} {q w : Int} (hS : RMZ S Z) (hRL : RML cys ad S L g) (hW : WF S) (ha : S 0 0 7 = 1) (hq : 0 ≤ q ∧ q < S 2 (S 15 0 4) 4) (hw : 0 ≤ w ∧ w < S 2 (S 15 1 4) 4) : CM l D cys ad yX7_cellOf cX7_cellOf 5 (some .int) 4 93 0 0 [.ref (ad 24 0), .int (iI q), .int (iI w)] L g X Z (PI L g X Z (fun r => r = tsum S q w)) := by
  refine cm_start hi (by decide +kernel) (Nat.le_of_ble_eq_true rfl) ?_
  intro p_ e_ s_ m_ args_ below_ meth_ c_ A_ Q_ hQ G hr hin
  have hf := hW.f
  have e63 := hS.a.2.1
  have loop : ∀ (n : Nat) (a b : Int), 0 ≤ a → a ≤ S 6 0 3 → (S 6 0 3 - a).toNat = n → b = sumTo (fun k => iv (seen S k ∧ bel S (S 15 0 4) (S 8 (S 15 0 4) k) q ∧ bel S (S 15 1 4) (S 8 (S 15 1 4) k) w) * S 9 0 k) a.toNat → JJ p_ l e_ { frames := 4, cells := 0, slots := 0, locals := 93 } s_ m_ args_ below_ meth_ c_ D cys ad A_ Q_ 5 0 0 L g X Z 5 [(0, .ref (ad 24 0)), (1, .int (iI q)), (2, .int (iI w)), (3, .int (iI b)), (4, .int (iI a))] [] := by
    intro n
    induction n with
    | zero =>
      intro a b h0 h1 h2 h3
      have ea : a = S 6 0 3 := by omega
      subst ea
      refine j_iload G dX7_cellOf_5 rfl ?_
      refine j_aload_n G dX7_cellOf_7 rfl ?_
      refine gf_24_8 G dX7_cellOf_8 lf7_89 (by first | assumption | decide) ?_
      refine j_icmp_ge G 45 dX7_cellOf_11 (by decide) (by omega) (by omega) (fun c11 => ?_) (fun c11 => ?_)
      · refine j_iload_n G dX7_cellOf_45 rfl ?_
        refine jr_I G hQ hr dX7_cellOf_46 (by decide) (by decide) ?_
        exact h3
      · exfalso; omega
    | succ n ih =>
      intro a b h0 h1 h2 h3
      have hk : 0 ≤ a ∧ a < S 6 0 3 := by omega
      have hs := sumTo_s (f := fun k => iv (seen S k ∧ bel S (S 15 0 4) (S 8 (S 15 0 4) k) q ∧ bel S (S 15 1 4) (S 8 (S 15 1 4) k) w) * S 9 0 k) h0
      have e9 := hS.v h0 hk.2
      refine j_iload G dX7_cellOf_5 rfl ?_
      refine j_aload_n G dX7_cellOf_7 rfl ?_
      refine gf_24_8 G dX7_cellOf_8 lf7_89 (by first | assumption | decide) ?_
      refine j_icmp_ge G 45 dX7_cellOf_11 (by decide) (by omega) (by omega) (fun c11 => ?_) (fun c11 => ?_)
      · exfalso; omega
      · refine j_iload_n G dX7_cellOf_14 rfl ?_
        refine j_aload_n G dX7_cellOf_15 rfl ?_
        refine j_iload G dX7_cellOf_16 rfl ?_
        refine j_iload_n G dX7_cellOf_18 rfl ?_
        refine j_iload_n G dX7_cellOf_19 rfl ?_
        refine j_cVI G cvX7_isIn ml7_174 (c_X7_isIn hi hS hRL hW ha hk hq hw) dX7_cellOf_20 ⟨by decide, by decide⟩ ⟨by decide, by decide⟩ rfl rfl (Nat.le_of_ble_eq_true rfl) (by first | assumption | decide) rfl rfl rfl (fun r20 h20 => ?_)
        refine j_if_eq G 36 dX7_cellOf_23 (by decide) (by omega) (fun c23 => ?_) (fun c23 => ?_)
        · refine j_iconst G dX7_cellOf_36 ?_
          refine j_iadd G dX7_cellOf_37 ?_
          refine j_istore_n G dX7_cellOf_38 (by decide) rfl ?_
          refine j_iinc G dX7_cellOf_39 rfl (by decide) rfl ?_
          refine j_goto G 5 dX7_cellOf_42 (by decide) ?_
          refine ih (a + 1) _ (by omega) (by omega) (by omega) ?_
          rw [hs, ← h3]
          rcases h20 with z | z
          · first
            | (exfalso; omega)
            | (rw [iv_t z.2, e9]; omega)
          · first
            | (exfalso; omega)
            | (rw [iv_f z.2]; omega)
        · refine j_aload_n G dX7_cellOf_26 rfl ?_
          refine gf_24_10 G dX7_cellOf_27 lf7_36 (by first | assumption | decide) ?_
          refine j_iload G dX7_cellOf_30 rfl ?_
          refine al_34 G dX7_cellOf_32 (by first | assumption | decide) (by omega) (by omega) ?_
          refine j_goto G 37 dX7_cellOf_33 (by decide) ?_
          refine j_iadd G dX7_cellOf_37 ?_
          refine j_istore_n G dX7_cellOf_38 (by decide) rfl ?_
          refine j_iinc G dX7_cellOf_39 rfl (by decide) rfl ?_
          refine j_goto G 5 dX7_cellOf_42 (by decide) ?_
          refine ih (a + 1) _ (by omega) (by omega) (by omega) ?_
          rw [hs, ← h3]
          rcases h20 with z | z
          · first
            | (exfalso; omega)
            | (rw [iv_t z.2, e9]; omega)
          · first
            | (exfalso; omega)
            | (rw [iv_f z.2]; omega)
  refine j_iconst G dX7_cellOf_0 ?_
  refine j_istore_n G dX7_cellOf_1 (by decide) rfl ?_
  refine j_iconst G dX7_cellOf_2 ?_
  refine j_istore G dX7_cellOf_3 (by decide) rfl ?_
  exact loop _ 0 0 (by omega) (by omega) rfl rfl

