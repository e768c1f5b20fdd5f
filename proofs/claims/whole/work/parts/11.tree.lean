theorem dX4_has_0 : decode cX4_has 0 = .ok (.iload_n 1, 1) := by decide +kernel
theorem dX4_has_1 : decode cX4_has 1 = .ok (.ifCond .lt 15, 3) := by decide +kernel
theorem dX4_has_4 : decode cX4_has 4 = .ok (.iload_n 1, 1) := by decide +kernel
theorem dX4_has_5 : decode cX4_has 5 = .ok (.aload_n 0, 1) := by decide +kernel
theorem dX4_has_6 : decode cX4_has 6 = .ok (.getfield 26, 3) := by decide +kernel
theorem dX4_has_9 : decode cX4_has 9 = .ok (.if_icmp .ge 7, 3) := by decide +kernel
theorem dX4_has_12 : decode cX4_has 12 = .ok (.iconst 1, 1) := by decide +kernel
theorem dX4_has_13 : decode cX4_has 13 = .ok (.goto 4, 3) := by decide +kernel
theorem dX4_has_16 : decode cX4_has 16 = .ok (.iconst 0, 1) := by decide +kernel
theorem dX4_has_17 : decode cX4_has 17 = .ok (.ireturn, 1) := by decide +kernel
theorem dX4_isFull_0 : decode cX4_isFull 0 = .ok (.aload_n 0, 1) := by decide +kernel
theorem dX4_isFull_1 : decode cX4_isFull 1 = .ok (.getfield 26, 3) := by decide +kernel
theorem dX4_isFull_4 : decode cX4_isFull 4 = .ok (.bipush 24, 2) := by decide +kernel
theorem dX4_isFull_6 : decode cX4_isFull 6 = .ok (.if_icmp .lt 7, 3) := by decide +kernel
theorem dX4_isFull_9 : decode cX4_isFull 9 = .ok (.iconst 1, 1) := by decide +kernel
theorem dX4_isFull_10 : decode cX4_isFull 10 = .ok (.goto 4, 3) := by decide +kernel
theorem dX4_isFull_13 : decode cX4_isFull 13 = .ok (.iconst 0, 1) := by decide +kernel
theorem dX4_isFull_14 : decode cX4_isFull 14 = .ok (.ireturn, 1) := by decide +kernel
theorem dX4_aboveOn_0 : decode cX4_aboveOn 0 = .ok (.iload_n 1, 1) := by decide +kernel
theorem dX4_aboveOn_1 : decode cX4_aboveOn 1 = .ok (.istore_n 3, 1) := by decide +kernel
theorem dX4_aboveOn_2 : decode cX4_aboveOn 2 = .ok (.iconst 0, 1) := by decide +kernel
theorem dX4_aboveOn_3 : decode cX4_aboveOn 3 = .ok (.istore 4, 2) := by decide +kernel
theorem dX4_aboveOn_5 : decode cX4_aboveOn 5 = .ok (.iload 4, 2) := by decide +kernel
theorem dX4_aboveOn_7 : decode cX4_aboveOn 7 = .ok (.iconst 3, 1) := by decide +kernel
theorem dX4_aboveOn_8 : decode cX4_aboveOn 8 = .ok (.if_icmp .ge 34, 3) := by decide +kernel
theorem dX4_aboveOn_11 : decode cX4_aboveOn 11 = .ok (.aload_n 0, 1) := by decide +kernel
theorem dX4_aboveOn_12 : decode cX4_aboveOn 12 = .ok (.iload_n 3, 1) := by decide +kernel
theorem dX4_aboveOn_13 : decode cX4_aboveOn 13 = .ok (.invokevirtual 29, 3) := by decide +kernel
theorem dX4_aboveOn_16 : decode cX4_aboveOn 16 = .ok (.ifCond .eq 26, 3) := by decide +kernel
theorem dX4_aboveOn_19 : decode cX4_aboveOn 19 = .ok (.aload_n 0, 1) := by decide +kernel
theorem dX4_aboveOn_20 : decode cX4_aboveOn 20 = .ok (.getfield 15, 3) := by decide +kernel
theorem dX4_aboveOn_23 : decode cX4_aboveOn 23 = .ok (.iload_n 3, 1) := by decide +kernel
theorem dX4_aboveOn_24 : decode cX4_aboveOn 24 = .ok (.iaload, 1) := by decide +kernel
theorem dX4_aboveOn_25 : decode cX4_aboveOn 25 = .ok (.iload_n 2, 1) := by decide +kernel
theorem dX4_aboveOn_26 : decode cX4_aboveOn 26 = .ok (.if_icmp .le 16, 3) := by decide +kernel
theorem dX4_aboveOn_29 : decode cX4_aboveOn 29 = .ok (.aload_n 0, 1) := by decide +kernel
theorem dX4_aboveOn_30 : decode cX4_aboveOn 30 = .ok (.getfield 9, 3) := by decide +kernel
theorem dX4_aboveOn_33 : decode cX4_aboveOn 33 = .ok (.iload_n 3, 1) := by decide +kernel
theorem dX4_aboveOn_34 : decode cX4_aboveOn 34 = .ok (.iaload, 1) := by decide +kernel
theorem dX4_aboveOn_35 : decode cX4_aboveOn 35 = .ok (.istore_n 3, 1) := by decide +kernel
theorem dX4_aboveOn_36 : decode cX4_aboveOn 36 = .ok (.iinc 4 1, 3) := by decide +kernel
theorem dX4_aboveOn_39 : decode cX4_aboveOn 39 = .ok (.goto (-34), 3) := by decide +kernel
theorem dX4_aboveOn_42 : decode cX4_aboveOn 42 = .ok (.iload_n 3, 1) := by decide +kernel
theorem dX4_aboveOn_43 : decode cX4_aboveOn 43 = .ok (.ireturn, 1) := by decide +kernel
/-! by program: wip/whole/gen.py out of wip/whole/src/11.tree.eb -/
/-! Tree: place d of kind 2 -/
set_option maxRecDepth 100000 in
set_option maxHeartbeats 8000000 in
theorem c_X4_has {l : Launch} {D : va_G} {cys : Nat → ClassId} {ad : Nat → Int → Nat} {L : List Nat} {g : Nat → va_E} {X : Int64} {Z : ZT} (hi : injA ad) {d q : Int} (hd : vd 2 d) (hq : inR q) (hs : inR (Z 2 d 4)) : CM l D cys ad yX4_has cX4_has 2 (some .boolean) 0 0 0 0 [.ref (ad 2 d), .int (iI q)] L g X Z (PI L g X Z (fun r => (r = 1 ∧ 0 ≤ q ∧ q < Z 2 d 4) ∨ (r = 0 ∧ ¬ (0 ≤ q ∧ q < Z 2 d 4)))) := by
  refine cm_start hi (by decide +kernel) (Nat.le_of_ble_eq_true rfl) ?_
  intro p9 e9 s9 m9 args9 below9 meth9 c9 A9 Q9 hQ G hr hin
  refine j_iload_n G dX4_has_0 rfl ?_
  refine j_if_lt G 16 dX4_has_1 (by decide) (by omega) (fun c1 => ?_) (fun c1 => ?_)
  · refine j_iconst G dX4_has_16 ?_
    refine jr_B G hQ hr dX4_has_17 (by decide) (by decide) (by omega) ?_
    first | omega | (refine ⟨?_, ?_⟩ <;> (try intros) <;> first | rfl | omega | (exfalso; omega)) | simp
  · refine j_iload_n G dX4_has_4 rfl ?_
    refine j_aload_n G dX4_has_5 rfl ?_
    refine gf_2_4 G dX4_has_6 lf4_26 (by first | assumption | decide) ?_
    refine j_icmp_ge G 16 dX4_has_9 (by decide) (by omega) (by omega) (fun c9 => ?_) (fun c9 => ?_)
    · refine j_iconst G dX4_has_16 ?_
      refine jr_B G hQ hr dX4_has_17 (by decide) (by decide) (by omega) ?_
      first | omega | (refine ⟨?_, ?_⟩ <;> (try intros) <;> first | rfl | omega | (exfalso; omega)) | simp
    · refine j_iconst G dX4_has_12 ?_
      refine j_goto G 17 dX4_has_13 (by decide) ?_
      refine jr_B G hQ hr dX4_has_17 (by decide) (by decide) (by omega) ?_
      first | omega | (refine ⟨?_, ?_⟩ <;> (try intros) <;> first | rfl | omega | (exfalso; omega)) | simp
set_option maxRecDepth 100000 in
set_option maxHeartbeats 8000000 in
theorem c_X4_isFull {l : Launch} {D : va_G} {cys : Nat → ClassId} {ad : Nat → Int → Nat} {L : List Nat} {g : Nat → va_E} {X : Int64} {Z : ZT} (hi : injA ad) {d : Int} (hd : vd 2 d) (hs : inR (Z 2 d 4)) : CM l D cys ad yX4_isFull cX4_isFull 1 (some .boolean) 0 0 0 0 [.ref (ad 2 d)] L g X Z (PI L g X Z (fun r => (r = 1 ∧ 24 ≤ Z 2 d 4) ∨ (r = 0 ∧ Z 2 d 4 < 24))) := by
  refine cm_start hi (by decide +kernel) (Nat.le_of_ble_eq_true rfl) ?_
  intro p9 e9 s9 m9 args9 below9 meth9 c9 A9 Q9 hQ G hr hin
  refine j_aload_n G dX4_isFull_0 rfl ?_
  refine gf_2_4 G dX4_isFull_1 lf4_26 (by first | assumption | decide) ?_
  refine j_bipush G dX4_isFull_4 (by decide +kernel) ?_
  refine j_icmp_lt G 13 dX4_isFull_6 (by decide) (by omega) (by omega) (fun c6 => ?_) (fun c6 => ?_)
  · refine j_iconst G dX4_isFull_13 ?_
    refine jr_B G hQ hr dX4_isFull_14 (by decide) (by decide) (by omega) ?_
    first | omega | (refine ⟨?_, ?_⟩ <;> (try intros) <;> first | rfl | omega | (exfalso; omega)) | simp
  · refine j_iconst G dX4_isFull_9 ?_
    refine j_goto G 14 dX4_isFull_10 (by decide) ?_
    refine jr_B G hQ hr dX4_isFull_14 (by decide) (by decide) (by omega) ?_
    first | omega | (refine ⟨?_, ?_⟩ <;> (try intros) <;> first | rfl | omega | (exfalso; omega)) | simp
set_option maxRecDepth 100000 in
set_option maxHeartbeats 8000000 in
theorem c_X4_aboveOn {l : Launch} {D : va_G} {cys : Nat → ClassId} {ad : Nat → Int → Nat} {L : List Nat} {g : Nat → va_E} {X : Int64} {Z : ZT} (hi : injA ad) {d q lv : Int} (hd : vd 2 d) (hT : TOK Z d) (hq : 0 ≤ q ∧ q < Z 2 d 4) (hlv : 0 ≤ lv ∧ lv < 1000) : CM l D cys ad yX4_aboveOn cX4_aboveOn 5 (some .int) 1 21 0 0 [.ref (ad 2 d), .int (iI q), .int (iI lv)] L g X Z (PI L g X Z (fun r => r = abv Z d q lv)) := by
  refine cm_start hi (by decide +kernel) (Nat.le_of_ble_eq_true rfl) ?_
  intro p9 e9 s9 m9 args9 below9 meth9 c9 A9 Q9 hQ G hr hin
  have hT1 := hT.1
  have loop : ∀ (n : Nat) (a st : Int), 0 ≤ a → a < Z 2 d 4 → 0 ≤ st → st + Z 4 d a ≤ 3 → (Z 4 d a - lv).toNat = n → ancF (Z 3 d) n a = abv Z d q lv → JJ p9 l e9 { frames := 1, cells := 0, slots := 0, locals := 21 } s9 m9 args9 below9 meth9 c9 D cys ad A9 Q9 5 0 0 L g X Z 5 [(0, .ref (ad 2 d)), (1, .int (iI q)), (2, .int (iI lv)), (3, .int (iI a)), (4, .int (iI st))] [] := by
    intro n
    induction n with
    | zero =>
      intro a st h0 h1 h2 h3 h4 h5
      have hm := hT.at h0 h1
      unfold MOK at hm
      refine j_iload G dX4_aboveOn_5 rfl ?_
      refine j_iconst G dX4_aboveOn_7 ?_
      refine j_icmp_ge G 42 dX4_aboveOn_8 (by decide) (by omega) (by omega) (fun c8 => ?_) (fun c8 => ?_)
      · refine j_iload_n G dX4_aboveOn_42 rfl ?_
        refine jr_I G hQ hr dX4_aboveOn_43 (by decide) (by decide) ?_
        exact h5
      · refine j_aload_n G dX4_aboveOn_11 rfl ?_
        refine j_iload_n G dX4_aboveOn_12 rfl ?_
        refine j_cVI G cvX4_has ml4_29 (c_X4_has hi (by first | assumption | omega | decide) (by first | assumption | omega | decide) (by first | assumption | omega | decide)) dX4_aboveOn_13 ⟨by decide, by decide⟩ ⟨by decide, by decide⟩ rfl rfl (by decide) (by first | assumption | decide) rfl rfl rfl (fun r13 h13 => ?_)
        refine j_if_eq G 42 dX4_aboveOn_16 (by decide) (by omega) (fun c16 => ?_) (fun c16 => ?_)
        · refine j_iload_n G dX4_aboveOn_42 rfl ?_
          refine jr_I G hQ hr dX4_aboveOn_43 (by decide) (by decide) ?_
          exact h5
        · refine j_aload_n G dX4_aboveOn_19 rfl ?_
          refine gf_2_1 G dX4_aboveOn_20 lf4_15 (by first | assumption | decide) ?_
          refine j_iload_n G dX4_aboveOn_23 rfl ?_
          refine al_4 G dX4_aboveOn_24 (by first | assumption | decide) (by omega) (by omega) ?_
          refine j_iload_n G dX4_aboveOn_25 rfl ?_
          refine j_icmp_le G 42 dX4_aboveOn_26 (by decide) (by omega) (by omega) (fun c26 => ?_) (fun c26 => ?_)
          · refine j_iload_n G dX4_aboveOn_42 rfl ?_
            refine jr_I G hQ hr dX4_aboveOn_43 (by decide) (by decide) ?_
            exact h5
          · exfalso; omega
    | succ n ih =>
      intro a st h0 h1 h2 h3 h4 h5
      have hm := hT.at h0 h1
      unfold MOK at hm
      have hp := hm.2.2.2 (by have := hm.2.2.1; omega)
      refine j_iload G dX4_aboveOn_5 rfl ?_
      refine j_iconst G dX4_aboveOn_7 ?_
      refine j_icmp_ge G 42 dX4_aboveOn_8 (by decide) (by omega) (by omega) (fun c8 => ?_) (fun c8 => ?_)
      · exfalso; omega
      · refine j_aload_n G dX4_aboveOn_11 rfl ?_
        refine j_iload_n G dX4_aboveOn_12 rfl ?_
        refine j_cVI G cvX4_has ml4_29 (c_X4_has hi (by first | assumption | omega | decide) (by first | assumption | omega | decide) (by first | assumption | omega | decide)) dX4_aboveOn_13 ⟨by decide, by decide⟩ ⟨by decide, by decide⟩ rfl rfl (by decide) (by first | assumption | decide) rfl rfl rfl (fun r13 h13 => ?_)
        refine j_if_eq G 42 dX4_aboveOn_16 (by decide) (by omega) (fun c16 => ?_) (fun c16 => ?_)
        · exfalso; omega
        · refine j_aload_n G dX4_aboveOn_19 rfl ?_
          refine gf_2_1 G dX4_aboveOn_20 lf4_15 (by first | assumption | decide) ?_
          refine j_iload_n G dX4_aboveOn_23 rfl ?_
          refine al_4 G dX4_aboveOn_24 (by first | assumption | decide) (by omega) (by omega) ?_
          refine j_iload_n G dX4_aboveOn_25 rfl ?_
          refine j_icmp_le G 42 dX4_aboveOn_26 (by decide) (by omega) (by omega) (fun c26 => ?_) (fun c26 => ?_)
          · exfalso; omega
          · refine j_aload_n G dX4_aboveOn_29 rfl ?_
            refine gf_2_0 G dX4_aboveOn_30 lf4_9 (by first | assumption | decide) ?_
            refine j_iload_n G dX4_aboveOn_33 rfl ?_
            refine al_3 G dX4_aboveOn_34 (by first | assumption | decide) (by omega) (by omega) ?_
            refine j_istore_n G dX4_aboveOn_35 (by decide) rfl ?_
            refine j_iinc G dX4_aboveOn_36 rfl (by decide) rfl ?_
            refine j_goto G 5 dX4_aboveOn_39 (by decide) ?_
            exact ih (Z 3 d a) (st + 1) hp.1 hp.2.1 (by omega) (by omega) (by omega) h5
  have hm := hT.at hq.1 hq.2
  unfold MOK at hm
  refine j_iload_n G dX4_aboveOn_0 rfl ?_
  refine j_istore_n G dX4_aboveOn_1 (by decide) rfl ?_
  refine j_iconst G dX4_aboveOn_2 ?_
  refine j_istore G dX4_aboveOn_3 (by decide) rfl ?_
  exact loop _ q 0 hq.1 hq.2 (by omega) (by omega) rfl rfl

