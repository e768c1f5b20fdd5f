theorem dX3_hasPlace_0 : decode cX3_hasPlace 0 = .ok (.iload_n 1, 1) := by decide +kernel
theorem dX3_hasPlace_1 : decode cX3_hasPlace 1 = .ok (.ifCond .lt 15, 3) := by decide +kernel
theorem dX3_hasPlace_4 : decode cX3_hasPlace 4 = .ok (.iload_n 1, 1) := by decide +kernel
theorem dX3_hasPlace_5 : decode cX3_hasPlace 5 = .ok (.aload_n 0, 1) := by decide +kernel
theorem dX3_hasPlace_6 : decode cX3_hasPlace 6 = .ok (.getfield 15, 3) := by decide +kernel
theorem dX3_hasPlace_9 : decode cX3_hasPlace 9 = .ok (.if_icmp .ge 7, 3) := by decide +kernel
theorem dX3_hasPlace_12 : decode cX3_hasPlace 12 = .ok (.iconst 1, 1) := by decide +kernel
theorem dX3_hasPlace_13 : decode cX3_hasPlace 13 = .ok (.goto 4, 3) := by decide +kernel
theorem dX3_hasPlace_16 : decode cX3_hasPlace 16 = .ok (.iconst 0, 1) := by decide +kernel
theorem dX3_hasPlace_17 : decode cX3_hasPlace 17 = .ok (.ireturn, 1) := by decide +kernel
theorem dX3_append_0 : decode cX3_append 0 = .ok (.aload_n 0, 1) := by decide +kernel
theorem dX3_append_1 : decode cX3_append 1 = .ok (.getfield 15, 3) := by decide +kernel
theorem dX3_append_4 : decode cX3_append 4 = .ok (.bipush 24, 2) := by decide +kernel
theorem dX3_append_6 : decode cX3_append 6 = .ok (.if_icmp .ge 23, 3) := by decide +kernel
theorem dX3_append_9 : decode cX3_append 9 = .ok (.aload_n 0, 1) := by decide +kernel
theorem dX3_append_10 : decode cX3_append 10 = .ok (.getfield 9, 3) := by decide +kernel
theorem dX3_append_13 : decode cX3_append 13 = .ok (.aload_n 0, 1) := by decide +kernel
theorem dX3_append_14 : decode cX3_append 14 = .ok (.getfield 15, 3) := by decide +kernel
theorem dX3_append_17 : decode cX3_append 17 = .ok (.iload_n 1, 1) := by decide +kernel
theorem dX3_append_18 : decode cX3_append 18 = .ok (.iastore, 1) := by decide +kernel
theorem dX3_append_19 : decode cX3_append 19 = .ok (.aload_n 0, 1) := by decide +kernel
theorem dX3_append_20 : decode cX3_append 20 = .ok (.dup, 1) := by decide +kernel
theorem dX3_append_21 : decode cX3_append 21 = .ok (.getfield 15, 3) := by decide +kernel
theorem dX3_append_24 : decode cX3_append 24 = .ok (.iconst 1, 1) := by decide +kernel
theorem dX3_append_25 : decode cX3_append 25 = .ok (.iadd, 1) := by decide +kernel
theorem dX3_append_26 : decode cX3_append 26 = .ok (.putfield 15, 3) := by decide +kernel
theorem dX3_append_29 : decode cX3_append 29 = .ok (.return_, 1) := by decide +kernel
theorem dX3_placeOf_0 : decode cX3_placeOf 0 = .ok (.iconst 0, 1) := by decide +kernel
theorem dX3_placeOf_1 : decode cX3_placeOf 1 = .ok (.istore_n 2, 1) := by decide +kernel
theorem dX3_placeOf_2 : decode cX3_placeOf 2 = .ok (.iload_n 2, 1) := by decide +kernel
theorem dX3_placeOf_3 : decode cX3_placeOf 3 = .ok (.aload_n 0, 1) := by decide +kernel
theorem dX3_placeOf_4 : decode cX3_placeOf 4 = .ok (.getfield 15, 3) := by decide +kernel
theorem dX3_placeOf_7 : decode cX3_placeOf 7 = .ok (.if_icmp .ge 21, 3) := by decide +kernel
theorem dX3_placeOf_10 : decode cX3_placeOf 10 = .ok (.aload_n 0, 1) := by decide +kernel
theorem dX3_placeOf_11 : decode cX3_placeOf 11 = .ok (.getfield 9, 3) := by decide +kernel
theorem dX3_placeOf_14 : decode cX3_placeOf 14 = .ok (.iload_n 2, 1) := by decide +kernel
theorem dX3_placeOf_15 : decode cX3_placeOf 15 = .ok (.iaload, 1) := by decide +kernel
theorem dX3_placeOf_16 : decode cX3_placeOf 16 = .ok (.iload_n 1, 1) := by decide +kernel
theorem dX3_placeOf_17 : decode cX3_placeOf 17 = .ok (.if_icmp .ne 5, 3) := by decide +kernel
theorem dX3_placeOf_20 : decode cX3_placeOf 20 = .ok (.iload_n 2, 1) := by decide +kernel
theorem dX3_placeOf_21 : decode cX3_placeOf 21 = .ok (.ireturn, 1) := by decide +kernel
theorem dX3_placeOf_22 : decode cX3_placeOf 22 = .ok (.iinc 2 1, 3) := by decide +kernel
theorem dX3_placeOf_25 : decode cX3_placeOf 25 = .ok (.goto (-23), 3) := by decide +kernel
theorem dX3_placeOf_28 : decode cX3_placeOf 28 = .ok (.iconst (-1), 1) := by decide +kernel
theorem dX3_placeOf_29 : decode cX3_placeOf 29 = .ok (.ireturn, 1) := by decide +kernel
/-! by program: wip/whole/gen.py out of wip/whole/src/10.lists.eb -/
/-! MemberList: place i of kind 16, its row of kind 17 -/
set_option maxRecDepth 100000 in
set_option maxHeartbeats 8000000 in
theorem c_X3_hasPlace {l : Launch} {D : va_G} {cys : Nat → ClassId} {ad : Nat → Int → Nat} {L : List Nat} {g : Nat → va_E} {X : Int64} {Z : ZT} (hi : injA ad) {i q : Int} (hi16 : vd 16 i) (hq : inR q) (hs : inR (Z 16 i 1)) : CM l D cys ad yX3_hasPlace cX3_hasPlace 2 (some .boolean) 0 0 0 0 [.ref (ad 16 i), .int (iI q)] L g X Z (PI L g X Z (fun r => (r = 1 ∧ 0 ≤ q ∧ q < Z 16 i 1) ∨ (r = 0 ∧ ¬ (0 ≤ q ∧ q < Z 16 i 1)))) := by
  refine cm_start hi (by decide +kernel) (Nat.le_of_ble_eq_true rfl) ?_
  intro p_ e_ s_ m_ args_ below_ meth_ c_ A_ Q_ hQ G hr hin
  refine j_iload_n G dX3_hasPlace_0 rfl ?_
  refine j_if_lt G 16 dX3_hasPlace_1 (by decide) (by omega) (fun c1 => ?_) (fun c1 => ?_)
  · refine j_iconst G dX3_hasPlace_16 ?_
    refine jr_B G hQ hr dX3_hasPlace_17 (by decide) (by decide) (by omega) ?_
    first | omega | (refine ⟨?_, ?_⟩ <;> (try intros) <;> first | rfl | omega | (exfalso; omega)) | simp
  · refine j_iload_n G dX3_hasPlace_4 rfl ?_
    refine j_aload_n G dX3_hasPlace_5 rfl ?_
    refine gf_16_1 G dX3_hasPlace_6 lf3_15 (by first | assumption | decide) ?_
    refine j_icmp_ge G 16 dX3_hasPlace_9 (by decide) (by omega) (by omega) (fun c9 => ?_) (fun c9 => ?_)
    · refine j_iconst G dX3_hasPlace_16 ?_
      refine jr_B G hQ hr dX3_hasPlace_17 (by decide) (by decide) (by omega) ?_
      first | omega | (refine ⟨?_, ?_⟩ <;> (try intros) <;> first | rfl | omega | (exfalso; omega)) | simp
    · refine j_iconst G dX3_hasPlace_12 ?_
      refine j_goto G 17 dX3_hasPlace_13 (by decide) ?_
      refine jr_B G hQ hr dX3_hasPlace_17 (by decide) (by decide) (by omega) ?_
      first | omega | (refine ⟨?_, ?_⟩ <;> (try intros) <;> first | rfl | omega | (exfalso; omega)) | simp
set_option maxRecDepth 100000 in
set_option maxHeartbeats 8000000 in
theorem c_X3_append {l : Launch} {D : va_G} {cys : Nat → ClassId} {ad : Nat → Int → Nat} {L : List Nat} {g : Nat → va_E} {X : Int64} {Z : ZT} (hi : injA ad) {i q : Int} (hi16 : vd 16 i) (hs : 0 ≤ Z 16 i 1 ∧ Z 16 i 1 ≤ 24) : CM l D cys ad yX3_append cX3_append 2 none 0 0 0 0 [.ref (ad 16 i), .int (iI q)] L g X Z (PVZ L g X Z (fun Z' => (Z 16 i 1 < 24 → Z' = zS (zS Z 17 i (Z 16 i 1) q) 16 i 1 (Z 16 i 1 + 1)) ∧ (Z 16 i 1 = 24 → Z' = Z))) := by
  refine cm_start hi (by decide +kernel) (Nat.le_of_ble_eq_true rfl) ?_
  intro p_ e_ s_ m_ args_ below_ meth_ c_ A_ Q_ hQ G hr hin
  refine j_aload_n G dX3_append_0 rfl ?_
  refine gf_16_1 G dX3_append_1 lf3_15 (by first | assumption | decide) ?_
  refine j_bipush G dX3_append_4 (by decide +kernel) ?_
  refine j_icmp_ge G 29 dX3_append_6 (by decide) (by omega) (by omega) (fun c6 => ?_) (fun c6 => ?_)
  · refine jr_VZ G hQ hr dX3_append_29 (by decide) (by decide) ?_

    refine ⟨fun hh => ?_, fun hh => ?_⟩
    · first | trivial | rfl | (exfalso; omega)
    · first | trivial | rfl | (exfalso; omega)
  · refine j_aload_n G dX3_append_9 rfl ?_
    refine gf_16_0 G dX3_append_10 lf3_9 (by first | assumption | decide) ?_
    refine j_aload_n G dX3_append_13 rfl ?_
    refine gf_16_1 G dX3_append_14 lf3_15 (by first | assumption | decide) ?_
    refine j_iload_n G dX3_append_17 rfl ?_
    refine as_17 G dX3_append_18 (by first | assumption | decide) (by omega) (by omega) ?_
    refine j_aload_n G dX3_append_19 rfl ?_
    refine j_dup G dX3_append_20 rfl ?_
    refine gf_16_1 G dX3_append_21 lf3_15 (by first | assumption | decide) ?_
    try simp (config := { decide := true }) only [zS_k, zS_s, zS_j, ne_eq]
    refine j_iconst G dX3_append_24 ?_
    refine j_iadd G dX3_append_25 ?_
    refine pf_16_1 G dX3_append_26 lf3_15 (by first | assumption | decide) ?_
    refine jr_VZ G hQ hr dX3_append_29 (by decide) (by decide) ?_
    try simp (config := { decide := true }) only [zS_k, zS_s, zS_j, ne_eq]

    refine ⟨fun hh => ?_, fun hh => ?_⟩
    · first | trivial | rfl | (exfalso; omega)
    · first | trivial | rfl | (exfalso; omega)
set_option maxRecDepth 100000 in
set_option maxHeartbeats 8000000 in
theorem c_X3_placeOf {l : Launch} {D : va_G} {cys : Nat → ClassId} {ad : Nat → Int → Nat} {L : List Nat} {g : Nat → va_E} {X : Int64} {Z : ZT} (hi : injA ad) {i q : Int} (hi16 : vd 16 i) (hs : 0 ≤ Z 16 i 1 ∧ Z 16 i 1 ≤ 24) (hq : inR q) (hv : ∀ j, 0 ≤ j → j < Z 16 i 1 → inR (Z 17 i j)) : CM l D cys ad yX3_placeOf cX3_placeOf 3 (some .int) 0 0 0 0 [.ref (ad 16 i), .int (iI q)] L g X Z (PI L g X Z (fun r => (0 ≤ r ∧ r < Z 16 i 1 ∧ Z 17 i r = q ∧ ∀ j, 0 ≤ j → j < r → Z 17 i j ≠ q) ∨ (r = -1 ∧ ∀ j, 0 ≤ j → j < Z 16 i 1 → Z 17 i j ≠ q))) := by
  refine cm_start hi (by decide +kernel) (Nat.le_of_ble_eq_true rfl) ?_
  intro p_ e_ s_ m_ args_ below_ meth_ c_ A_ Q_ hQ G hr hin
  have loop : ∀ (n : Nat) (a : Int), 0 ≤ a → a ≤ Z 16 i 1 → (Z 16 i 1 - a).toNat = n → (∀ j, 0 ≤ j → j < a → Z 17 i j ≠ q) → JJ p_ l e_ { frames := 0, cells := 0, slots := 0, locals := 0 } s_ m_ args_ below_ meth_ c_ D cys ad A_ Q_ 3 0 0 L g X Z 2 [(0, .ref (ad 16 i)), (1, .int (iI q)), (2, .int (iI a))] [] := by
    intro n
    induction n with
    | zero =>
      intro a h0 h1 h2 h3
      refine j_iload_n G dX3_placeOf_2 rfl ?_
      refine j_aload_n G dX3_placeOf_3 rfl ?_
      refine gf_16_1 G dX3_placeOf_4 lf3_15 (by first | assumption | decide) ?_
      refine j_icmp_ge G 28 dX3_placeOf_7 (by decide) (by omega) (by omega) (fun c7 => ?_) (fun c7 => ?_)
      · refine j_iconst G dX3_placeOf_28 ?_
        refine jr_I G hQ hr dX3_placeOf_29 (by decide) (by decide) ?_
        exact Or.inr ⟨rfl, fun j h4 h5 => h3 j h4 (by omega)⟩
      · exfalso; omega
    | succ n ih =>
      intro a h0 h1 h2 h3
      have hva := hv a h0
      refine j_iload_n G dX3_placeOf_2 rfl ?_
      refine j_aload_n G dX3_placeOf_3 rfl ?_
      refine gf_16_1 G dX3_placeOf_4 lf3_15 (by first | assumption | decide) ?_
      refine j_icmp_ge G 28 dX3_placeOf_7 (by decide) (by omega) (by omega) (fun c7 => ?_) (fun c7 => ?_)
      · exfalso; omega
      · refine j_aload_n G dX3_placeOf_10 rfl ?_
        refine gf_16_0 G dX3_placeOf_11 lf3_9 (by first | assumption | decide) ?_
        refine j_iload_n G dX3_placeOf_14 rfl ?_
        refine al_17 G dX3_placeOf_15 (by first | assumption | decide) (by omega) (by omega) ?_
        refine j_iload_n G dX3_placeOf_16 rfl ?_
        refine j_icmp_ne G 22 dX3_placeOf_17 (by decide) (by omega) (by omega) (fun c17 => ?_) (fun c17 => ?_)
        · refine j_iinc G dX3_placeOf_22 rfl (by decide) rfl ?_
          refine j_goto G 2 dX3_placeOf_25 (by decide) ?_
          refine ih (a + 1) (by omega) (by omega) (by omega) (fun j h4 h5 => ?_)
          by_cases e : j = a
          · subst e; assumption
          · exact h3 j h4 (by omega)
        · refine j_iload_n G dX3_placeOf_20 rfl ?_
          refine jr_I G hQ hr dX3_placeOf_21 (by decide) (by decide) ?_
          exact Or.inl ⟨h0, by omega, by omega, h3⟩
  refine j_iconst G dX3_placeOf_0 ?_
  refine j_istore_n G dX3_placeOf_1 (by decide) rfl ?_
  exact loop _ 0 (by omega) (by omega) rfl (fun j h4 h5 => by omega)

