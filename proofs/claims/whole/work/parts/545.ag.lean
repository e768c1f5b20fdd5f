/-! by program: wip/whole/geng.py: class and model tell the same -/
def MP_addDimension (S Z Z' : ZT) (lv : Int) (r : Int) : Prop := ((1 ≤ lv ∧ lv ≤ 3) ∧ S 0 0 5 < 4 ∧ r = S 0 0 5 ∧ (∀ k, k ≠ 30 → Z' k = zS (zS (zS (zS (zS (zS (zS Z 24 0 0 0) 25 0 (S 0 0 5) lv) 26 0 (S 0 0 5) 1) 24 0 1 (S 0 0 5 + 1)) 24 0 8 0) 24 0 14 0) 24 0 11 0 k) ∧ ∀ d j, 0 ≤ d → d < 4 → 0 ≤ j → j < 24 → Z' 30 d j = 0) ∨ (¬ (1 ≤ lv ∧ lv ≤ 3) ∧ r = 0 ∧ MTH 1 Z Z') ∨ ((1 ≤ lv ∧ lv ≤ 3) ∧ ¬ S 0 0 5 < 4 ∧ r = 0 ∧ MTH 2 Z Z')
theorem hi_addDimension {Z Z1 : ZT} {lv : Int} {k : Int} {v9 : Int64} (hA : WP_addDimension Z Z Z1 lv k v9) : HI Z Z1 := by
  unfold WP_addDimension at hA
  rcases hA with ⟨-, r, hP, -⟩ | ⟨-, hP⟩ | ⟨-, hP⟩
  · exact HI.fr hP.2.2.2.1 (by decide)
  · exact HI.sp (by rw [hP.2]; exact SP.rf Z)
  · exact HI.sp (by rw [hP.2]; exact SP.rf Z)
theorem mu_addDimension {Z Z1 Z2 : ZT} {lv : Int} {r x : Int} (hG : GOOD Z) (hP : (1 ≤ lv ∧ lv ≤ 3) ∧ Z 0 0 5 < 4 ∧ r = Z 0 0 5 ∧ M_addDimension Z lv Z1) (hB : (1 ≤ lv ∧ lv ≤ 3) ∧ Z 0 0 5 < 4 ∧ x = Z 0 0 5 ∧ (∀ k, k ≠ 30 → Z2 k = zS (zS (zS (zS (zS (zS (zS Z1 24 0 0 0) 25 0 (Z 0 0 5) lv) 26 0 (Z 0 0 5) 1) 24 0 1 (Z 0 0 5 + 1)) 24 0 8 0) 24 0 14 0) 24 0 11 0 k) ∧ ∀ d j, 0 ≤ d → d < 4 → 0 ≤ j → j < 24 → Z2 30 d j = 0) : GOOD Z2 ∧ KEEPL Z Z2 ∧ Z2 24 0 0 = 0 := by
  obtain ⟨⟨l0, l1⟩, h4, -, hM⟩ := hP
  obtain ⟨-, -, -, hu, h30⟩ := hB
  have hn := hG.1.1.n
  have h1 := hG.2.hi (HI.fr hM.1 (by decide))
  have hR := RMZ.addDimension h1 hM ⟨hn.1, h4⟩ hu h30
  have hl : LO Z1 Z2 := fun k hk => by
    rw [hu k (by omega)]
    rw [zS_k (by omega), zS_k (by omega), zS_k (by omega), zS_k (by omega), zS_k (by omega), zS_k (by omega), zS_k (by omega)]
  refine ⟨GOOD.of (hG.1.addDimension hM l0 l1 h4) hR hl, KEEPL.tr (fun cys ad L g q => RML.none q (by exact hM.2.2.2.2.2.2.2.2.1)) (KEEPL.lo hl), ?_⟩
  rw [hu 24 (by decide), zS_v, if_neg (by decide), zS_v, if_neg (by decide), zS_v, if_neg (by decide), zS_v, if_neg (by decide), zS_k (by decide), zS_k (by decide), zS_s]
theorem ag_addDimension {Z Z1 Z2 : ZT} {lv : Int} {k x : Int} {v9 : Int64} (hG : GOOD Z) (hA : WP_addDimension Z Z Z1 lv k v9) (hB : MP_addDimension Z Z1 Z2 lv x) : GOOD Z2 ∧ KEEPL Z Z2 ∧ Z2 24 0 0 = k ∧ (k = 0 → v9 = (iI x).toInt64) ∧ (0 ≤ k ∧ k ≤ 2) := by
  unfold WP_addDimension at hA
  unfold MP_addDimension at hB
  rcases hA with ⟨hk, r, hP, hv⟩ | ⟨hk, hP⟩ | ⟨hk, hP⟩
  · rcases hB with hB | hB | hB
    · have hq := mu_addDimension hG hP hB
      have hrx : r = x := hP.2.2.1.trans hB.2.2.1.symm
      exact ⟨hq.1, hq.2.1, hq.2.2.trans hk.symm, fun _ => by rw [hv, hrx], by rw [hk]; decide⟩
    · exfalso; clear hG; omega
    · exfalso; clear hG; omega
  · rcases hB with hB | hB | hB
    · exfalso; clear hG; omega
    · have hq := ag_ask hG (by rw [hP.2]; exact SP.rf Z) hB.2.2
      exact ⟨hq.1, hq.2.1, hq.2.2.trans hk.symm, fun h0 => absurd (hk.symm.trans h0) (by decide), by rw [hk]; decide⟩
    · exfalso; clear hG; omega
  · rcases hB with hB | hB | hB
    · exfalso; clear hG; omega
    · exfalso; clear hG; omega
    · have hq := ag_ask hG (by rw [hP.2]; exact SP.rf Z) hB.2.2.2
      exact ⟨hq.1, hq.2.1, hq.2.2.trans hk.symm, fun h0 => absurd (hk.symm.trans h0) (by decide), by rw [hk]; decide⟩
def MP_addMember (S Z Z' : ZT) (d q : Int) (r : Int) : Prop := ((0 ≤ d ∧ d < S 0 0 5 ∧ 0 ≤ q ∧ q < S 2 d 4) ∧ (S 4 d q ≠ S 2 d 3 ∧ S 2 d 4 < 24) ∧ r = S 2 d 4 ∧ Z' = zS (zS (zS Z 24 0 0 0) 28 d (S 2 d 4) q) 26 0 d (S 2 d 4 + 1)) ∨ (¬ (0 ≤ d ∧ d < S 0 0 5 ∧ 0 ≤ q ∧ q < S 2 d 4) ∧ r = 0 ∧ MTH 1 Z Z') ∨ ((0 ≤ d ∧ d < S 0 0 5 ∧ 0 ≤ q ∧ q < S 2 d 4) ∧ ¬ (S 4 d q ≠ S 2 d 3 ∧ S 2 d 4 < 24) ∧ r = 0 ∧ MTH 2 Z Z')
theorem hi_addMember {Z Z1 : ZT} {d q : Int} {k : Int} {v9 : Int64} (hA : WP_addMember Z Z Z1 d q k v9) : HI Z Z1 := by
  unfold WP_addMember at hA
  rcases hA with ⟨-, r, hP, -⟩ | ⟨-, hP⟩ | ⟨-, hP⟩
  · exact HI.fr hP.2.2.2.1 (by decide)
  · exact HI.sp (by rw [hP.2]; exact SP.rf Z)
  · exact HI.sp (by rw [hP.2]; exact SP.rf Z)
theorem mu_addMember {Z Z1 Z2 : ZT} {d q : Int} {r x : Int} (hG : GOOD Z) (hP : (0 ≤ d ∧ d < Z 0 0 5 ∧ 0 ≤ q ∧ q < Z 2 d 4) ∧ (Z 4 d q ≠ Z 2 d 3 ∧ Z 2 d 4 < 24) ∧ r = Z 2 d 4 ∧ M_addMember Z d q Z1) (hB : (0 ≤ d ∧ d < Z 0 0 5 ∧ 0 ≤ q ∧ q < Z 2 d 4) ∧ (Z 4 d q ≠ Z 2 d 3 ∧ Z 2 d 4 < 24) ∧ x = Z 2 d 4 ∧ Z2 = zS (zS (zS Z1 24 0 0 0) 28 d (Z 2 d 4) q) 26 0 d (Z 2 d 4 + 1)) : GOOD Z2 ∧ KEEPL Z Z2 ∧ Z2 24 0 0 = 0 := by
  obtain ⟨⟨d0, d1, q0, q1⟩, ⟨c1, c2⟩, -, hM⟩ := hP
  obtain ⟨-, -, -, hz⟩ := hB
  have hl : LO Z1 Z2 := fun k hk => by rw [hz, zS_k (by omega), zS_k (by omega), zS_k (by omega)]
  subst hz
  have hn := hG.1.1.n
  have h1 := hG.2.hi (HI.fr hM.1 (by decide))
  refine ⟨GOOD.of (hG.1.addMember hM d0 d1 q0 q1 c1 c2) (RMZ.addMember h1 hM d0 (by omega)) hl, KEEPL.tr (KEEPL.of (by rw [hM.1.1 0 rfl (by decide)]) (by rw [hM.1.1 6 rfl (by decide)]) (hM.1.1 8 rfl (by decide))) (KEEPL.lo hl), ?_⟩
  rw [zS_k (by decide), zS_k (by decide), zS_s]
theorem ag_addMember {Z Z1 Z2 : ZT} {d q : Int} {k x : Int} {v9 : Int64} (hG : GOOD Z) (hA : WP_addMember Z Z Z1 d q k v9) (hB : MP_addMember Z Z1 Z2 d q x) : GOOD Z2 ∧ KEEPL Z Z2 ∧ Z2 24 0 0 = k ∧ (k = 0 → v9 = (iI x).toInt64) ∧ (0 ≤ k ∧ k ≤ 2) := by
  unfold WP_addMember at hA
  unfold MP_addMember at hB
  rcases hA with ⟨hk, r, hP, hv⟩ | ⟨hk, hP⟩ | ⟨hk, hP⟩
  · rcases hB with hB | hB | hB
    · have hq := mu_addMember hG hP hB
      have hrx : r = x := hP.2.2.1.trans hB.2.2.1.symm
      exact ⟨hq.1, hq.2.1, hq.2.2.trans hk.symm, fun _ => by rw [hv, hrx], by rw [hk]; decide⟩
    · exfalso; clear hG; omega
    · exfalso; clear hG; omega
  · rcases hB with hB | hB | hB
    · exfalso; clear hG; omega
    · have hq := ag_ask hG (by rw [hP.2]; exact SP.rf Z) hB.2.2
      exact ⟨hq.1, hq.2.1, hq.2.2.trans hk.symm, fun h0 => absurd (hk.symm.trans h0) (by decide), by rw [hk]; decide⟩
    · exfalso; clear hG; omega
  · rcases hB with hB | hB | hB
    · exfalso; clear hG; omega
    · exfalso; clear hG; omega
    · have hq := ag_ask hG (by rw [hP.2]; exact SP.rf Z) hB.2.2.2
      exact ⟨hq.1, hq.2.1, hq.2.2.trans hk.symm, fun h0 => absurd (hk.symm.trans h0) (by decide), by rw [hk]; decide⟩
def MP_move (S Z Z' : ZT) (d q w : Int) (r : Int) : Prop := ((0 ≤ d ∧ d < S 0 0 5 ∧ 0 ≤ q ∧ q < S 2 d 4 ∧ 0 ≤ w ∧ w < S 2 d 4) ∧ (q ≠ 0 ∧ S 4 d w = S 4 d q - 1) ∧ r = S 3 d q ∧ (∀ k' i', ¬ (k' = 38 ∧ i' = 0) → Z' k' i' = zS (zS Z 24 0 0 0) 28 d q w k' i') ∧ ∀ j, Z' 38 0 j = if 0 ≤ j ∧ j < (6 : Nat) then 1 else Z 38 0 j) ∨ (¬ (0 ≤ d ∧ d < S 0 0 5 ∧ 0 ≤ q ∧ q < S 2 d 4 ∧ 0 ≤ w ∧ w < S 2 d 4) ∧ r = 0 ∧ MTH 1 Z Z') ∨ ((0 ≤ d ∧ d < S 0 0 5 ∧ 0 ≤ q ∧ q < S 2 d 4 ∧ 0 ≤ w ∧ w < S 2 d 4) ∧ ¬ (q ≠ 0 ∧ S 4 d w = S 4 d q - 1) ∧ r = 0 ∧ MTH 2 Z Z')
theorem hi_move {Z Z1 : ZT} {d q w : Int} {k : Int} {v9 : Int64} (hA : WP_move Z Z Z1 d q w k v9) : HI Z Z1 := by
  unfold WP_move at hA
  rcases hA with ⟨-, r, hP, -⟩ | ⟨-, hP⟩ | ⟨-, hP⟩
  · exact HI.fr hP.2.2.2.1 (by decide)
  · exact HI.sp (by rw [hP.2]; exact SP.rf Z)
  · exact HI.sp (by rw [hP.2]; exact SP.rf Z)
theorem mu_move {Z Z1 Z2 : ZT} {d q w : Int} {r x : Int} (hG : GOOD Z) (hP : (0 ≤ d ∧ d < Z 0 0 5 ∧ 0 ≤ q ∧ q < Z 2 d 4 ∧ 0 ≤ w ∧ w < Z 2 d 4) ∧ (q ≠ 0 ∧ Z 4 d w = Z 4 d q - 1) ∧ r = Z 3 d q ∧ M_move Z d q w Z1) (hB : (0 ≤ d ∧ d < Z 0 0 5 ∧ 0 ≤ q ∧ q < Z 2 d 4 ∧ 0 ≤ w ∧ w < Z 2 d 4) ∧ (q ≠ 0 ∧ Z 4 d w = Z 4 d q - 1) ∧ x = Z 3 d q ∧ (∀ k' i', ¬ (k' = 38 ∧ i' = 0) → Z2 k' i' = zS (zS Z1 24 0 0 0) 28 d q w k' i') ∧ ∀ j, Z2 38 0 j = if 0 ≤ j ∧ j < (6 : Nat) then 1 else Z1 38 0 j) : GOOD Z2 ∧ KEEPL Z Z2 ∧ Z2 24 0 0 = 0 := by
  obtain ⟨⟨d0, d1, q0, q1, w0, w1⟩, ⟨c1, c2⟩, -, hM⟩ := hP
  obtain ⟨-, -, -, hu, h38⟩ := hB
  have hv := hG.1.1.v
  have h1 := hG.2.hi (HI.fr hM.1 (by decide))
  have h38' : ∀ j, Z2 38 0 j = if 0 ≤ j ∧ j < (6 : Nat) then 1 else Z1 38 0 j := h38
  have hl : LO Z1 Z2 := fun k hk => by
    funext i
    rw [hu k i (by omega), zS_k (by omega), zS_k (by omega)]
  refine ⟨GOOD.of (hG.1.move hM d0 d1 q0 q1 w0 w1 c1 c2) (RMZ.move h1 hM hv.2 hu h38') hl, KEEPL.tr (KEEPL.of (by rw [hM.1.1 0 rfl (by decide)]) (by rw [hM.1.1 6 rfl (by decide)]) (hM.1.1 8 rfl (by decide))) (KEEPL.lo hl), ?_⟩
  rw [hu 24 0 (by decide), zS_k (by decide), zS_s]
theorem ag_move {Z Z1 Z2 : ZT} {d q w : Int} {k x : Int} {v9 : Int64} (hG : GOOD Z) (hA : WP_move Z Z Z1 d q w k v9) (hB : MP_move Z Z1 Z2 d q w x) : GOOD Z2 ∧ KEEPL Z Z2 ∧ Z2 24 0 0 = k ∧ (k = 0 → v9 = (iI x).toInt64) ∧ (0 ≤ k ∧ k ≤ 2) := by
  unfold WP_move at hA
  unfold MP_move at hB
  rcases hA with ⟨hk, r, hP, hv⟩ | ⟨hk, hP⟩ | ⟨hk, hP⟩
  · rcases hB with hB | hB | hB
    · have hq := mu_move hG hP hB
      have hrx : r = x := hP.2.2.1.trans hB.2.2.1.symm
      exact ⟨hq.1, hq.2.1, hq.2.2.trans hk.symm, fun _ => by rw [hv, hrx], by rw [hk]; decide⟩
    · exfalso; clear hG; omega
    · exfalso; clear hG; omega
  · rcases hB with hB | hB | hB
    · exfalso; clear hG; omega
    · have hq := ag_ask hG (by rw [hP.2]; exact SP.rf Z) hB.2.2
      exact ⟨hq.1, hq.2.1, hq.2.2.trans hk.symm, fun h0 => absurd (hk.symm.trans h0) (by decide), by rw [hk]; decide⟩
    · exfalso; clear hG; omega
  · rcases hB with hB | hB | hB
    · exfalso; clear hG; omega
    · exfalso; clear hG; omega
    · have hq := ag_ask hG (by rw [hP.2]; exact SP.rf Z) hB.2.2.2
      exact ⟨hq.1, hq.2.1, hq.2.2.trans hk.symm, fun h0 => absurd (hk.symm.trans h0) (by decide), by rw [hk]; decide⟩
def MP_members (S Z Z' : ZT) (d : Int) (r : Int) : Prop := ((0 ≤ d ∧ d < S 0 0 5) ∧ r = S 2 d 4 ∧ MTH 0 Z Z') ∨ (¬ (0 ≤ d ∧ d < S 0 0 5) ∧ r = 0 ∧ MTH 1 Z Z')
theorem hi_members {Z Z1 : ZT} {d : Int} {k : Int} {v9 : Int64} (hA : WP_members Z Z Z1 d k v9) : HI Z Z1 := by
  unfold WP_members at hA
  rcases hA with ⟨-, r, hP, -⟩ | ⟨-, hP⟩
  · exact HI.sp (by rw [hP.2]; exact SP.rf Z)
  · exact HI.sp (by rw [hP.2]; exact SP.rf Z)
theorem ag_members {Z Z1 Z2 : ZT} {d : Int} {k x : Int} {v9 : Int64} (hG : GOOD Z) (hA : WP_members Z Z Z1 d k v9) (hB : MP_members Z Z1 Z2 d x) : GOOD Z2 ∧ KEEPL Z Z2 ∧ Z2 24 0 0 = k ∧ (k = 0 → v9 = (iI x).toInt64) ∧ (0 ≤ k ∧ k ≤ 2) := by
  unfold WP_members at hA
  unfold MP_members at hB
  rcases hA with ⟨hk, r, hP, hv⟩ | ⟨hk, hP⟩
  · rcases hB with hB | hB
    · have hq := ag_ask hG (by rw [hP.2]; exact SP.rf Z) hB.2.2
      have hrx : r = x := hP.1.2.trans hB.2.1.symm
      exact ⟨hq.1, hq.2.1, hq.2.2.trans hk.symm, fun _ => by rw [hv, hrx], by rw [hk]; decide⟩
    · exfalso; clear hG; omega
  · rcases hB with hB | hB
    · exfalso; clear hG; omega
    · have hq := ag_ask hG (by rw [hP.2]; exact SP.rf Z) hB.2.2
      exact ⟨hq.1, hq.2.1, hq.2.2.trans hk.symm, fun h0 => absurd (hk.symm.trans h0) (by decide), by rw [hk]; decide⟩
def MP_parentOf (S Z Z' : ZT) (d q : Int) (r : Int) : Prop := ((0 ≤ d ∧ d < S 0 0 5 ∧ 0 ≤ q ∧ q < S 2 d 4) ∧ r = S 3 d q ∧ MTH 0 Z Z') ∨ (¬ (0 ≤ d ∧ d < S 0 0 5 ∧ 0 ≤ q ∧ q < S 2 d 4) ∧ r = 0 ∧ MTH 1 Z Z')
theorem hi_parentOf {Z Z1 : ZT} {d q : Int} {k : Int} {v9 : Int64} (hA : WP_parentOf Z Z Z1 d q k v9) : HI Z Z1 := by
  unfold WP_parentOf at hA
  rcases hA with ⟨-, r, hP, -⟩ | ⟨-, hP⟩
  · exact HI.sp (by rw [hP.2]; exact SP.rf Z)
  · exact HI.sp (by rw [hP.2]; exact SP.rf Z)
theorem ag_parentOf {Z Z1 Z2 : ZT} {d q : Int} {k x : Int} {v9 : Int64} (hG : GOOD Z) (hA : WP_parentOf Z Z Z1 d q k v9) (hB : MP_parentOf Z Z1 Z2 d q x) : GOOD Z2 ∧ KEEPL Z Z2 ∧ Z2 24 0 0 = k ∧ (k = 0 → v9 = (iI x).toInt64) ∧ (0 ≤ k ∧ k ≤ 2) := by
  unfold WP_parentOf at hA
  unfold MP_parentOf at hB
  rcases hA with ⟨hk, r, hP, hv⟩ | ⟨hk, hP⟩
  · rcases hB with hB | hB
    · have hq := ag_ask hG (by rw [hP.2]; exact SP.rf Z) hB.2.2
      have hrx : r = x := hP.1.2.trans hB.2.1.symm
      exact ⟨hq.1, hq.2.1, hq.2.2.trans hk.symm, fun _ => by rw [hv, hrx], by rw [hk]; decide⟩
    · exfalso; clear hG; omega
  · rcases hB with hB | hB
    · exfalso; clear hG; omega
    · have hq := ag_ask hG (by rw [hP.2]; exact SP.rf Z) hB.2.2
      exact ⟨hq.1, hq.2.1, hq.2.2.trans hk.symm, fun h0 => absurd (hk.symm.trans h0) (by decide), by rw [hk]; decide⟩
def MP_levelOf (S Z Z' : ZT) (d q : Int) (r : Int) : Prop := ((0 ≤ d ∧ d < S 0 0 5 ∧ 0 ≤ q ∧ q < S 2 d 4) ∧ r = S 4 d q ∧ MTH 0 Z Z') ∨ (¬ (0 ≤ d ∧ d < S 0 0 5 ∧ 0 ≤ q ∧ q < S 2 d 4) ∧ r = 0 ∧ MTH 1 Z Z')
theorem hi_levelOf {Z Z1 : ZT} {d q : Int} {k : Int} {v9 : Int64} (hA : WP_levelOf Z Z Z1 d q k v9) : HI Z Z1 := by
  unfold WP_levelOf at hA
  rcases hA with ⟨-, r, hP, -⟩ | ⟨-, hP⟩
  · exact HI.sp (by rw [hP.2]; exact SP.rf Z)
  · exact HI.sp (by rw [hP.2]; exact SP.rf Z)
theorem ag_levelOf {Z Z1 Z2 : ZT} {d q : Int} {k x : Int} {v9 : Int64} (hG : GOOD Z) (hA : WP_levelOf Z Z Z1 d q k v9) (hB : MP_levelOf Z Z1 Z2 d q x) : GOOD Z2 ∧ KEEPL Z Z2 ∧ Z2 24 0 0 = k ∧ (k = 0 → v9 = (iI x).toInt64) ∧ (0 ≤ k ∧ k ≤ 2) := by
  unfold WP_levelOf at hA
  unfold MP_levelOf at hB
  rcases hA with ⟨hk, r, hP, hv⟩ | ⟨hk, hP⟩
  · rcases hB with hB | hB
    · have hq := ag_ask hG (by rw [hP.2]; exact SP.rf Z) hB.2.2
      have hrx : r = x := hP.1.2.trans hB.2.1.symm
      exact ⟨hq.1, hq.2.1, hq.2.2.trans hk.symm, fun _ => by rw [hv, hrx], by rw [hk]; decide⟩
    · exfalso; clear hG; omega
  · rcases hB with hB | hB
    · exfalso; clear hG; omega
    · have hq := ag_ask hG (by rw [hP.2]; exact SP.rf Z) hB.2.2
      exact ⟨hq.1, hq.2.1, hq.2.2.trans hk.symm, fun h0 => absurd (hk.symm.trans h0) (by decide), by rw [hk]; decide⟩
def MP_memberAt (S Z Z' : ZT) (d q w : Int) (r : Int) : Prop := ((0 ≤ d ∧ d < S 0 0 5 ∧ 0 ≤ q ∧ q ≤ S 2 d 3) ∧ (0 ≤ w ∧ w < (wk S d 0 q).length) ∧ r = (wk S d 0 q).getD w.toNat 0 ∧ MTH 0 Z Z') ∨ (¬ ((0 ≤ d ∧ d < S 0 0 5 ∧ 0 ≤ q ∧ q ≤ S 2 d 3) ∧ 0 ≤ w ∧ w < (wk S d 0 q).length) ∧ r = 0 ∧ MTH 1 Z Z')
theorem hi_memberAt {Z Z1 : ZT} {d q w : Int} {k : Int} {v9 : Int64} (hA : WP_memberAt Z Z Z1 d q w k v9) : HI Z Z1 := by
  unfold WP_memberAt at hA
  rcases hA with ⟨-, r, hP, -⟩ | ⟨-, hP⟩
  · exact HI.sp hP.2.2
  · exact HI.sp hP.2
theorem ag_memberAt {Z Z1 Z2 : ZT} {d q w : Int} {k x : Int} {v9 : Int64} (hG : GOOD Z) (hA : WP_memberAt Z Z Z1 d q w k v9) (hB : MP_memberAt Z Z1 Z2 d q w x) : GOOD Z2 ∧ KEEPL Z Z2 ∧ Z2 24 0 0 = k ∧ (k = 0 → v9 = (iI x).toInt64) ∧ (0 ≤ k ∧ k ≤ 2) := by
  unfold WP_memberAt at hA
  unfold MP_memberAt at hB
  rcases hA with ⟨hk, r, hP, hv⟩ | ⟨hk, hP⟩
  · rcases hB with hB | hB
    · have hq := ag_ask hG hP.2.2 hB.2.2.2
      have hrx : r = x := hP.2.1.trans hB.2.2.1.symm
      exact ⟨hq.1, hq.2.1, hq.2.2.trans hk.symm, fun _ => by rw [hv, hrx], by rw [hk]; decide⟩
    · exfalso; clear hG; omega
  · rcases hB with hB | hB
    · exfalso; clear hG; omega
    · have hq := ag_ask hG hP.2 hB.2.2
      exact ⟨hq.1, hq.2.1, hq.2.2.trans hk.symm, fun h0 => absurd (hk.symm.trans h0) (by decide), by rw [hk]; decide⟩
def MP_leaveOut (S Z Z' : ZT) (d q b : Int) (r : Int) : Prop := ((0 ≤ d ∧ d < S 0 0 5 ∧ 0 ≤ q ∧ q < S 2 d 4) ∧ r = S 5 d q ∧ Z' = zS (zS Z 24 0 0 0) 30 d q b) ∨ (¬ (0 ≤ d ∧ d < S 0 0 5 ∧ 0 ≤ q ∧ q < S 2 d 4) ∧ r = 0 ∧ MTH 1 Z Z')
theorem hi_leaveOut {Z Z1 : ZT} {d q b : Int} {k : Int} {v9 : Int64} (hA : WP_leaveOut Z Z Z1 d q b k v9) : HI Z Z1 := by
  unfold WP_leaveOut at hA
  rcases hA with ⟨-, r, hP, -⟩ | ⟨-, hP⟩
  · exact HI.fr hP.2.2.1 (by decide)
  · exact HI.sp (by rw [hP.2]; exact SP.rf Z)
theorem mu_leaveOut {Z Z1 Z2 : ZT} {d q b : Int} {r x : Int} (hG : GOOD Z) (hb : b = 0 ∨ b = 1) (hP : (0 ≤ d ∧ d < Z 0 0 5 ∧ 0 ≤ q ∧ q < Z 2 d 4) ∧ r = Z 5 d q ∧ M_leaveOut Z d q b Z1) (hB : (0 ≤ d ∧ d < Z 0 0 5 ∧ 0 ≤ q ∧ q < Z 2 d 4) ∧ x = Z 5 d q ∧ Z2 = zS (zS Z1 24 0 0 0) 30 d q b) : GOOD Z2 ∧ KEEPL Z Z2 ∧ Z2 24 0 0 = 0 := by
  obtain ⟨⟨d0, d1, q0, q1⟩, -, hM⟩ := hP
  obtain ⟨-, -, hz⟩ := hB
  have hl : LO Z1 Z2 := fun k hk => by rw [hz, zS_k (by omega), zS_k (by omega)]
  subst hz
  have h1 := hG.2.hi (HI.fr hM.1 (by decide))
  refine ⟨GOOD.of (hG.1.leaveOut hM hb) (RMZ.leaveOut h1 hM) hl, KEEPL.tr (KEEPL.of (by rw [hM.1.1 0 rfl (by decide)]) (by rw [hM.1.1 6 rfl (by decide)]) (hM.1.1 8 rfl (by decide))) (KEEPL.lo hl), ?_⟩
  rw [zS_k (by decide), zS_s]
theorem ag_leaveOut {Z Z1 Z2 : ZT} {d q b : Int} {k x : Int} {v9 : Int64} (hG : GOOD Z) (hb : b = 0 ∨ b = 1) (hA : WP_leaveOut Z Z Z1 d q b k v9) (hB : MP_leaveOut Z Z1 Z2 d q b x) : GOOD Z2 ∧ KEEPL Z Z2 ∧ Z2 24 0 0 = k ∧ (k = 0 → v9 = (if x = 0 then 0 else 1)) ∧ (0 ≤ k ∧ k ≤ 2) := by
  unfold WP_leaveOut at hA
  unfold MP_leaveOut at hB
  rcases hA with ⟨hk, r, hP, hv⟩ | ⟨hk, hP⟩
  · rcases hB with hB | hB
    · have hq := mu_leaveOut hG hb hP hB
      have hrx : r = x := hP.2.1.trans hB.2.1.symm
      exact ⟨hq.1, hq.2.1, hq.2.2.trans hk.symm, fun _ => by rw [hv, hrx], by rw [hk]; decide⟩
    · exfalso; clear hG; omega
  · rcases hB with hB | hB
    · exfalso; clear hG; omega
    · have hq := ag_ask hG (by rw [hP.2]; exact SP.rf Z) hB.2.2
      exact ⟨hq.1, hq.2.1, hq.2.2.trans hk.symm, fun h0 => absurd (hk.symm.trans h0) (by decide), by rw [hk]; decide⟩
def MP_goTo (S Z Z' : ZT) (d q : Int) (r : Int) : Prop := ((0 ≤ d ∧ d < S 0 0 5 ∧ 0 ≤ q ∧ q < S 2 d 4) ∧ r = S 2 d 5 ∧ Z' = zS (zS Z 24 0 0 0) 31 0 d q) ∨ (¬ (0 ≤ d ∧ d < S 0 0 5 ∧ 0 ≤ q ∧ q < S 2 d 4) ∧ r = 0 ∧ MTH 1 Z Z')
theorem hi_goTo {Z Z1 : ZT} {d q : Int} {k : Int} {v9 : Int64} (hA : WP_goTo Z Z Z1 d q k v9) : HI Z Z1 := by
  unfold WP_goTo at hA
  rcases hA with ⟨-, r, hP, -⟩ | ⟨-, hP⟩
  · exact HI.fr hP.2.2.1 (by decide)
  · exact HI.sp (by rw [hP.2]; exact SP.rf Z)
theorem mu_goTo {Z Z1 Z2 : ZT} {d q : Int} {r x : Int} (hG : GOOD Z) (hP : (0 ≤ d ∧ d < Z 0 0 5 ∧ 0 ≤ q ∧ q < Z 2 d 4) ∧ r = Z 2 d 5 ∧ M_goTo Z d q Z1) (hB : (0 ≤ d ∧ d < Z 0 0 5 ∧ 0 ≤ q ∧ q < Z 2 d 4) ∧ x = Z 2 d 5 ∧ Z2 = zS (zS Z1 24 0 0 0) 31 0 d q) : GOOD Z2 ∧ KEEPL Z Z2 ∧ Z2 24 0 0 = 0 := by
  obtain ⟨⟨d0, d1, q0, q1⟩, -, hM⟩ := hP
  obtain ⟨-, -, hz⟩ := hB
  have hl : LO Z1 Z2 := fun k hk => by rw [hz, zS_k (by omega), zS_k (by omega)]
  subst hz
  have hn := hG.1.1.n
  have h1 := hG.2.hi (HI.fr hM.1 (by decide))
  refine ⟨GOOD.of (hG.1.goTo hM d1 q0 q1) (RMZ.goTo h1 hM d0 (by omega)) hl, KEEPL.tr (KEEPL.of (by rw [hM.1.1 0 rfl (by decide)]) (by rw [hM.1.1 6 rfl (by decide)]) (hM.1.1 8 rfl (by decide))) (KEEPL.lo hl), ?_⟩
  rw [zS_k (by decide), zS_s]
theorem ag_goTo {Z Z1 Z2 : ZT} {d q : Int} {k x : Int} {v9 : Int64} (hG : GOOD Z) (hA : WP_goTo Z Z Z1 d q k v9) (hB : MP_goTo Z Z1 Z2 d q x) : GOOD Z2 ∧ KEEPL Z Z2 ∧ Z2 24 0 0 = k ∧ (k = 0 → v9 = (iI x).toInt64) ∧ (0 ≤ k ∧ k ≤ 2) := by
  unfold WP_goTo at hA
  unfold MP_goTo at hB
  rcases hA with ⟨hk, r, hP, hv⟩ | ⟨hk, hP⟩
  · rcases hB with hB | hB
    · have hq := mu_goTo hG hP hB
      have hrx : r = x := hP.2.1.trans hB.2.1.symm
      exact ⟨hq.1, hq.2.1, hq.2.2.trans hk.symm, fun _ => by rw [hv, hrx], by rw [hk]; decide⟩
    · exfalso; clear hG; omega
  · rcases hB with hB | hB
    · exfalso; clear hG; omega
    · have hq := ag_ask hG (by rw [hP.2]; exact SP.rf Z) hB.2.2
      exact ⟨hq.1, hq.2.1, hq.2.2.trans hk.symm, fun h0 => absurd (hk.symm.trans h0) (by decide), by rw [hk]; decide⟩
def MP_goUp (S Z Z' : ZT) (d : Int) (r : Int) : Prop := ((0 ≤ d ∧ d < S 0 0 5) ∧ ((S 2 d 5 = 0 ∧ r = -1 ∧ MTH 0 Z Z') ∨ (S 2 d 5 ≠ 0 ∧ r = S 3 d (S 2 d 5) ∧ Z' = zS (zS Z 24 0 0 0) 31 0 d (S 3 d (S 2 d 5))))) ∨ (¬ (0 ≤ d ∧ d < S 0 0 5) ∧ r = 0 ∧ MTH 1 Z Z')
theorem hi_goUp {Z Z1 : ZT} {d : Int} {k : Int} {v9 : Int64} (hA : WP_goUp Z Z Z1 d k v9) : HI Z Z1 := by
  unfold WP_goUp at hA
  rcases hA with ⟨-, r, hP, -⟩ | ⟨-, hP⟩
  · exact hP.2.elim (fun z => HI.sp z.2.2) (fun z => HI.fr z.2.2.1 (by decide))
  · exact HI.sp (by rw [hP.2]; exact SP.rf Z)
theorem mu_goUp {Z Z1 Z2 : ZT} {d : Int} {r x : Int} (hG : GOOD Z) (hP : (0 ≤ d ∧ d < Z 0 0 5) ∧ ((Z 2 d 5 = 0 ∧ r = -1 ∧ SP Z Z1) ∨ (Z 2 d 5 ≠ 0 ∧ r = Z 3 d (Z 2 d 5) ∧ M_goTo Z d (Z 3 d (Z 2 d 5)) Z1))) (hB : (0 ≤ d ∧ d < Z 0 0 5) ∧ ((Z 2 d 5 = 0 ∧ x = -1 ∧ MTH 0 Z1 Z2) ∨ (Z 2 d 5 ≠ 0 ∧ x = Z 3 d (Z 2 d 5) ∧ Z2 = zS (zS Z1 24 0 0 0) 31 0 d (Z 3 d (Z 2 d 5))))) : GOOD Z2 ∧ KEEPL Z Z2 ∧ Z2 24 0 0 = 0 := by
  obtain ⟨⟨d0, d1⟩, hP⟩ := hP
  obtain ⟨-, hB⟩ := hB
  rcases hP with ⟨p1, p2, hS⟩ | ⟨p1, p2, hM⟩
  · rcases hB with ⟨q1, q2, hz⟩ | ⟨q1, q2, hz⟩
    · exact ag_ask hG hS hz
    · exact absurd p1 q1
  · rcases hB with ⟨q1, q2, hz⟩ | ⟨q1, q2, hz⟩
    · exact absurd q1 p1
    · have h0 := hz
      have hl : LO Z1 Z2 := fun k hk => by rw [hz, zS_k (by omega), zS_k (by omega)]
      subst hz
      have hn := hG.1.1.n
      have ht := hG.1.1.t d0 d1
      have hm := (ht.at ht.1.2.2.2.2.1 ht.1.2.2.2.2.2.1).2.2.2 (by have := ht.1; omega)
      have h1 := hG.2.hi (HI.fr hM.1 (by decide))
      refine ⟨GOOD.of (hG.1.goTo hM d1 hm.1 hm.2.1) (RMZ.goTo h1 hM d0 (by omega)) hl, KEEPL.tr (KEEPL.of (by rw [hM.1.1 0 rfl (by decide)]) (by rw [hM.1.1 6 rfl (by decide)]) (hM.1.1 8 rfl (by decide))) (KEEPL.lo hl), ?_⟩
      rw [zS_k (by decide), zS_s]
theorem ag_goUp {Z Z1 Z2 : ZT} {d : Int} {k x : Int} {v9 : Int64} (hG : GOOD Z) (hA : WP_goUp Z Z Z1 d k v9) (hB : MP_goUp Z Z1 Z2 d x) : GOOD Z2 ∧ KEEPL Z Z2 ∧ Z2 24 0 0 = k ∧ (k = 0 → v9 = (iI x).toInt64) ∧ (0 ≤ k ∧ k ≤ 2) := by
  unfold WP_goUp at hA
  unfold MP_goUp at hB
  rcases hA with ⟨hk, r, hP, hv⟩ | ⟨hk, hP⟩
  · rcases hB with hB | hB
    · have hq := mu_goUp hG hP hB
      have hrx : r = x := by
        rcases hP.2 with z | z <;> rcases hB.2 with z2 | z2
        · exact z.2.1.trans z2.2.1.symm
        · exact absurd z.1 z2.1
        · exact absurd z2.1 z.1
        · exact z.2.1.trans z2.2.1.symm
      exact ⟨hq.1, hq.2.1, hq.2.2.trans hk.symm, fun _ => by rw [hv, hrx], by rw [hk]; decide⟩
    · exact absurd hP.1 hB.1
  · rcases hB with hB | hB
    · exact absurd hB.1 hP.1
    · have hq := ag_ask hG (by rw [hP.2]; exact SP.rf Z) hB.2.2
      exact ⟨hq.1, hq.2.1, hq.2.2.trans hk.symm, fun h0 => absurd (hk.symm.trans h0) (by decide), by rw [hk]; decide⟩
def MP_pointOf (S Z Z' : ZT) (d : Int) (r : Int) : Prop := ((0 ≤ d ∧ d < S 0 0 5) ∧ r = S 2 d 5 ∧ MTH 0 Z Z') ∨ (¬ (0 ≤ d ∧ d < S 0 0 5) ∧ r = 0 ∧ MTH 1 Z Z')
theorem hi_pointOf {Z Z1 : ZT} {d : Int} {k : Int} {v9 : Int64} (hA : WP_pointOf Z Z Z1 d k v9) : HI Z Z1 := by
  unfold WP_pointOf at hA
  rcases hA with ⟨-, r, hP, -⟩ | ⟨-, hP⟩
  · exact HI.sp (by rw [hP.2]; exact SP.rf Z)
  · exact HI.sp (by rw [hP.2]; exact SP.rf Z)
theorem ag_pointOf {Z Z1 Z2 : ZT} {d : Int} {k x : Int} {v9 : Int64} (hG : GOOD Z) (hA : WP_pointOf Z Z Z1 d k v9) (hB : MP_pointOf Z Z1 Z2 d x) : GOOD Z2 ∧ KEEPL Z Z2 ∧ Z2 24 0 0 = k ∧ (k = 0 → v9 = (iI x).toInt64) ∧ (0 ≤ k ∧ k ≤ 2) := by
  unfold WP_pointOf at hA
  unfold MP_pointOf at hB
  rcases hA with ⟨hk, r, hP, hv⟩ | ⟨hk, hP⟩
  · rcases hB with hB | hB
    · have hq := ag_ask hG (by rw [hP.2]; exact SP.rf Z) hB.2.2
      have hrx : r = x := hP.1.2.trans hB.2.1.symm
      exact ⟨hq.1, hq.2.1, hq.2.2.trans hk.symm, fun _ => by rw [hv, hrx], by rw [hk]; decide⟩
    · exfalso; clear hG; omega
  · rcases hB with hB | hB
    · exfalso; clear hG; omega
    · have hq := ag_ask hG (by rw [hP.2]; exact SP.rf Z) hB.2.2
      exact ⟨hq.1, hq.2.1, hq.2.2.trans hk.symm, fun h0 => absurd (hk.symm.trans h0) (by decide), by rw [hk]; decide⟩
def MP_add (S Z Z' : ZT) (v : Int) (r : Int) : Prop := ((-10000 ≤ v ∧ v ≤ 10000) ∧ ((0 < S 0 0 5 ∧ ∀ d, 0 ≤ d → d < S 0 0 5 → S 4 d (S 2 d 5) = S 2 d 3) ∧ S 6 0 3 < 80) ∧ r = S 6 0 3 ∧ (∀ k' i', ¬ (k' = 38 ∧ i' = 0) → Z' k' i' = zS (zS (zS Z 24 0 0 0) 34 0 (S 6 0 3) v) 24 0 8 (S 6 0 3 + 1) k' i') ∧ ∀ j, Z' 38 0 j = if 0 ≤ j ∧ j < (6 : Nat) then 1 else Z 38 0 j) ∨ (¬ (-10000 ≤ v ∧ v ≤ 10000) ∧ r = 0 ∧ MTH 1 Z Z') ∨ ((-10000 ≤ v ∧ v ≤ 10000) ∧ ¬ ((0 < S 0 0 5 ∧ ∀ d, 0 ≤ d → d < S 0 0 5 → S 4 d (S 2 d 5) = S 2 d 3) ∧ S 6 0 3 < 80) ∧ r = 0 ∧ MTH 2 Z Z')
theorem hi_add {Z Z1 : ZT} {v : Int} {k : Int} {v9 : Int64} (hA : WP_add Z Z Z1 v k v9) : HI Z Z1 := by
  unfold WP_add at hA
  rcases hA with ⟨-, r, hP, -⟩ | ⟨-, hP⟩ | ⟨-, hP⟩
  · exact HI.fr hP.2.2.2.1 (by decide)
  · exact HI.sp (by rw [hP.2]; exact SP.rf Z)
  · exact HI.sp (by rw [hP.2]; exact SP.rf Z)
theorem mu_add {Z Z1 Z2 : ZT} {v : Int} {r x : Int} (hG : GOOD Z) (hP : (-10000 ≤ v ∧ v ≤ 10000) ∧ ((0 < Z 0 0 5 ∧ ∀ d, 0 ≤ d → d < Z 0 0 5 → Z 4 d (Z 2 d 5) = Z 2 d 3) ∧ Z 6 0 3 < 80) ∧ r = Z 6 0 3 ∧ M_add Z v Z1) (hB : (-10000 ≤ v ∧ v ≤ 10000) ∧ ((0 < Z 0 0 5 ∧ ∀ d, 0 ≤ d → d < Z 0 0 5 → Z 4 d (Z 2 d 5) = Z 2 d 3) ∧ Z 6 0 3 < 80) ∧ x = Z 6 0 3 ∧ (∀ k' i', ¬ (k' = 38 ∧ i' = 0) → Z2 k' i' = zS (zS (zS Z1 24 0 0 0) 34 0 (Z 6 0 3) v) 24 0 8 (Z 6 0 3 + 1) k' i') ∧ ∀ j, Z2 38 0 j = if 0 ≤ j ∧ j < (6 : Nat) then 1 else Z1 38 0 j) : GOOD Z2 ∧ KEEPL Z1 Z2 ∧ Z2 24 0 0 = 0 := by
  obtain ⟨⟨v0, v1⟩, ⟨⟨c0, c1⟩, c2⟩, -, hM⟩ := hP
  obtain ⟨-, -, -, hu, h38⟩ := hB
  have h1 := hG.2.hi (HI.fr hM.1 (by decide))
  have hl : LO Z1 Z2 := fun k hk => by
    funext i
    rw [hu k i (by omega), zS_k (by omega), zS_k (by omega), zS_k (by omega)]
  refine ⟨GOOD.of (hG.1.add hM v0 v1 c1 c2) (RMZ.add h1 hG.1.1 hM hu h38) hl, KEEPL.lo hl, ?_⟩
  rw [hu 24 0 (by decide), zS_v, if_neg (by decide), zS_k (by decide), zS_s]
theorem ag_add {Z Z1 Z2 : ZT} {v : Int} {k x : Int} {v9 : Int64} (hG : GOOD Z) (hA : WP_add Z Z Z1 v k v9) (hB : MP_add Z Z1 Z2 v x) : GOOD Z2 ∧ KEEPL Z1 Z2 ∧ Z2 24 0 0 = k ∧ (k = 0 → v9 = (iI x).toInt64) ∧ (0 ≤ k ∧ k ≤ 2) := by
  unfold WP_add at hA
  unfold MP_add at hB
  rcases hA with ⟨hk, r, hP, hv⟩ | ⟨hk, hP⟩ | ⟨hk, hP⟩
  · rcases hB with hB | hB | hB
    · have hq := mu_add hG hP hB
      have hrx : r = x := hP.2.2.1.trans hB.2.2.1.symm
      exact ⟨hq.1, hq.2.1, hq.2.2.trans hk.symm, fun _ => by rw [hv, hrx], by rw [hk]; decide⟩
    · exact absurd hP.1 hB.1
    · exact absurd hP.2.1 hB.2.1
  · rcases hB with hB | hB | hB
    · exact absurd hB.1 hP.1
    · have hz : Z1 = Z := hP.2
      subst hz
      have hq := ag_ask hG (SP.rf Z1) hB.2.2
      exact ⟨hq.1, hq.2.1, hq.2.2.trans hk.symm, fun h0 => absurd (hk.symm.trans h0) (by decide), by rw [hk]; decide⟩
    · exact absurd hB.1 hP.1
  · rcases hB with hB | hB | hB
    · exact absurd hB.2.1 hP.1.2
    · exact absurd hP.1.1 hB.1
    · have hz : Z1 = Z := hP.2
      subst hz
      have hq := ag_ask hG (SP.rf Z1) hB.2.2.2
      exact ⟨hq.1, hq.2.1, hq.2.2.trans hk.symm, fun h0 => absurd (hk.symm.trans h0) (by decide), by rw [hk]; decide⟩
def MP_drop (S Z Z' : ZT) (q : Int) (r : Int) : Prop := ((0 ≤ q ∧ q < S 6 0 3) ∧ r = S 9 0 q ∧ (∀ k, k ≠ 34 → k ≠ 38 → Z' k = zS (zS Z 24 0 0 0) 24 0 8 (S 6 0 3 - 1) k) ∧ (∀ k, Z' 34 0 k = gapF q (S 6 0 3 - 1) (Z 34 0) k) ∧ ∀ j, Z' 38 0 j = if 0 ≤ j ∧ j < (6 : Nat) then 1 else Z 38 0 j) ∨ (¬ (0 ≤ q ∧ q < S 6 0 3) ∧ r = 0 ∧ MTH 1 Z Z')
theorem hi_drop {Z Z1 : ZT} {q : Int} {k : Int} {v9 : Int64} (hA : WP_drop Z Z Z1 q k v9) : HI Z Z1 := by
  unfold WP_drop at hA
  rcases hA with ⟨-, r, hP, -⟩ | ⟨-, hP⟩
  · exact HI.fr hP.2.2.1 (by decide)
  · exact HI.sp (by rw [hP.2]; exact SP.rf Z)
theorem mu_drop {Z Z1 Z2 : ZT} {q : Int} {r x : Int} (hG : GOOD Z) (hP : (0 ≤ q ∧ q < Z 6 0 3) ∧ r = Z 9 0 q ∧ M_drop Z q Z1) (hB : (0 ≤ q ∧ q < Z 6 0 3) ∧ x = Z 9 0 q ∧ (∀ k, k ≠ 34 → k ≠ 38 → Z2 k = zS (zS Z1 24 0 0 0) 24 0 8 (Z 6 0 3 - 1) k) ∧ (∀ k, Z2 34 0 k = gapF q (Z 6 0 3 - 1) (Z1 34 0) k) ∧ ∀ j, Z2 38 0 j = if 0 ≤ j ∧ j < (6 : Nat) then 1 else Z1 38 0 j) : GOOD Z2 ∧ KEEPL Z1 Z2 ∧ Z2 24 0 0 = 0 := by
  obtain ⟨⟨q0, q1⟩, -, hM⟩ := hP
  obtain ⟨-, -, hu, h34, h38⟩ := hB
  have h1 := hG.2.hi (HI.fr hM.1 (by decide))
  have hl : LO Z1 Z2 := fun k hk => by rw [hu k (by omega) (by omega), zS_k (by omega), zS_k (by omega)]
  refine ⟨GOOD.of (hG.1.drop hM q0 q1) (RMZ.drop h1 hG.1.1 hM q0 hu h34 h38) hl, KEEPL.lo hl, ?_⟩
  rw [hu 24 (by decide) (by decide), zS_v, if_neg (by decide), zS_s]
theorem ag_drop {Z Z1 Z2 : ZT} {q : Int} {k x : Int} {v9 : Int64} (hG : GOOD Z) (hA : WP_drop Z Z Z1 q k v9) (hB : MP_drop Z Z1 Z2 q x) : GOOD Z2 ∧ KEEPL Z1 Z2 ∧ Z2 24 0 0 = k ∧ (k = 0 → v9 = (iI x).toInt64) ∧ (0 ≤ k ∧ k ≤ 2) := by
  unfold WP_drop at hA
  unfold MP_drop at hB
  rcases hA with ⟨hk, r, hP, hv⟩ | ⟨hk, hP⟩
  · rcases hB with hB | hB
    · have hq := mu_drop hG hP hB
      have hrx : r = x := hP.2.1.trans hB.2.1.symm
      exact ⟨hq.1, hq.2.1, hq.2.2.trans hk.symm, fun _ => by rw [hv, hrx], by rw [hk]; decide⟩
    · exfalso; clear hG; omega
  · rcases hB with hB | hB
    · exfalso; clear hG; omega
    · have hz : Z1 = Z := hP.2
      subst hz
      have hq := ag_ask hG (SP.rf Z1) hB.2.2
      exact ⟨hq.1, hq.2.1, hq.2.2.trans hk.symm, fun h0 => absurd (hk.symm.trans h0) (by decide), by rw [hk]; decide⟩
def MP_children (S Z Z' : ZT) (d : Int) (r : Int) : Prop := ((0 ≤ d ∧ d < S 0 0 5) ∧ r = (kids S d).length ∧ MTH 0 Z Z') ∨ (¬ (0 ≤ d ∧ d < S 0 0 5) ∧ r = 0 ∧ MTH 1 Z Z')
theorem hi_children {Z Z1 : ZT} {d : Int} {k : Int} {v9 : Int64} (hA : WP_children Z Z Z1 d k v9) : HI Z Z1 := by
  unfold WP_children at hA
  rcases hA with ⟨-, r, hP, -⟩ | ⟨-, hP⟩
  · exact HI.sp hP.2.2
  · exact HI.sp (by rw [hP.2]; exact SP.rf Z)
theorem ag_children {Z Z1 Z2 : ZT} {d : Int} {k x : Int} {v9 : Int64} (hG : GOOD Z) (hA : WP_children Z Z Z1 d k v9) (hB : MP_children Z Z1 Z2 d x) : GOOD Z2 ∧ KEEPL Z Z2 ∧ Z2 24 0 0 = k ∧ (k = 0 → v9 = (iI x).toInt64) ∧ (0 ≤ k ∧ k ≤ 2) := by
  unfold WP_children at hA
  unfold MP_children at hB
  rcases hA with ⟨hk, r, hP, hv⟩ | ⟨hk, hP⟩
  · rcases hB with hB | hB
    · have hq := ag_ask hG hP.2.2 hB.2.2
      have hrx : r = x := hP.2.1.trans hB.2.1.symm
      exact ⟨hq.1, hq.2.1, hq.2.2.trans hk.symm, fun _ => by rw [hv, hrx], by rw [hk]; decide⟩
    · exfalso; clear hG; omega
  · rcases hB with hB | hB
    · exfalso; clear hG; omega
    · have hq := ag_ask hG (by rw [hP.2]; exact SP.rf Z) hB.2.2
      exact ⟨hq.1, hq.2.1, hq.2.2.trans hk.symm, fun h0 => absurd (hk.symm.trans h0) (by decide), by rw [hk]; decide⟩
def MP_sumOf (S Z Z' : ZT) (d q : Int) (r : Int) : Prop := ((0 ≤ d ∧ d < S 0 0 5 ∧ 0 ≤ q ∧ q < (kids S d).length) ∧ r = lsum S d q ∧ MTH 0 Z Z') ∨ (¬ (0 ≤ d ∧ d < S 0 0 5 ∧ 0 ≤ q ∧ q < (kids S d).length) ∧ r = 0 ∧ MTH 1 Z Z')
theorem hi_sumOf {Z Z1 : ZT} {d q : Int} {k : Int} {v9 : Int64} (hA : WP_sumOf Z Z Z1 d q k v9) : HI Z Z1 := by
  unfold WP_sumOf at hA
  rcases hA with ⟨-, r, hP, -⟩ | ⟨-, hP⟩
  · exact HI.sp hP.2.2.2
  · exact HI.sp hP.2
theorem ag_sumOf {Z Z1 Z2 : ZT} {d q : Int} {k x : Int} {v9 : Int64} (hG : GOOD Z) (hA : WP_sumOf Z Z Z1 d q k v9) (hB : MP_sumOf Z Z1 Z2 d q x) : GOOD Z2 ∧ KEEPL Z Z2 ∧ Z2 24 0 0 = k ∧ (k = 0 → v9 = (iI x).toInt64) ∧ (0 ≤ k ∧ k ≤ 2) := by
  unfold WP_sumOf at hA
  unfold MP_sumOf at hB
  rcases hA with ⟨hk, r, hP, hv⟩ | ⟨hk, hP⟩
  · rcases hB with hB | hB
    · have hq := ag_ask hG hP.2.2.2 hB.2.2
      have hrx : r = x := hP.2.2.1.trans hB.2.1.symm
      exact ⟨hq.1, hq.2.1, hq.2.2.trans hk.symm, fun _ => by rw [hv, hrx], by rw [hk]; decide⟩
    · exfalso; clear hG; omega
  · rcases hB with hB | hB
    · exfalso; clear hG; omega
    · have hq := ag_ask hG hP.2 hB.2.2
      exact ⟨hq.1, hq.2.1, hq.2.2.trans hk.symm, fun h0 => absurd (hk.symm.trans h0) (by decide), by rw [hk]; decide⟩
def MP_ranked (S Z Z' : ZT) (d q : Int) (r : Int) : Prop := ((0 ≤ d ∧ d < S 0 0 5 ∧ 0 ≤ q ∧ q < (kids S d).length) ∧ r = rkF (lsum S d) (kids S d).length q ∧ MTH 0 Z Z') ∨ (¬ (0 ≤ d ∧ d < S 0 0 5 ∧ 0 ≤ q ∧ q < (kids S d).length) ∧ r = 0 ∧ MTH 1 Z Z')
theorem hi_ranked {Z Z1 : ZT} {d q : Int} {k : Int} {v9 : Int64} (hA : WP_ranked Z Z Z1 d q k v9) : HI Z Z1 := by
  unfold WP_ranked at hA
  rcases hA with ⟨-, r, hP, -⟩ | ⟨-, hP⟩
  · exact HI.sp hP.2.2.2
  · exact HI.sp hP.2
theorem ag_ranked {Z Z1 Z2 : ZT} {d q : Int} {k x : Int} {v9 : Int64} (hG : GOOD Z) (hA : WP_ranked Z Z Z1 d q k v9) (hB : MP_ranked Z Z1 Z2 d q x) : GOOD Z2 ∧ KEEPL Z Z2 ∧ Z2 24 0 0 = k ∧ (k = 0 → v9 = (iI x).toInt64) ∧ (0 ≤ k ∧ k ≤ 2) := by
  unfold WP_ranked at hA
  unfold MP_ranked at hB
  rcases hA with ⟨hk, r, hP, hv⟩ | ⟨hk, hP⟩
  · rcases hB with hB | hB
    · have hq := ag_ask hG hP.2.2.2 hB.2.2
      have hrx : r = x := hP.2.2.1.trans hB.2.1.symm
      exact ⟨hq.1, hq.2.1, hq.2.2.trans hk.symm, fun _ => by rw [hv, hrx], by rw [hk]; decide⟩
    · exfalso; clear hG; omega
  · rcases hB with hB | hB
    · exfalso; clear hG; omega
    · have hq := ag_ask hG hP.2 hB.2.2
      exact ⟨hq.1, hq.2.1, hq.2.2.trans hk.symm, fun h0 => absurd (hk.symm.trans h0) (by decide), by rw [hk]; decide⟩
def MP_running (S Z Z' : ZT) (d q : Int) (r : Int) : Prop := ((0 ≤ d ∧ d < S 0 0 5 ∧ 0 ≤ q ∧ q < (kids S d).length) ∧ r = sumTo (lsum S d) (q + 1).toNat ∧ MTH 0 Z Z') ∨ (¬ (0 ≤ d ∧ d < S 0 0 5 ∧ 0 ≤ q ∧ q < (kids S d).length) ∧ r = 0 ∧ MTH 1 Z Z')
theorem hi_running {Z Z1 : ZT} {d q : Int} {k : Int} {v9 : Int64} (hA : WP_running Z Z Z1 d q k v9) : HI Z Z1 := by
  unfold WP_running at hA
  rcases hA with ⟨-, r, hP, -⟩ | ⟨-, hP⟩
  · exact HI.sp hP.2.2.2
  · exact HI.sp hP.2
theorem ag_running {Z Z1 Z2 : ZT} {d q : Int} {k x : Int} {v9 : Int64} (hG : GOOD Z) (hA : WP_running Z Z Z1 d q k v9) (hB : MP_running Z Z1 Z2 d q x) : GOOD Z2 ∧ KEEPL Z Z2 ∧ Z2 24 0 0 = k ∧ (k = 0 → v9 = (iI x).toInt64) ∧ (0 ≤ k ∧ k ≤ 2) := by
  unfold WP_running at hA
  unfold MP_running at hB
  rcases hA with ⟨hk, r, hP, hv⟩ | ⟨hk, hP⟩
  · rcases hB with hB | hB
    · have hq := ag_ask hG hP.2.2.2 hB.2.2
      have hrx : r = x := hP.2.2.1.trans hB.2.1.symm
      exact ⟨hq.1, hq.2.1, hq.2.2.trans hk.symm, fun _ => by rw [hv, hrx], by rw [hk]; decide⟩
    · exfalso; clear hG; omega
  · rcases hB with hB | hB
    · exfalso; clear hG; omega
    · have hq := ag_ask hG hP.2 hB.2.2
      exact ⟨hq.1, hq.2.1, hq.2.2.trans hk.symm, fun h0 => absurd (hk.symm.trans h0) (by decide), by rw [hk]; decide⟩
def MP_share (S Z Z' : ZT) (d q : Int) (r : Int) : Prop := ((0 ≤ d ∧ d < S 0 0 5 ∧ 0 ≤ q ∧ q < (kids S d).length) ∧ r = (if SUM S = 0 then 0 else (1000 * lsum S d q).tdiv (SUM S)) ∧ MTH 0 Z Z') ∨ (¬ (0 ≤ d ∧ d < S 0 0 5 ∧ 0 ≤ q ∧ q < (kids S d).length) ∧ r = 0 ∧ MTH 1 Z Z')
theorem hi_share {Z Z1 : ZT} {d q : Int} {k : Int} {v9 : Int64} (hA : WP_share Z Z Z1 d q k v9) : HI Z Z1 := by
  unfold WP_share at hA
  rcases hA with ⟨-, r, hP, -⟩ | ⟨-, hP⟩
  · exact HI.sp hP.2.2.2
  · exact HI.sp hP.2
theorem ag_share {Z Z1 Z2 : ZT} {d q : Int} {k x : Int} {v9 : Int64} (hG : GOOD Z) (hA : WP_share Z Z Z1 d q k v9) (hB : MP_share Z Z1 Z2 d q x) : GOOD Z2 ∧ KEEPL Z Z2 ∧ Z2 24 0 0 = k ∧ (k = 0 → v9 = (iI x).toInt64) ∧ (0 ≤ k ∧ k ≤ 2) := by
  unfold WP_share at hA
  unfold MP_share at hB
  rcases hA with ⟨hk, r, hP, hv⟩ | ⟨hk, hP⟩
  · rcases hB with hB | hB
    · have hq := ag_ask hG hP.2.2.2 hB.2.2
      have hrx : r = x := hP.2.2.1.trans hB.2.1.symm
      exact ⟨hq.1, hq.2.1, hq.2.2.trans hk.symm, fun _ => by rw [hv, hrx], by rw [hk]; decide⟩
    · exfalso; clear hG; omega
  · rcases hB with hB | hB
    · exfalso; clear hG; omega
    · have hq := ag_ask hG hP.2 hB.2.2
      exact ⟨hq.1, hq.2.1, hq.2.2.trans hk.symm, fun h0 => absurd (hk.symm.trans h0) (by decide), by rw [hk]; decide⟩
def MP_fewest (S Z Z' : ZT) (d q : Int) (r : Int) : Prop := ((0 ≤ d ∧ d < S 0 0 5) ∧ (1 ≤ q ∧ q ≤ 1000) ∧ fwP (lsum S d) (kids S d).length (q * SUM S) r ∧ MTH 0 Z Z') ∨ (¬ (0 ≤ d ∧ d < S 0 0 5) ∧ r = 0 ∧ MTH 1 Z Z') ∨ ((0 ≤ d ∧ d < S 0 0 5) ∧ ¬ (1 ≤ q ∧ q ≤ 1000) ∧ r = 0 ∧ MTH 2 Z Z')
theorem hi_fewest {Z Z1 : ZT} {d q : Int} {k : Int} {v9 : Int64} (hA : WP_fewest Z Z Z1 d q k v9) : HI Z Z1 := by
  unfold WP_fewest at hA
  rcases hA with ⟨-, r, hP, -⟩ | ⟨-, hP⟩ | ⟨-, hP⟩
  · exact HI.sp hP.2.2.2
  · exact HI.sp (by rw [hP.2]; exact SP.rf Z)
  · exact HI.sp (by rw [hP.2]; exact SP.rf Z)
theorem ag_fewest {Z Z1 Z2 : ZT} {d q : Int} {k x : Int} {v9 : Int64} (hG : GOOD Z) (hA : WP_fewest Z Z Z1 d q k v9) (hB : MP_fewest Z Z1 Z2 d q x) : GOOD Z2 ∧ KEEPL Z Z2 ∧ Z2 24 0 0 = k ∧ (k = 0 → v9 = (iI x).toInt64) ∧ (0 ≤ k ∧ k ≤ 2) := by
  unfold WP_fewest at hA
  unfold MP_fewest at hB
  rcases hA with ⟨hk, r, hP, hv⟩ | ⟨hk, hP⟩ | ⟨hk, hP⟩
  · rcases hB with hB | hB | hB
    · have hq := ag_ask hG hP.2.2.2 hB.2.2.2
      have hrx : r = x := fwP_u hP.2.2.1 hB.2.2.1
      exact ⟨hq.1, hq.2.1, hq.2.2.trans hk.symm, fun _ => by rw [hv, hrx], by rw [hk]; decide⟩
    · exfalso; clear hG; omega
    · exfalso; clear hG; omega
  · rcases hB with hB | hB | hB
    · exfalso; clear hG; omega
    · have hq := ag_ask hG (by rw [hP.2]; exact SP.rf Z) hB.2.2
      exact ⟨hq.1, hq.2.1, hq.2.2.trans hk.symm, fun h0 => absurd (hk.symm.trans h0) (by decide), by rw [hk]; decide⟩
    · exfalso; clear hG; omega
  · rcases hB with hB | hB | hB
    · exfalso; clear hG; omega
    · exfalso; clear hG; omega
    · have hq := ag_ask hG (by rw [hP.2]; exact SP.rf Z) hB.2.2.2
      exact ⟨hq.1, hq.2.1, hq.2.2.trans hk.symm, fun h0 => absurd (hk.symm.trans h0) (by decide), by rw [hk]; decide⟩
def MP_drill (S Z Z' : ZT) (d : Int) (r : Int) : Prop := ((0 ≤ d ∧ d < S 0 0 5) ∧ r = drF d 3 S 2 d 5 ∧ Z' = zS (zS Z 24 0 0 0) 31 0 d (drF d 3 S 2 d 5)) ∨ (¬ (0 ≤ d ∧ d < S 0 0 5) ∧ r = 0 ∧ MTH 1 Z Z')
theorem hi_drill {Z Z1 : ZT} {d : Int} {k : Int} {v9 : Int64} (hA : WP_drill Z Z Z1 d k v9) : HI Z Z1 := by
  unfold WP_drill at hA
  rcases hA with ⟨-, r, hP, -⟩ | ⟨-, hP⟩
  · exact (HI.fr (drF_goTo d 3 Z).1 (by decide)).tr (HI.sp hP.2.2)
  · exact HI.sp (by rw [hP.2]; exact SP.rf Z)
theorem mu_drill {Z Z1 Z2 : ZT} {d : Int} {r x : Int} (hG : GOOD Z) (hP : (0 ≤ d ∧ d < Z 0 0 5) ∧ r = drF d 3 Z 2 d 5 ∧ SP (drF d 3 Z) Z1) (hB : (0 ≤ d ∧ d < Z 0 0 5) ∧ x = drF d 3 Z 2 d 5 ∧ Z2 = zS (zS Z1 24 0 0 0) 31 0 d (drF d 3 Z 2 d 5)) : GOOD Z2 ∧ KEEPL Z Z2 ∧ Z2 24 0 0 = 0 := by
  obtain ⟨⟨d0, d1⟩, -, hS⟩ := hP
  obtain ⟨-, -, hz⟩ := hB
  have hl : LO Z1 Z2 := fun k hk => by rw [hz, zS_k (by omega), zS_k (by omega)]
  subst hz
  have hn := hG.1.1.n
  have hM := drF_goTo d 3 Z
  have h1 := hG.2.hi ((HI.fr hM.1 (by decide)).tr (HI.sp hS))
  have hk := drF_k d 3 Z
  refine ⟨GOOD.of ((WG_drF d 3 Z hG.1 d0 d1).sp hS) ((RMZ.goTo h1 hM d0 (by omega)).sp hS) hl, ((KEEPL.of (by rw [hk.1 0 (by decide)]) (by rw [hk.1 6 (by decide)]) (hk.1 8 (by decide))).tr (KEEPL.sp hS)).tr (KEEPL.lo hl), ?_⟩
  rw [zS_k (by decide), zS_s]
theorem ag_drill {Z Z1 Z2 : ZT} {d : Int} {k x : Int} {v9 : Int64} (hG : GOOD Z) (hA : WP_drill Z Z Z1 d k v9) (hB : MP_drill Z Z1 Z2 d x) : GOOD Z2 ∧ KEEPL Z Z2 ∧ Z2 24 0 0 = k ∧ (k = 0 → v9 = (iI x).toInt64) ∧ (0 ≤ k ∧ k ≤ 2) := by
  unfold WP_drill at hA
  unfold MP_drill at hB
  rcases hA with ⟨hk, r, hP, hv⟩ | ⟨hk, hP⟩
  · rcases hB with hB | hB
    · have hq := mu_drill hG hP hB
      have hrx : r = x := hP.2.1.trans hB.2.1.symm
      exact ⟨hq.1, hq.2.1, hq.2.2.trans hk.symm, fun _ => by rw [hv, hrx], by rw [hk]; decide⟩
    · exfalso; clear hG; omega
  · rcases hB with hB | hB
    · exfalso; clear hG; omega
    · have hq := ag_ask hG (by rw [hP.2]; exact SP.rf Z) hB.2.2
      exact ⟨hq.1, hq.2.1, hq.2.2.trans hk.symm, fun h0 => absurd (hk.symm.trans h0) (by decide), by rw [hk]; decide⟩
def MP_setAxes (S Z Z' : ZT) (q ql w wl : Int) (r : Int) : Prop := ((0 ≤ q ∧ q < S 0 0 5 ∧ 0 ≤ ql ∧ ql ≤ S 2 q 3) ∧ (0 ≤ w ∧ w < S 0 0 5 ∧ 0 ≤ wl ∧ wl ≤ S 2 w 3) ∧ q ≠ w ∧ r = (LN (axSt S q ql w wl) 0).length ∧ Z' 24 0 0 = 0 ∧ RMZ (axSt S q ql w wl) Z' ∧ ∀ k : Nat, k < 24 → Z' k = Z k) ∨ (¬ ((0 ≤ q ∧ q < S 0 0 5 ∧ 0 ≤ ql ∧ ql ≤ S 2 q 3) ∧ (0 ≤ w ∧ w < S 0 0 5 ∧ 0 ≤ wl ∧ wl ≤ S 2 w 3)) ∧ r = 0 ∧ MTH 1 Z Z') ∨ ((0 ≤ q ∧ q < S 0 0 5 ∧ 0 ≤ ql ∧ ql ≤ S 2 q 3) ∧ (0 ≤ w ∧ w < S 0 0 5 ∧ 0 ≤ wl ∧ wl ≤ S 2 w 3) ∧ q = w ∧ r = 0 ∧ MTH 2 Z Z')
theorem hi_setAxes {Z Z1 : ZT} {q ql w wl : Int} {k : Int} {v9 : Int64} (hA : WP_setAxes Z Z Z1 q ql w wl k v9) : HI Z Z1 := by
  unfold WP_setAxes at hA
  rcases hA with ⟨-, r, hP, -⟩ | ⟨-, hP⟩ | ⟨-, hP⟩
  · exact HI.tr (fun k hk => axSt_k _ _ _ _ _ (by omega) (by omega)) (HI.sp hP.2.2.2.2)
  · exact HI.sp (by rw [hP.2]; exact SP.rf Z)
  · exact HI.sp (by rw [hP.2]; exact SP.rf Z)
theorem mu_setAxes {Z Z1 Z2 : ZT} {q ql w wl : Int} {r x : Int} (hG : GOOD Z) (hP : (0 ≤ q ∧ q < Z 0 0 5 ∧ 0 ≤ ql ∧ ql ≤ Z 2 q 3) ∧ (0 ≤ w ∧ w < Z 0 0 5 ∧ 0 ≤ wl ∧ wl ≤ Z 2 w 3) ∧ q ≠ w ∧ r = (LN (axSt Z q ql w wl) 0).length ∧ SP (axSt Z q ql w wl) Z1) (hB : (0 ≤ q ∧ q < Z 0 0 5 ∧ 0 ≤ ql ∧ ql ≤ Z 2 q 3) ∧ (0 ≤ w ∧ w < Z 0 0 5 ∧ 0 ≤ wl ∧ wl ≤ Z 2 w 3) ∧ q ≠ w ∧ x = (LN (axSt Z q ql w wl) 0).length ∧ Z2 24 0 0 = 0 ∧ RMZ (axSt Z q ql w wl) Z2 ∧ ∀ k : Nat, k < 24 → Z2 k = Z1 k) : GOOD Z2 ∧ KEEPL Z Z2 ∧ Z2 24 0 0 = 0 := by
  obtain ⟨⟨a0, a1, a2, a3⟩, ⟨b0, b1, b2, b3⟩, hne, -, hS⟩ := hP
  obtain ⟨-, -, -, -, ht, hR, hl⟩ := hB
  have hW1 : WG (axSt Z q ql w wl) := ⟨hG.1.1.of_AX a0 a1 a2 a3 b0 b1 b2 b3 hne, by rw [axSt_k _ _ _ _ _ (by decide) (by decide)]; exact hG.1.2⟩
  exact ⟨GOOD.of (hW1.sp hS) (hR.sp hS) hl, (KEEPL.tr (Y := axSt Z q ql w wl) (fun cys ad L g q9 => RML.axes q9) (KEEPL.sp hS)).tr (KEEPL.lo hl), ht⟩
theorem ag_setAxes {Z Z1 Z2 : ZT} {q ql w wl : Int} {k x : Int} {v9 : Int64} (hG : GOOD Z) (hA : WP_setAxes Z Z Z1 q ql w wl k v9) (hB : MP_setAxes Z Z1 Z2 q ql w wl x) : GOOD Z2 ∧ KEEPL Z Z2 ∧ Z2 24 0 0 = k ∧ (k = 0 → v9 = (iI x).toInt64) ∧ (0 ≤ k ∧ k ≤ 2) := by
  unfold WP_setAxes at hA
  unfold MP_setAxes at hB
  rcases hA with ⟨hk, r, hP, hv⟩ | ⟨hk, hP⟩ | ⟨hk, hP⟩
  · rcases hB with hB | hB | hB
    · have hq := mu_setAxes hG hP hB
      have hrx : r = x := hP.2.2.2.1.trans hB.2.2.2.1.symm
      exact ⟨hq.1, hq.2.1, hq.2.2.trans hk.symm, fun _ => by rw [hv, hrx], by rw [hk]; decide⟩
    · exfalso; clear hG; omega
    · exfalso; clear hG; omega
  · rcases hB with hB | hB | hB
    · exfalso; clear hG; omega
    · have hq := ag_ask hG (by rw [hP.2]; exact SP.rf Z) hB.2.2
      exact ⟨hq.1, hq.2.1, hq.2.2.trans hk.symm, fun h0 => absurd (hk.symm.trans h0) (by decide), by rw [hk]; decide⟩
    · exfalso; clear hG; omega
  · rcases hB with hB | hB | hB
    · exfalso; clear hG; omega
    · exfalso; clear hG; omega
    · have hq := ag_ask hG (by rw [hP.2]; exact SP.rf Z) hB.2.2.2.2
      exact ⟨hq.1, hq.2.1, hq.2.2.trans hk.symm, fun h0 => absurd (hk.symm.trans h0) (by decide), by rw [hk]; decide⟩
def MP_rows (S Z Z' : ZT) (r : Int) : Prop := (S 0 0 7 = 1 ∧ r = (LN S 0).length ∧ MTH 0 Z Z') ∨ (S 0 0 7 ≠ 1 ∧ r = 0 ∧ MTH 1 Z Z')
theorem hi_rows {Z Z1 : ZT} {k : Int} {v9 : Int64} (hA : WP_rows Z Z Z1 k v9) : HI Z Z1 := by
  unfold WP_rows at hA
  rcases hA with ⟨-, r, hP, -⟩ | ⟨-, hP⟩
  · exact HI.sp hP.2.2
  · exact HI.sp (by rw [hP.2]; exact SP.rf Z)
theorem ag_rows {Z Z1 Z2 : ZT} {k x : Int} {v9 : Int64} (hG : GOOD Z) (hA : WP_rows Z Z Z1 k v9) (hB : MP_rows Z Z1 Z2 x) : GOOD Z2 ∧ KEEPL Z Z2 ∧ Z2 24 0 0 = k ∧ (k = 0 → v9 = (iI x).toInt64) ∧ (0 ≤ k ∧ k ≤ 2) := by
  unfold WP_rows at hA
  unfold MP_rows at hB
  rcases hA with ⟨hk, r, hP, hv⟩ | ⟨hk, hP⟩
  · rcases hB with hB | hB
    · have hq := ag_ask hG hP.2.2 hB.2.2
      have hrx : r = x := hP.2.1.trans hB.2.1.symm
      exact ⟨hq.1, hq.2.1, hq.2.2.trans hk.symm, fun _ => by rw [hv, hrx], by rw [hk]; decide⟩
    · exfalso; clear hG; omega
  · rcases hB with hB | hB
    · exfalso; clear hG; omega
    · have hq := ag_ask hG (by rw [hP.2]; exact SP.rf Z) hB.2.2
      exact ⟨hq.1, hq.2.1, hq.2.2.trans hk.symm, fun h0 => absurd (hk.symm.trans h0) (by decide), by rw [hk]; decide⟩
def MP_columns (S Z Z' : ZT) (r : Int) : Prop := (S 0 0 7 = 1 ∧ r = (LN S 1).length ∧ MTH 0 Z Z') ∨ (S 0 0 7 ≠ 1 ∧ r = 0 ∧ MTH 1 Z Z')
theorem hi_columns {Z Z1 : ZT} {k : Int} {v9 : Int64} (hA : WP_columns Z Z Z1 k v9) : HI Z Z1 := by
  unfold WP_columns at hA
  rcases hA with ⟨-, r, hP, -⟩ | ⟨-, hP⟩
  · exact HI.sp hP.2.2
  · exact HI.sp (by rw [hP.2]; exact SP.rf Z)
theorem ag_columns {Z Z1 Z2 : ZT} {k x : Int} {v9 : Int64} (hG : GOOD Z) (hA : WP_columns Z Z Z1 k v9) (hB : MP_columns Z Z1 Z2 x) : GOOD Z2 ∧ KEEPL Z Z2 ∧ Z2 24 0 0 = k ∧ (k = 0 → v9 = (iI x).toInt64) ∧ (0 ≤ k ∧ k ≤ 2) := by
  unfold WP_columns at hA
  unfold MP_columns at hB
  rcases hA with ⟨hk, r, hP, hv⟩ | ⟨hk, hP⟩
  · rcases hB with hB | hB
    · have hq := ag_ask hG hP.2.2 hB.2.2
      have hrx : r = x := hP.2.1.trans hB.2.1.symm
      exact ⟨hq.1, hq.2.1, hq.2.2.trans hk.symm, fun _ => by rw [hv, hrx], by rw [hk]; decide⟩
    · exfalso; clear hG; omega
  · rcases hB with hB | hB
    · exfalso; clear hG; omega
    · have hq := ag_ask hG (by rw [hP.2]; exact SP.rf Z) hB.2.2
      exact ⟨hq.1, hq.2.1, hq.2.2.trans hk.symm, fun h0 => absurd (hk.symm.trans h0) (by decide), by rw [hk]; decide⟩
def MP_rowMember (S Z Z' : ZT) (w : Int) (r : Int) : Prop := (S 0 0 7 = 1 ∧ (0 ≤ w ∧ w < (LN S 0).length) ∧ r = (LN S 0).getD w.toNat 0 ∧ MTH 0 Z Z') ∨ (S 0 0 7 ≠ 1 ∧ r = 0 ∧ MTH 1 Z Z') ∨ (S 0 0 7 = 1 ∧ ¬ (0 ≤ w ∧ w < (LN S 0).length) ∧ r = 0 ∧ MTH 2 Z Z')
theorem hi_rowMember {Z Z1 : ZT} {q : Int} {k : Int} {v9 : Int64} (hA : WP_rowMember Z Z Z1 q k v9) : HI Z Z1 := by
  unfold WP_rowMember at hA
  rcases hA with ⟨-, r, hP, -⟩ | ⟨-, hP⟩ | ⟨-, hP⟩
  · exact HI.sp hP.2.2.2
  · exact HI.sp hP.2
  · exact HI.sp hP.2
theorem ag_rowMember {Z Z1 Z2 : ZT} {q : Int} {k x : Int} {v9 : Int64} (hG : GOOD Z) (hA : WP_rowMember Z Z Z1 q k v9) (hB : MP_rowMember Z Z1 Z2 q x) : GOOD Z2 ∧ KEEPL Z Z2 ∧ Z2 24 0 0 = k ∧ (k = 0 → v9 = (iI x).toInt64) ∧ (0 ≤ k ∧ k ≤ 2) := by
  unfold WP_rowMember at hA
  unfold MP_rowMember at hB
  rcases hA with ⟨hk, r, hP, hv⟩ | ⟨hk, hP⟩ | ⟨hk, hP⟩
  · rcases hB with hB | hB | hB
    · have hq := ag_ask hG hP.2.2.2 hB.2.2.2
      have hrx : r = x := hP.2.2.1.trans hB.2.2.1.symm
      exact ⟨hq.1, hq.2.1, hq.2.2.trans hk.symm, fun _ => by rw [hv, hrx], by rw [hk]; decide⟩
    · exfalso; clear hG; omega
    · exfalso; clear hG; omega
  · rcases hB with hB | hB | hB
    · exfalso; clear hG; omega
    · have hq := ag_ask hG hP.2 hB.2.2
      exact ⟨hq.1, hq.2.1, hq.2.2.trans hk.symm, fun h0 => absurd (hk.symm.trans h0) (by decide), by rw [hk]; decide⟩
    · exfalso; clear hG; omega
  · rcases hB with hB | hB | hB
    · exfalso; clear hG; omega
    · exfalso; clear hG; omega
    · have hq := ag_ask hG hP.2 hB.2.2.2
      exact ⟨hq.1, hq.2.1, hq.2.2.trans hk.symm, fun h0 => absurd (hk.symm.trans h0) (by decide), by rw [hk]; decide⟩
def MP_columnMember (S Z Z' : ZT) (w : Int) (r : Int) : Prop := (S 0 0 7 = 1 ∧ (0 ≤ w ∧ w < (LN S 1).length) ∧ r = (LN S 1).getD w.toNat 0 ∧ MTH 0 Z Z') ∨ (S 0 0 7 ≠ 1 ∧ r = 0 ∧ MTH 1 Z Z') ∨ (S 0 0 7 = 1 ∧ ¬ (0 ≤ w ∧ w < (LN S 1).length) ∧ r = 0 ∧ MTH 2 Z Z')
theorem hi_columnMember {Z Z1 : ZT} {q : Int} {k : Int} {v9 : Int64} (hA : WP_columnMember Z Z Z1 q k v9) : HI Z Z1 := by
  unfold WP_columnMember at hA
  rcases hA with ⟨-, r, hP, -⟩ | ⟨-, hP⟩ | ⟨-, hP⟩
  · exact HI.sp hP.2.2.2
  · exact HI.sp hP.2
  · exact HI.sp hP.2
theorem ag_columnMember {Z Z1 Z2 : ZT} {q : Int} {k x : Int} {v9 : Int64} (hG : GOOD Z) (hA : WP_columnMember Z Z Z1 q k v9) (hB : MP_columnMember Z Z1 Z2 q x) : GOOD Z2 ∧ KEEPL Z Z2 ∧ Z2 24 0 0 = k ∧ (k = 0 → v9 = (iI x).toInt64) ∧ (0 ≤ k ∧ k ≤ 2) := by
  unfold WP_columnMember at hA
  unfold MP_columnMember at hB
  rcases hA with ⟨hk, r, hP, hv⟩ | ⟨hk, hP⟩ | ⟨hk, hP⟩
  · rcases hB with hB | hB | hB
    · have hq := ag_ask hG hP.2.2.2 hB.2.2.2
      have hrx : r = x := hP.2.2.1.trans hB.2.2.1.symm
      exact ⟨hq.1, hq.2.1, hq.2.2.trans hk.symm, fun _ => by rw [hv, hrx], by rw [hk]; decide⟩
    · exfalso; clear hG; omega
    · exfalso; clear hG; omega
  · rcases hB with hB | hB | hB
    · exfalso; clear hG; omega
    · have hq := ag_ask hG hP.2 hB.2.2
      exact ⟨hq.1, hq.2.1, hq.2.2.trans hk.symm, fun h0 => absurd (hk.symm.trans h0) (by decide), by rw [hk]; decide⟩
    · exfalso; clear hG; omega
  · rcases hB with hB | hB | hB
    · exfalso; clear hG; omega
    · exfalso; clear hG; omega
    · have hq := ag_ask hG hP.2 hB.2.2.2
      exact ⟨hq.1, hq.2.1, hq.2.2.trans hk.symm, fun h0 => absurd (hk.symm.trans h0) (by decide), by rw [hk]; decide⟩
def MP_cell (S Z Z' : ZT) (q w : Int) (r : Int) : Prop := (S 0 0 7 = 1 ∧ (0 ≤ q ∧ q < (LN S 0).length ∧ 0 ≤ w ∧ w < (LN S 1).length) ∧ r = tsum S ((LN S 0).getD q.toNat 0) ((LN S 1).getD w.toNat 0) ∧ MTH 0 Z Z') ∨ (S 0 0 7 ≠ 1 ∧ r = 0 ∧ MTH 1 Z Z') ∨ (S 0 0 7 = 1 ∧ ¬ (0 ≤ q ∧ q < (LN S 0).length ∧ 0 ≤ w ∧ w < (LN S 1).length) ∧ r = 0 ∧ MTH 2 Z Z')
theorem hi_cell {Z Z1 : ZT} {q w : Int} {k : Int} {v9 : Int64} (hA : WP_cell Z Z Z1 q w k v9) : HI Z Z1 := by
  unfold WP_cell at hA
  rcases hA with ⟨-, r, hP, -⟩ | ⟨-, hP⟩ | ⟨-, hP⟩
  · exact HI.sp hP.2.2.2
  · exact HI.sp hP.2
  · exact HI.sp hP.2
theorem ag_cell {Z Z1 Z2 : ZT} {q w : Int} {k x : Int} {v9 : Int64} (hG : GOOD Z) (hA : WP_cell Z Z Z1 q w k v9) (hB : MP_cell Z Z1 Z2 q w x) : GOOD Z2 ∧ KEEPL Z Z2 ∧ Z2 24 0 0 = k ∧ (k = 0 → v9 = (iI x).toInt64) ∧ (0 ≤ k ∧ k ≤ 2) := by
  unfold WP_cell at hA
  unfold MP_cell at hB
  rcases hA with ⟨hk, r, hP, hv⟩ | ⟨hk, hP⟩ | ⟨hk, hP⟩
  · rcases hB with hB | hB | hB
    · have hq := ag_ask hG hP.2.2.2 hB.2.2.2
      have hrx : r = x := hP.2.2.1.trans hB.2.2.1.symm
      exact ⟨hq.1, hq.2.1, hq.2.2.trans hk.symm, fun _ => by rw [hv, hrx], by rw [hk]; decide⟩
    · exfalso; clear hG; omega
    · exfalso; clear hG; omega
  · rcases hB with hB | hB | hB
    · exfalso; clear hG; omega
    · have hq := ag_ask hG hP.2 hB.2.2
      exact ⟨hq.1, hq.2.1, hq.2.2.trans hk.symm, fun h0 => absurd (hk.symm.trans h0) (by decide), by rw [hk]; decide⟩
    · exfalso; clear hG; omega
  · rcases hB with hB | hB | hB
    · exfalso; clear hG; omega
    · exfalso; clear hG; omega
    · have hq := ag_ask hG hP.2 hB.2.2.2
      exact ⟨hq.1, hq.2.1, hq.2.2.trans hk.symm, fun h0 => absurd (hk.symm.trans h0) (by decide), by rw [hk]; decide⟩
def MP_peak (S Z Z' : ZT) (q : Int) (r : Int) : Prop := (S 0 0 7 = 1 ∧ (0 ≤ q ∧ q < (LN S 0).length) ∧ r = pkF (fun w => tsum S ((LN S 0).getD q.toNat 0) ((LN S 1).getD w.toNat 0)) (LN S 1).length ∧ MTH 0 Z Z') ∨ (S 0 0 7 ≠ 1 ∧ r = 0 ∧ MTH 1 Z Z') ∨ (S 0 0 7 = 1 ∧ ¬ (0 ≤ q ∧ q < (LN S 0).length) ∧ r = 0 ∧ MTH 2 Z Z')
theorem hi_peak {Z Z1 : ZT} {q : Int} {k : Int} {v9 : Int64} (hA : WP_peak Z Z Z1 q k v9) : HI Z Z1 := by
  unfold WP_peak at hA
  rcases hA with ⟨-, r, hP, -⟩ | ⟨-, hP⟩ | ⟨-, hP⟩
  · exact HI.sp hP.2.2.2
  · exact HI.sp hP.2
  · exact HI.sp hP.2
theorem ag_peak {Z Z1 Z2 : ZT} {q : Int} {k x : Int} {v9 : Int64} (hG : GOOD Z) (hA : WP_peak Z Z Z1 q k v9) (hB : MP_peak Z Z1 Z2 q x) : GOOD Z2 ∧ KEEPL Z Z2 ∧ Z2 24 0 0 = k ∧ (k = 0 → v9 = (iI x).toInt64) ∧ (0 ≤ k ∧ k ≤ 2) := by
  unfold WP_peak at hA
  unfold MP_peak at hB
  rcases hA with ⟨hk, r, hP, hv⟩ | ⟨hk, hP⟩ | ⟨hk, hP⟩
  · rcases hB with hB | hB | hB
    · have hq := ag_ask hG hP.2.2.2 hB.2.2.2
      have hrx : r = x := hP.2.2.1.trans hB.2.2.1.symm
      exact ⟨hq.1, hq.2.1, hq.2.2.trans hk.symm, fun _ => by rw [hv, hrx], by rw [hk]; decide⟩
    · exfalso; clear hG; omega
    · exfalso; clear hG; omega
  · rcases hB with hB | hB | hB
    · exfalso; clear hG; omega
    · have hq := ag_ask hG hP.2 hB.2.2
      exact ⟨hq.1, hq.2.1, hq.2.2.trans hk.symm, fun h0 => absurd (hk.symm.trans h0) (by decide), by rw [hk]; decide⟩
    · exfalso; clear hG; omega
  · rcases hB with hB | hB | hB
    · exfalso; clear hG; omega
    · exfalso; clear hG; omega
    · have hq := ag_ask hG hP.2 hB.2.2.2
      exact ⟨hq.1, hq.2.1, hq.2.2.trans hk.symm, fun h0 => absurd (hk.symm.trans h0) (by decide), by rw [hk]; decide⟩
def MP_setLevel (S Z Z' : ZT) (d q : Int) (r : Int) : Prop := ((0 ≤ d ∧ d < S 0 0 5 ∧ 0 ≤ q ∧ q ≤ S 2 d 3) ∧ r = lvl (S 0 0 6) d ∧ Z' = zS (zS Z 24 0 0 0) 32 0 d q) ∨ (¬ (0 ≤ d ∧ d < S 0 0 5 ∧ 0 ≤ q ∧ q ≤ S 2 d 3) ∧ r = 0 ∧ MTH 1 Z Z')
theorem hi_setLevel {Z Z1 : ZT} {d q : Int} {k : Int} {v9 : Int64} (hA : WP_setLevel Z Z Z1 d q k v9) : HI Z Z1 := by
  unfold WP_setLevel at hA
  rcases hA with ⟨-, r, hP, -⟩ | ⟨-, hP⟩
  · exact HI.fr hP.2.2.1 (by decide)
  · exact HI.sp (by rw [hP.2]; exact SP.rf Z)
theorem mu_setLevel {Z Z1 Z2 : ZT} {d q : Int} {r x : Int} (hG : GOOD Z) (hP : (0 ≤ d ∧ d < Z 0 0 5 ∧ 0 ≤ q ∧ q ≤ Z 2 d 3) ∧ r = lvl (Z 0 0 6) d ∧ M_0 Z 6 (setL (Z 0 0 6) d q) Z1) (hB : (0 ≤ d ∧ d < Z 0 0 5 ∧ 0 ≤ q ∧ q ≤ Z 2 d 3) ∧ x = lvl (Z 0 0 6) d ∧ Z2 = zS (zS Z1 24 0 0 0) 32 0 d q) : GOOD Z2 ∧ KEEPL Z Z2 ∧ Z2 24 0 0 = 0 := by
  obtain ⟨⟨d0, d1, q0, q1⟩, -, hM⟩ := hP
  obtain ⟨-, -, hz⟩ := hB
  have hl : LO Z1 Z2 := fun k hk => by rw [hz, zS_k (by omega), zS_k (by omega)]
  subst hz
  have hn := hG.1.1.n
  have hl3 := hG.1.1.lv
  have hdp := hG.1.1.deep d0 (by omega)
  have h1 := hG.2.hi (HI.fr hM.1 (by decide))
  have hs := setL_ok hl3.1 hl3.2.1 d0 (by omega : d < 4) q0 (by omega : q < 4)
  have hL : LOK Z (setL (Z 0 0 6) d q) := ⟨hs.1.1, hs.1.2, fun e e0 e1 => by
    rw [hs.2 e e0 e1]
    by_cases z : e = d
    · rw [if_pos z, z]; exact q1
    · rw [if_neg z]; exact hl3.2.2 e e0 e1⟩
  refine ⟨GOOD.of (hG.1.levels hM hL) (RMZ.setLevel h1 hG.1.1 hM d0 (by omega) q0 (by omega)) hl, KEEPL.tr (KEEPL.of (by rw [hM.2, if_neg (by decide)]) (by rw [hM.1.1 6 rfl (by decide)]) (hM.1.1 8 rfl (by decide))) (KEEPL.lo hl), ?_⟩
  rw [zS_k (by decide), zS_s]
theorem ag_setLevel {Z Z1 Z2 : ZT} {d q : Int} {k x : Int} {v9 : Int64} (hG : GOOD Z) (hA : WP_setLevel Z Z Z1 d q k v9) (hB : MP_setLevel Z Z1 Z2 d q x) : GOOD Z2 ∧ KEEPL Z Z2 ∧ Z2 24 0 0 = k ∧ (k = 0 → v9 = (iI x).toInt64) ∧ (0 ≤ k ∧ k ≤ 2) := by
  unfold WP_setLevel at hA
  unfold MP_setLevel at hB
  rcases hA with ⟨hk, r, hP, hv⟩ | ⟨hk, hP⟩
  · rcases hB with hB | hB
    · have hq := mu_setLevel hG hP hB
      have hrx : r = x := hP.2.1.trans hB.2.1.symm
      exact ⟨hq.1, hq.2.1, hq.2.2.trans hk.symm, fun _ => by rw [hv, hrx], by rw [hk]; decide⟩
    · exfalso; clear hG; omega
  · rcases hB with hB | hB
    · exfalso; clear hG; omega
    · have hq := ag_ask hG (by rw [hP.2]; exact SP.rf Z) hB.2.2
      exact ⟨hq.1, hq.2.1, hq.2.2.trans hk.symm, fun h0 => absurd (hk.symm.trans h0) (by decide), by rw [hk]; decide⟩
def MP_keep (S Z Z' : ZT) (r : Int) : Prop := (S 11 0 3 < 6 ∧ r = S 11 0 3 ∧ ∃ q, LV (S 0 0 5) q = S 0 0 6 ∧ Z' = zS (zS (zS (zS (zS Z 24 0 0 0) 36 0 (S 11 0 3) q) 37 0 (S 11 0 3) (CELLS S (S 0 0 6))) 38 0 (S 11 0 3) 0) 24 0 14 (S 11 0 3 + 1)) ∨ (¬ S 11 0 3 < 6 ∧ r = 0 ∧ MTH 1 Z Z')
theorem hi_keep {Z Z1 : ZT} {k : Int} {v9 : Int64} (hA : WP_keep Z Z Z1 k v9) : HI Z Z1 := by
  unfold WP_keep at hA
  rcases hA with ⟨-, r, hP, -⟩ | ⟨-, hP⟩
  · exact HI.fr hP.2.2.1 (by decide)
  · exact HI.sp (by rw [hP.2]; exact SP.rf Z)
theorem mu_keep {Z Z1 Z2 : ZT} {r x : Int} (hG : GOOD Z) (hP : Z 11 0 3 < 6 ∧ r = Z 11 0 3 ∧ M_keep Z Z1) (hB : Z 11 0 3 < 6 ∧ x = Z 11 0 3 ∧ ∃ q, LV (Z 0 0 5) q = Z 0 0 6 ∧ Z2 = zS (zS (zS (zS (zS Z1 24 0 0 0) 36 0 (Z 11 0 3) q) 37 0 (Z 11 0 3) (CELLS Z (Z 0 0 6))) 38 0 (Z 11 0 3) 0) 24 0 14 (Z 11 0 3 + 1)) : GOOD Z2 ∧ KEEPL Z Z2 ∧ Z2 24 0 0 = 0 := by
  obtain ⟨c0, -, hM⟩ := hP
  obtain ⟨-, -, q, hq, hz⟩ := hB
  have hl : LO Z1 Z2 := fun k hk => by rw [hz, zS_k (by omega), zS_k (by omega), zS_k (by omega), zS_k (by omega), zS_k (by omega)]
  subst hz
  have h1 := hG.2.hi (HI.fr hM.1 (by decide))
  refine ⟨GOOD.of (hG.1.keep hM c0) (RMZ.keep h1 hM hq) hl, KEEPL.tr (KEEPL.of (by rw [hM.1.1 0 rfl (by decide)]) (by rw [hM.1.1 6 rfl (by decide)]) (hM.1.1 8 rfl (by decide))) (KEEPL.lo hl), ?_⟩
  rw [zS_v, if_neg (by decide), zS_k (by decide), zS_k (by decide), zS_k (by decide), zS_s]
theorem ag_keep {Z Z1 Z2 : ZT} {k x : Int} {v9 : Int64} (hG : GOOD Z) (hA : WP_keep Z Z Z1 k v9) (hB : MP_keep Z Z1 Z2 x) : GOOD Z2 ∧ KEEPL Z Z2 ∧ Z2 24 0 0 = k ∧ (k = 0 → v9 = (iI x).toInt64) ∧ (0 ≤ k ∧ k ≤ 2) := by
  unfold WP_keep at hA
  unfold MP_keep at hB
  rcases hA with ⟨hk, r, hP, hv⟩ | ⟨hk, hP⟩
  · rcases hB with hB | hB
    · have hq := mu_keep hG hP hB
      have hrx : r = x := hP.2.1.trans hB.2.1.symm
      exact ⟨hq.1, hq.2.1, hq.2.2.trans hk.symm, fun _ => by rw [hv, hrx], by rw [hk]; decide⟩
    · exact absurd hP.1 hB.1
  · rcases hB with hB | hB
    · exact absurd hB.1 hP.1
    · have hq := ag_ask hG (by rw [hP.2]; exact SP.rf Z) hB.2.2
      exact ⟨hq.1, hq.2.1, hq.2.2.trans hk.symm, fun h0 => absurd (hk.symm.trans h0) (by decide), by rw [hk]; decide⟩
def MP_dropView (S Z Z' : ZT) (gap : Int) (r : Int) : Prop := ((0 ≤ gap ∧ gap < S 11 0 3) ∧ r = S 11 0 3 - 1 ∧ (∀ k, k ≠ 36 → k ≠ 37 → k ≠ 38 → Z' k = zS (zS Z 24 0 0 0) 24 0 14 (S 11 0 3 - 1) k) ∧ (∀ k, Z' 36 0 k = gapF gap (S 11 0 3 - 1) (Z 36 0) k) ∧ (∀ k, Z' 37 0 k = gapF gap (S 11 0 3 - 1) (Z 37 0) k) ∧ (∀ k, Z' 38 0 k = gapF gap (S 11 0 3 - 1) (Z 38 0) k)) ∨ (¬ (0 ≤ gap ∧ gap < S 11 0 3) ∧ r = 0 ∧ MTH 1 Z Z')
theorem hi_dropView {Z Z1 : ZT} {q : Int} {k : Int} {v9 : Int64} (hA : WP_dropView Z Z Z1 q k v9) : HI Z Z1 := by
  unfold WP_dropView at hA
  rcases hA with ⟨-, r, hP, -⟩ | ⟨-, hP⟩
  · exact HI.fr hP.2.2.1 (by decide)
  · exact HI.sp (by rw [hP.2]; exact SP.rf Z)
theorem mu_dropView {Z Z1 Z2 : ZT} {q : Int} {r x : Int} (hG : GOOD Z) (hP : (0 ≤ q ∧ q < Z 11 0 3) ∧ r = Z 11 0 3 - 1 ∧ M_dropView Z q Z1) (hB : (0 ≤ q ∧ q < Z 11 0 3) ∧ x = Z 11 0 3 - 1 ∧ (∀ k, k ≠ 36 → k ≠ 37 → k ≠ 38 → Z2 k = zS (zS Z1 24 0 0 0) 24 0 14 (Z 11 0 3 - 1) k) ∧ (∀ k, Z2 36 0 k = gapF q (Z 11 0 3 - 1) (Z1 36 0) k) ∧ (∀ k, Z2 37 0 k = gapF q (Z 11 0 3 - 1) (Z1 37 0) k) ∧ (∀ k, Z2 38 0 k = gapF q (Z 11 0 3 - 1) (Z1 38 0) k)) : GOOD Z2 ∧ KEEPL Z Z2 ∧ Z2 24 0 0 = 0 := by
  obtain ⟨⟨q0, q1⟩, -, hM⟩ := hP
  obtain ⟨-, -, hu, h36, h37, h38⟩ := hB
  have h1 := hG.2.hi (HI.fr hM.1 (by decide))
  have hl : LO Z1 Z2 := fun k hk => by rw [hu k (by omega) (by omega) (by omega), zS_k (by omega), zS_k (by omega)]
  refine ⟨GOOD.of (hG.1.dropView hM q0 q1) (RMZ.dropView h1 hM q0 hu h36 h37 h38) hl, KEEPL.tr (KEEPL.of (by rw [hM.1.1 0 rfl (by decide)]) (by rw [hM.1.1 6 rfl (by decide)]) (hM.1.1 8 rfl (by decide))) (KEEPL.lo hl), ?_⟩
  rw [hu 24 (by decide) (by decide) (by decide), zS_v, if_neg (by decide), zS_s]
theorem ag_dropView {Z Z1 Z2 : ZT} {q : Int} {k x : Int} {v9 : Int64} (hG : GOOD Z) (hA : WP_dropView Z Z Z1 q k v9) (hB : MP_dropView Z Z1 Z2 q x) : GOOD Z2 ∧ KEEPL Z Z2 ∧ Z2 24 0 0 = k ∧ (k = 0 → v9 = (iI x).toInt64) ∧ (0 ≤ k ∧ k ≤ 2) := by
  unfold WP_dropView at hA
  unfold MP_dropView at hB
  rcases hA with ⟨hk, r, hP, hv⟩ | ⟨hk, hP⟩
  · rcases hB with hB | hB
    · have hq := mu_dropView hG hP hB
      have hrx : r = x := hP.2.1.trans hB.2.1.symm
      exact ⟨hq.1, hq.2.1, hq.2.2.trans hk.symm, fun _ => by rw [hv, hrx], by rw [hk]; decide⟩
    · exfalso; clear hG; omega
  · rcases hB with hB | hB
    · exfalso; clear hG; omega
    · have hq := ag_ask hG (by rw [hP.2]; exact SP.rf Z) hB.2.2
      exact ⟨hq.1, hq.2.1, hq.2.2.trans hk.symm, fun h0 => absurd (hk.symm.trans h0) (by decide), by rw [hk]; decide⟩
def MP_refresh (S Z Z' : ZT) (q : Int) (r : Int) : Prop := ((0 ≤ q ∧ q < S 11 0 3) ∧ r = CELLS S (S 12 0 q) ∧ Z' = zS (zS (zS Z 24 0 0 0) 37 0 q (CELLS S (S 12 0 q))) 38 0 q 0) ∨ (¬ (0 ≤ q ∧ q < S 11 0 3) ∧ r = 0 ∧ MTH 1 Z Z')
theorem hi_refresh {Z Z1 : ZT} {q : Int} {k : Int} {v9 : Int64} (hA : WP_refresh Z Z Z1 q k v9) : HI Z Z1 := by
  unfold WP_refresh at hA
  rcases hA with ⟨-, r, hP, -⟩ | ⟨-, hP⟩
  · exact HI.fr hP.2.2.1 (by decide)
  · exact HI.sp (by rw [hP.2]; exact SP.rf Z)
theorem mu_refresh {Z Z1 Z2 : ZT} {q : Int} {r x : Int} (hG : GOOD Z) (hP : (0 ≤ q ∧ q < Z 11 0 3) ∧ r = CELLS Z (Z 12 0 q) ∧ M_refresh Z q Z1) (hB : (0 ≤ q ∧ q < Z 11 0 3) ∧ x = CELLS Z (Z 12 0 q) ∧ Z2 = zS (zS (zS Z1 24 0 0 0) 37 0 q (CELLS Z (Z 12 0 q))) 38 0 q 0) : GOOD Z2 ∧ KEEPL Z Z2 ∧ Z2 24 0 0 = 0 := by
  obtain ⟨⟨q0, q1⟩, -, hM⟩ := hP
  obtain ⟨-, -, hz⟩ := hB
  have hl : LO Z1 Z2 := fun k hk => by rw [hz, zS_k (by omega), zS_k (by omega), zS_k (by omega)]
  subst hz
  have h1 := hG.2.hi (HI.fr hM.1 (by decide))
  refine ⟨GOOD.of (hG.1.refresh hM) (RMZ.refresh h1 hM) hl, KEEPL.tr (KEEPL.of (by rw [hM.1.1 0 rfl (by decide)]) (by rw [hM.1.1 6 rfl (by decide)]) (hM.1.1 8 rfl (by decide))) (KEEPL.lo hl), ?_⟩
  rw [zS_k (by decide), zS_k (by decide), zS_s]
theorem ag_refresh {Z Z1 Z2 : ZT} {q : Int} {k x : Int} {v9 : Int64} (hG : GOOD Z) (hA : WP_refresh Z Z Z1 q k v9) (hB : MP_refresh Z Z1 Z2 q x) : GOOD Z2 ∧ KEEPL Z Z2 ∧ Z2 24 0 0 = k ∧ (k = 0 → v9 = (iI x).toInt64) ∧ (0 ≤ k ∧ k ≤ 2) := by
  unfold WP_refresh at hA
  unfold MP_refresh at hB
  rcases hA with ⟨hk, r, hP, hv⟩ | ⟨hk, hP⟩
  · rcases hB with hB | hB
    · have hq := mu_refresh hG hP hB
      have hrx : r = x := hP.2.1.trans hB.2.1.symm
      exact ⟨hq.1, hq.2.1, hq.2.2.trans hk.symm, fun _ => by rw [hv, hrx], by rw [hk]; decide⟩
    · exfalso; clear hG; omega
  · rcases hB with hB | hB
    · exfalso; clear hG; omega
    · have hq := ag_ask hG (by rw [hP.2]; exact SP.rf Z) hB.2.2
      exact ⟨hq.1, hq.2.1, hq.2.2.trans hk.symm, fun h0 => absurd (hk.symm.trans h0) (by decide), by rw [hk]; decide⟩
def MP_rowsOf (S Z Z' : ZT) (q : Int) (r : Int) : Prop := ((0 ≤ q ∧ q < S 11 0 3) ∧ r = S 13 0 q ∧ MTH 0 Z Z') ∨ (¬ (0 ≤ q ∧ q < S 11 0 3) ∧ r = 0 ∧ MTH 1 Z Z')
theorem hi_rowsOf {Z Z1 : ZT} {q : Int} {k : Int} {v9 : Int64} (hA : WP_rowsOf Z Z Z1 q k v9) : HI Z Z1 := by
  unfold WP_rowsOf at hA
  rcases hA with ⟨-, r, hP, -⟩ | ⟨-, hP⟩
  · exact HI.sp (by rw [hP.2]; exact SP.rf Z)
  · exact HI.sp (by rw [hP.2]; exact SP.rf Z)
theorem ag_rowsOf {Z Z1 Z2 : ZT} {q : Int} {k x : Int} {v9 : Int64} (hG : GOOD Z) (hA : WP_rowsOf Z Z Z1 q k v9) (hB : MP_rowsOf Z Z1 Z2 q x) : GOOD Z2 ∧ KEEPL Z Z2 ∧ Z2 24 0 0 = k ∧ (k = 0 → v9 = (iI x).toInt64) ∧ (0 ≤ k ∧ k ≤ 2) := by
  unfold WP_rowsOf at hA
  unfold MP_rowsOf at hB
  rcases hA with ⟨hk, r, hP, hv⟩ | ⟨hk, hP⟩
  · rcases hB with hB | hB
    · have hq := ag_ask hG (by rw [hP.2]; exact SP.rf Z) hB.2.2
      have hrx : r = x := hP.1.2.trans hB.2.1.symm
      exact ⟨hq.1, hq.2.1, hq.2.2.trans hk.symm, fun _ => by rw [hv, hrx], by rw [hk]; decide⟩
    · exfalso; clear hG; omega
  · rcases hB with hB | hB
    · exfalso; clear hG; omega
    · have hq := ag_ask hG (by rw [hP.2]; exact SP.rf Z) hB.2.2
      exact ⟨hq.1, hq.2.1, hq.2.2.trans hk.symm, fun h0 => absurd (hk.symm.trans h0) (by decide), by rw [hk]; decide⟩
def MP_isStale (S Z Z' : ZT) (q : Int) (r : Int) : Prop := ((0 ≤ q ∧ q < S 11 0 3) ∧ r = S 14 0 q ∧ MTH 0 Z Z') ∨ (¬ (0 ≤ q ∧ q < S 11 0 3) ∧ r = 0 ∧ MTH 1 Z Z')
theorem hi_isStale {Z Z1 : ZT} {q : Int} {k : Int} {v9 : Int64} (hA : WP_isStale Z Z Z1 q k v9) : HI Z Z1 := by
  unfold WP_isStale at hA
  rcases hA with ⟨-, r, hP, -⟩ | ⟨-, hP⟩
  · exact HI.sp (by rw [hP.2]; exact SP.rf Z)
  · exact HI.sp (by rw [hP.2]; exact SP.rf Z)
theorem ag_isStale {Z Z1 Z2 : ZT} {q : Int} {k x : Int} {v9 : Int64} (hG : GOOD Z) (hA : WP_isStale Z Z Z1 q k v9) (hB : MP_isStale Z Z1 Z2 q x) : GOOD Z2 ∧ KEEPL Z Z2 ∧ Z2 24 0 0 = k ∧ (k = 0 → v9 = (if x = 0 then 0 else 1)) ∧ (0 ≤ k ∧ k ≤ 2) := by
  unfold WP_isStale at hA
  unfold MP_isStale at hB
  rcases hA with ⟨hk, r, hP, hv⟩ | ⟨hk, hP⟩
  · rcases hB with hB | hB
    · have hq := ag_ask hG (by rw [hP.2]; exact SP.rf Z) hB.2.2
      have hrx : r = x := hP.1.2.trans hB.2.1.symm
      exact ⟨hq.1, hq.2.1, hq.2.2.trans hk.symm, fun _ => by rw [hv, hrx], by rw [hk]; decide⟩
    · exfalso; clear hG; omega
  · rcases hB with hB | hB
    · exfalso; clear hG; omega
    · have hq := ag_ask hG (by rw [hP.2]; exact SP.rf Z) hB.2.2
      exact ⟨hq.1, hq.2.1, hq.2.2.trans hk.symm, fun h0 => absurd (hk.symm.trans h0) (by decide), by rw [hk]; decide⟩
