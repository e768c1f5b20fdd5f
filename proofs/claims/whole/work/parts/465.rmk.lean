/-! what the model tells is kept: members, moves, views made anew -/
theorem RMZ.addMember {S T Z : ZT} {d q : Int} (h : RMZ S Z) (hM : M_addMember S d q T) (d0 : 0 ≤ d) (d1 : d < 4) : RMZ T (zS (zS (zS Z 24 0 0 0) 28 d (S 2 d 4) q) 26 0 d (S 2 d 4 + 1)) := by
  have h0 := h.th 0
  obtain ⟨⟨hF, h15⟩, m2, m3, m4⟩ := hM
  generalize zS Z 24 0 0 0 = Y at h0
  have e3 : ∀ i, T 2 i 3 = S 2 i 3 := fun i => by rw [m2, if_neg (by omega)]
  have e5 : ∀ i, T 2 i 5 = S 2 i 5 := fun i => by rw [m2, if_neg (by omega)]
  have e4 : ∀ i, T 2 i 4 = if i = d then S 2 d 4 + 1 else S 2 i 4 := fun i => by
    rw [m2]
    by_cases e : i = d
    · rw [if_pos ⟨e, rfl⟩, if_pos e]
    · rw [if_neg (fun q => e q.1), if_neg e]
  have hk : ∀ k : Nat, k ≠ 28 → k ≠ 26 → zS (zS Y 28 d (S 2 d 4) q) 26 0 d (S 2 d 4 + 1) k = Y k := fun k a b => by rw [zS_k b, zS_k a]
  have h28 : ∀ i m, zS (zS Y 28 d (S 2 d 4) q) 26 0 d (S 2 d 4 + 1) 28 i m = if i = d ∧ m = S 2 d 4 then q else Y 28 i m := fun i m => by rw [zS_k (by decide), zS_w]
  have h26 : ∀ i, zS (zS Y 28 d (S 2 d 4) q) 26 0 d (S 2 d 4 + 1) 26 0 i = if i = d then S 2 d 4 + 1 else Y 26 0 i := fun i => by rw [zS_v, zS_k (by decide)]
  unfold RMZ at *
  simp only [hF 0 rfl (by decide), hF 5 rfl (by decide), hF 6 rfl (by decide), hF 9 rfl (by decide), hF 11 rfl (by decide), hF 12 rfl (by decide), hF 13 rfl (by decide), hF 14 rfl (by decide), (h15 _).1, (h15 _).2, e3, e4, e5, m3, hk 24 (by decide) (by decide), hk 25 (by decide) (by decide), hk 31 (by decide) (by decide), hk 32 (by decide) (by decide), hk 30 (by decide) (by decide), hk 34 (by decide) (by decide), hk 35 (by decide) (by decide), hk 36 (by decide) (by decide), hk 37 (by decide) (by decide), hk 38 (by decide) (by decide), h28, h26]
  refine ⟨h0.1, fun i i0 i1 => ?_, fun i m i0 i1 m0 m1 => ?_, h0.2.2.2⟩
  · have := h0.2.1 i i0 i1
    refine ⟨this.1, ?_, this.2.2⟩
    by_cases e : i = d
    · rw [if_pos e, if_pos e]
    · rw [if_neg e, if_neg e]; exact this.2.1
  · by_cases e : i = d ∧ m = S 2 d 4
    · rw [if_pos e, if_pos e]
    · rw [if_neg e, if_neg e]
      refine h0.2.2.1 i m i0 i1 m0 ?_
      by_cases e2 : i = d
      · rw [if_pos e2] at m1
        have : m ≠ S 2 d 4 := fun z => e ⟨e2, z⟩
        rw [e2]; omega
      · rw [if_neg e2] at m1; exact m1
theorem RMZ.move {S T Z Y : ZT} {d q w : Int} (h : RMZ S Z) (hM : M_move S d q w T) (hv : S 11 0 3 ≤ 6) (hu : ∀ k' i', ¬ (k' = 38 ∧ i' = 0) → Y k' i' = zS (zS Z 24 0 0 0) 28 d q w k' i') (h38 : ∀ j, Y 38 0 j = if 0 ≤ j ∧ j < (6 : Nat) then 1 else Z 38 0 j) : RMZ T Y := by
  have h0 := h.th 0
  obtain ⟨⟨hF, h15⟩, m3, m14⟩ := hM
  have hk : ∀ k : Nat, k ≠ 28 → k ≠ 38 → Y k = zS Z 24 0 0 0 k := fun k a b => funext fun i => by rw [hu k i (fun z => b z.1), zS_k a]
  have h28 : ∀ i m, Y 28 i m = if i = d ∧ m = q then w else zS Z 24 0 0 0 28 i m := fun i m => by rw [hu 28 i (fun z => by have := z.1; omega), zS_w]
  generalize zS Z 24 0 0 0 = Y0 at h0 hk h28
  unfold RMZ at *
  simp only [hF 0 rfl (by decide), hF 2 rfl (by decide), hF 5 rfl (by decide), hF 6 rfl (by decide), hF 9 rfl (by decide), hF 11 rfl (by decide), hF 12 rfl (by decide), hF 13 rfl (by decide), (h15 _).1, (h15 _).2, m3, m14, hk 24 (by decide) (by decide), hk 25 (by decide) (by decide), hk 26 (by decide) (by decide), hk 31 (by decide) (by decide), hk 32 (by decide) (by decide), hk 30 (by decide) (by decide), hk 34 (by decide) (by decide), hk 35 (by decide) (by decide), hk 36 (by decide) (by decide), hk 37 (by decide) (by decide), h28, h38]
  refine ⟨h0.1, h0.2.1, fun i m i0 i1 m0 m1 => ?_, h0.2.2.2.1, h0.2.2.2.2.1, h0.2.2.2.2.2.1, fun v v0 v1 => ?_⟩
  · rw [h0.2.2.1 i m i0 i1 m0 m1]
  · have := h0.2.2.2.2.2.2 v v0 v1
    refine ⟨this.1, this.2.1, ?_⟩
    unfold STLV
    rw [if_pos (show 0 ≤ v ∧ v < ((6 : Nat) : Int) from ⟨v0, by omega⟩), if_pos (show 0 ≤ v ∧ v < S 11 0 3 from ⟨v0, v1⟩)]
theorem RMZ.refresh {S T Z : ZT} {q : Int} (h : RMZ S Z) (hM : M_refresh S q T) : RMZ T (zS (zS (zS Z 24 0 0 0) 37 0 q (CELLS S (S 12 0 q))) 38 0 q 0) := by
  have h0 := h.th 0
  obtain ⟨⟨hF, h15⟩, m13, m14⟩ := hM
  generalize zS Z 24 0 0 0 = Y at h0
  have hk : ∀ k : Nat, k ≠ 37 → k ≠ 38 → zS (zS Y 37 0 q (CELLS S (S 12 0 q))) 38 0 q 0 k = Y k := fun k a b => by rw [zS_k b, zS_k a]
  have h37 : ∀ v, zS (zS Y 37 0 q (CELLS S (S 12 0 q))) 38 0 q 0 37 0 v = if v = q then CELLS S (S 12 0 q) else Y 37 0 v := fun v => by rw [zS_k (by decide), zS_v]
  have h38 : ∀ v, zS (zS Y 37 0 q (CELLS S (S 12 0 q))) 38 0 q 0 38 0 v = if v = q then 0 else Y 38 0 v := fun v => by rw [zS_v, zS_k (by decide)]
  unfold RMZ at *
  simp only [hF 0 rfl (by decide), hF 2 rfl (by decide), hF 3 rfl (by decide), hF 5 rfl (by decide), hF 6 rfl (by decide), hF 9 rfl (by decide), hF 11 rfl (by decide), hF 12 rfl (by decide), (h15 _).1, (h15 _).2, m13, m14, hk 24 (by decide) (by decide), hk 25 (by decide) (by decide), hk 26 (by decide) (by decide), hk 28 (by decide) (by decide), hk 31 (by decide) (by decide), hk 32 (by decide) (by decide), hk 30 (by decide) (by decide), hk 34 (by decide) (by decide), hk 35 (by decide) (by decide), hk 36 (by decide) (by decide), h37, h38]
  refine ⟨h0.1, h0.2.1, h0.2.2.1, h0.2.2.2.1, h0.2.2.2.2.1, h0.2.2.2.2.2.1, fun v v0 v1 => ?_⟩
  have := h0.2.2.2.2.2.2 v v0 v1
  refine ⟨this.1, ?_, ?_⟩
  · by_cases e : v = q
    · rw [if_pos e, if_pos e]
    · rw [if_neg e, if_neg e]; exact this.2.1
  · by_cases e : v = q
    · rw [if_pos e, if_pos e]
    · rw [if_neg e, if_neg e]; exact this.2.2
