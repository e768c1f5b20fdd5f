/-! what the model tells is kept: a view dropped -/
theorem RMZ.dropView {S T Z Y : ZT} {q : Int} (h : RMZ S Z) (hM : M_dropView S q T) (q0 : 0 ≤ q) (hu : ∀ k, k ≠ 36 → k ≠ 37 → k ≠ 38 → Y k = zS (zS Z 24 0 0 0) 24 0 14 (S 11 0 3 - 1) k) (h36 : ∀ k, Y 36 0 k = gapF q (S 11 0 3 - 1) (Z 36 0) k) (h37 : ∀ k, Y 37 0 k = gapF q (S 11 0 3 - 1) (Z 37 0) k) (h38 : ∀ k, Y 38 0 k = gapF q (S 11 0 3 - 1) (Z 38 0) k) : RMZ T Y := by
  obtain ⟨⟨hF, h15⟩, m11, m12, m13, m14⟩ := hM
  have hk : ∀ k : Nat, k ≠ 36 → k ≠ 37 → k ≠ 38 → k ≠ 24 → Y k = Z k := fun k a b c d => by rw [hu k a b c, zS_k d, zS_k d]
  have h24 : ∀ j, j ≠ 0 → Y 24 0 j = if j = 14 then S 11 0 3 - 1 else Z 24 0 j := fun j hj => by rw [hu 24 (by decide) (by decide) (by decide), zS_v, zS_v, if_neg hj]
  unfold RMZ at *
  rw [h24 1 (by decide), h24 8 (by decide), h24 11 (by decide), h24 13 (by decide), h24 14 (by decide)]
  simp only [hF 0 rfl (by decide), hF 2 rfl (by decide), hF 3 rfl (by decide), hF 5 rfl (by decide), hF 6 rfl (by decide), hF 9 rfl (by decide), (h15 _).1, (h15 _).2, m11, m12, m13, m14, hk 25 (by decide) (by decide) (by decide) (by decide), hk 26 (by decide) (by decide) (by decide) (by decide), hk 28 (by decide) (by decide) (by decide) (by decide), hk 31 (by decide) (by decide) (by decide) (by decide), hk 32 (by decide) (by decide) (by decide) (by decide), hk 30 (by decide) (by decide) (by decide) (by decide), hk 34 (by decide) (by decide) (by decide) (by decide), hk 35 (by decide) (by decide) (by decide) (by decide), h36, h37, h38, show ((1 : Int) = 14) = False by simp, show ((8 : Int) = 14) = False by simp, show ((11 : Int) = 14) = False by simp, show ((13 : Int) = 14) = False by simp, if_false, if_true]
  refine ⟨⟨h.1.1, h.1.2.1, h.1.2.2.1, h.1.2.2.2.1, by first | rfl | trivial⟩, h.2.1, h.2.2.1, h.2.2.2.1, h.2.2.2.2.1, h.2.2.2.2.2.1, fun v v0 v1 => ?_⟩
  unfold gapF
  by_cases e : q ≤ v ∧ v < S 11 0 3 - 1
  · rw [if_pos e, if_pos e, if_pos e, if_pos e, if_pos e, if_pos e]
    exact h.2.2.2.2.2.2 (v + 1) (by omega) (by omega)
  · rw [if_neg e, if_neg e, if_neg e, if_neg e, if_neg e, if_neg e]
    exact h.2.2.2.2.2.2 v v0 (by omega)
