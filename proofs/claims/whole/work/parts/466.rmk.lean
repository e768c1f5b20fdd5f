/-! what the model tells is kept: levels, a view kept -/
theorem RMZ.setLevel {S T Z : ZT} {d q : Int} (h : RMZ S Z) (hW : WF S) (hM : M_0 S 6 (setL (S 0 0 6) d q) T) (d0 : 0 ≤ d) (d1 : d < 4) (q0 : 0 ≤ q) (q1 : q < 4) : RMZ T (zS (zS Z 24 0 0 0) 32 0 d q) := by
  have h0 := h.th 0
  have hl := hW.lv
  have hs := (setL_ok hl.1 hl.2.1 d0 d1 q0 q1).2
  obtain ⟨⟨hF, h15⟩, m0⟩ := hM
  generalize zS Z 24 0 0 0 = Y at h0
  have hk : ∀ k : Nat, k ≠ 32 → zS Y 32 0 d q k = Y k := fun k a => by rw [zS_k a]
  unfold RMZ at *
  simp only [hF 2 rfl (by decide), hF 3 rfl (by decide), hF 5 rfl (by decide), hF 6 rfl (by decide), hF 9 rfl (by decide), hF 11 rfl (by decide), hF 12 rfl (by decide), hF 13 rfl (by decide), hF 14 rfl (by decide), (h15 _).1, (h15 _).2, m0, show ((5 : Int) = 6) = False by simp, show ((7 : Int) = 6) = False by simp, show ((8 : Int) = 6) = False by simp, if_false, if_true, hk 24 (by decide), hk 25 (by decide), hk 26 (by decide), hk 28 (by decide), hk 31 (by decide), hk 30 (by decide), hk 34 (by decide), hk 35 (by decide), hk 36 (by decide), hk 37 (by decide), hk 38 (by decide), zS_v]
  refine ⟨h0.1, fun i i0 i1 => ?_, h0.2.2⟩
  have := h0.2.1 i i0 i1
  refine ⟨this.1, this.2.1, this.2.2.1, ?_⟩
  rw [hs i i0 i1]
  by_cases e : i = d
  · rw [if_pos e, if_pos e]
  · rw [if_neg e, if_neg e]; exact this.2.2.2
theorem RMZ.keep {S T Z : ZT} {q : Int} (h : RMZ S Z) (hM : M_keep S T) (hq : LV (S 0 0 5) q = S 0 0 6) : RMZ T (zS (zS (zS (zS (zS Z 24 0 0 0) 36 0 (S 11 0 3) q) 37 0 (S 11 0 3) (CELLS S (S 0 0 6))) 38 0 (S 11 0 3) 0) 24 0 14 (S 11 0 3 + 1)) := by
  have h0 := h.th 0
  obtain ⟨⟨hF, h15⟩, m11, m12, m13, m14⟩ := hM
  generalize zS Z 24 0 0 0 = Y at h0
  have hk : ∀ k : Nat, k ≠ 36 → k ≠ 37 → k ≠ 38 → k ≠ 24 → zS (zS (zS (zS Y 36 0 (S 11 0 3) q) 37 0 (S 11 0 3) (CELLS S (S 0 0 6))) 38 0 (S 11 0 3) 0) 24 0 14 (S 11 0 3 + 1) k = Y k := fun k a b c d => by rw [zS_k d, zS_k c, zS_k b, zS_k a]
  have h24 : ∀ j, zS (zS (zS (zS Y 36 0 (S 11 0 3) q) 37 0 (S 11 0 3) (CELLS S (S 0 0 6))) 38 0 (S 11 0 3) 0) 24 0 14 (S 11 0 3 + 1) 24 0 j = if j = 14 then S 11 0 3 + 1 else Y 24 0 j := fun j => by rw [zS_v, zS_k (by decide), zS_k (by decide), zS_k (by decide)]
  have h36 : ∀ v, zS (zS (zS (zS Y 36 0 (S 11 0 3) q) 37 0 (S 11 0 3) (CELLS S (S 0 0 6))) 38 0 (S 11 0 3) 0) 24 0 14 (S 11 0 3 + 1) 36 0 v = if v = S 11 0 3 then q else Y 36 0 v := fun v => by rw [zS_k (by decide), zS_k (by decide), zS_k (by decide), zS_v]
  have h37 : ∀ v, zS (zS (zS (zS Y 36 0 (S 11 0 3) q) 37 0 (S 11 0 3) (CELLS S (S 0 0 6))) 38 0 (S 11 0 3) 0) 24 0 14 (S 11 0 3 + 1) 37 0 v = if v = S 11 0 3 then CELLS S (S 0 0 6) else Y 37 0 v := fun v => by rw [zS_k (by decide), zS_k (by decide), zS_v, zS_k (by decide)]
  have h38 : ∀ v, zS (zS (zS (zS Y 36 0 (S 11 0 3) q) 37 0 (S 11 0 3) (CELLS S (S 0 0 6))) 38 0 (S 11 0 3) 0) 24 0 14 (S 11 0 3 + 1) 38 0 v = if v = S 11 0 3 then 0 else Y 38 0 v := fun v => by rw [zS_k (by decide), zS_v, zS_k (by decide), zS_k (by decide)]
  unfold RMZ at *
  simp only [hF 0 rfl (by decide), hF 2 rfl (by decide), hF 3 rfl (by decide), hF 5 rfl (by decide), hF 6 rfl (by decide), hF 9 rfl (by decide), (h15 _).1, (h15 _).2, m11, m12, m13, m14, hk 25 (by decide) (by decide) (by decide) (by decide), hk 26 (by decide) (by decide) (by decide) (by decide), hk 28 (by decide) (by decide) (by decide) (by decide), hk 31 (by decide) (by decide) (by decide) (by decide), hk 32 (by decide) (by decide) (by decide) (by decide), hk 30 (by decide) (by decide) (by decide) (by decide), hk 34 (by decide) (by decide) (by decide) (by decide), hk 35 (by decide) (by decide) (by decide) (by decide), h24, h36, h37, h38, show ((1 : Int) = 14) = False by simp, show ((8 : Int) = 14) = False by simp, show ((11 : Int) = 14) = False by simp, show ((13 : Int) = 14) = False by simp, if_false, if_true]
  refine ⟨⟨h0.1.1, h0.1.2.1, h0.1.2.2.1, h0.1.2.2.2.1, by first | rfl | trivial⟩, h0.2.1, h0.2.2.1, h0.2.2.2.1, h0.2.2.2.2.1, h0.2.2.2.2.2.1, fun v v0 v1 => ?_⟩
  by_cases e : v = S 11 0 3
  · rw [if_pos e, if_pos e, if_pos e, if_pos e, if_pos e, if_pos e]
    exact ⟨hq.symm, rfl, rfl⟩
  · rw [if_neg e, if_neg e, if_neg e, if_neg e, if_neg e, if_neg e]
    exact h0.2.2.2.2.2.2 v v0 (by omega)
