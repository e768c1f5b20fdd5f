/-! what the model tells is kept: a dimension more -/
theorem RMZ.addDimension {S T Z Y : ZT} {lv : Int} (h : RMZ S Z) (hM : M_addDimension S lv T) (hn : 0 ≤ S 0 0 5 ∧ S 0 0 5 < 4) (hu : ∀ k, k ≠ 30 → Y k = zS (zS (zS (zS (zS (zS (zS Z 24 0 0 0) 25 0 (S 0 0 5) lv) 26 0 (S 0 0 5) 1) 24 0 1 (S 0 0 5 + 1)) 24 0 8 0) 24 0 14 0) 24 0 11 0 k) (h30 : ∀ d j, 0 ≤ d → d < 4 → 0 ≤ j → j < 24 → Y 30 d j = 0) : RMZ T Y := by
  obtain ⟨⟨hF, h15⟩, m05, m06, m07, m08, m2, m3, m5, m6, m11⟩ := hM
  have hk : ∀ k : Nat, k ≠ 30 → k ≠ 24 → k ≠ 25 → k ≠ 26 → Y k = Z k := fun k a b c d => by rw [hu k a, zS_k b, zS_k b, zS_k b, zS_k b, zS_k d, zS_k c, zS_k b]
  have h25 : ∀ i, Y 25 0 i = if i = S 0 0 5 then lv else Z 25 0 i := fun i => by rw [hu 25 (by decide), zS_k (by decide), zS_k (by decide), zS_k (by decide), zS_k (by decide), zS_k (by decide), zS_v, zS_k (by decide)]
  have h26 : ∀ i, Y 26 0 i = if i = S 0 0 5 then 1 else Z 26 0 i := fun i => by rw [hu 26 (by decide), zS_k (by decide), zS_k (by decide), zS_k (by decide), zS_k (by decide), zS_v, zS_k (by decide), zS_k (by decide)]
  have h24 : ∀ j, j ≠ 0 → Y 24 0 j = if j = 11 then 0 else if j = 14 then 0 else if j = 8 then 0 else if j = 1 then S 0 0 5 + 1 else Z 24 0 j := fun j hj => by rw [hu 24 (by decide), zS_v, zS_v, zS_v, zS_v, zS_k (by decide), zS_k (by decide), zS_v, if_neg hj]
  have e3 : ∀ i, T 2 i 3 = if i = S 0 0 5 then lv else S 2 i 3 := fun i => by
    rw [m2]
    by_cases e : i = S 0 0 5
    · rw [if_pos ⟨e, rfl⟩, if_pos e]
    · rw [if_neg (fun q => e q.1), if_neg (fun q => e q.1), if_neg e]
  have e4 : ∀ i, T 2 i 4 = if i = S 0 0 5 then 1 else S 2 i 4 := fun i => by
    rw [m2, if_neg (by omega)]
    by_cases e : i = S 0 0 5
    · rw [if_pos ⟨e, rfl⟩, if_pos e]
    · rw [if_neg (fun q => e q.1), if_neg e]
  have e5 : ∀ i, T 2 i 5 = S 2 i 5 := fun i => by rw [m2, if_neg (by omega), if_neg (by omega)]
  unfold RMZ at *
  rw [h24 1 (by decide), h24 8 (by decide), h24 11 (by decide), h24 13 (by decide), h24 14 (by decide), m05, m6, m07, m08, m11]
  refine ⟨⟨rfl, rfl, rfl, h.1.2.2.2.1, rfl⟩, fun i i0 i1 => ?_, fun i m i0 i1 q0 q1 => ?_, fun i m i0 i1 q0 q1 => ?_, fun k k0 k1 => by omega, ?_, fun v v0 v1 => by omega⟩
  · have := h.2.1 i i0 i1
    rw [h25, h26, e3, e4, e5, m06, hk 31 (by decide) (by decide) (by decide) (by decide), hk 32 (by decide) (by decide) (by decide) (by decide)]
    refine ⟨?_, ?_, this.2.2⟩
    · split
      · rfl
      · exact this.1
    · split
      · rfl
      · exact this.2.1
  · rw [e4] at q1
    by_cases e : i = S 0 0 5
    · rw [if_pos e] at q1; omega
    · rw [if_neg e] at q1
      rw [hk 28 (by decide) (by decide) (by decide) (by decide), m3, if_neg (fun z => e z.1)]
      exact h.2.2.1 i m i0 (by omega) q0 q1
  · rw [h30 i m i0 (by omega) q0 q1, m5 i m i0 (by omega) q0 q1]
  · rw [hk 35 (by decide) (by decide) (by decide) (by decide), (h15 0).1, (h15 0).2, (h15 1).1, (h15 1).2]
    exact h.2.2.2.2.2.1
