/-! places behind the last view tell nothing -/
theorem RMZ.vx {S Z : ZT} (h : RMZ S Z) {k : Nat} (hk : k = 36 ∨ k = 37 ∨ k = 38) {v : Int} (hv : S 11 0 3 ≤ v) (x : Int) : RMZ S (zS Z k 0 v x) := by
  have hz : ∀ k' : Nat, k' ≠ 36 → k' ≠ 37 → k' ≠ 38 → zS Z k 0 v x k' = Z k' := fun k' a b c => zS_k (by rcases hk with rfl | rfl | rfl <;> assumption)
  unfold RMZ at *
  simp only [hz 24 (by decide) (by decide) (by decide), hz 25 (by decide) (by decide) (by decide), hz 26 (by decide) (by decide) (by decide), hz 31 (by decide) (by decide) (by decide), hz 32 (by decide) (by decide) (by decide), hz 28 (by decide) (by decide) (by decide), hz 30 (by decide) (by decide) (by decide), hz 34 (by decide) (by decide) (by decide), hz 35 (by decide) (by decide) (by decide)]
  refine ⟨h.1, h.2.1, h.2.2.1, h.2.2.2.1, h.2.2.2.2.1, h.2.2.2.2.2.1, fun w w0 w1 => ?_⟩
  have hw := h.2.2.2.2.2.2 w w0 w1
  have hne : w ≠ v := by omega
  have e : ∀ k' : Nat, zS Z k 0 v x k' 0 w = Z k' 0 w := fun k' => by
    by_cases q : k' = k
    · subst q; rw [zS_v, if_neg hne]
    · rw [zS_k q]
  rw [e, e, e]
  exact hw
