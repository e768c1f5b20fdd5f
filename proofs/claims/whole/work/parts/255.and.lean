/-! two numbers that are 0 or 1 -/
theorem and_01 {a b : Int} (ha : a = 0 ∨ a = 1) (hb : b = 0 ∨ b = 1) : iI a &&& iI b = iI (if a = 1 ∧ b = 1 then 1 else 0) := by
  rcases ha with rfl | rfl <;> rcases hb with rfl | rfl <;> decide +kernel
theorem or_01 {a b : Int} (ha : a = 0 ∨ a = 1) (hb : b = 0 ∨ b = 1) : iI a ||| iI b = iI (if a = 1 ∨ b = 1 then 1 else 0) := by
  rcases ha with rfl | rfl <;> rcases hb with rfl | rfl <;> decide +kernel
theorem if_01 {p : Prop} [Decidable p] : (if p then (1 : Int) else 0) = 0 ∨ (if p then (1 : Int) else 0) = 1 := by
  split
  · exact Or.inr rfl
  · exact Or.inl rfl
/-- one more of a row of conditions -/
theorem all_step {P : Int → Prop} {a b c : Int} (h0 : 0 ≤ a) (h : b = 1 ↔ ∀ e, 0 ≤ e → e < a → P e) (hc : c = 1 ↔ P a) : (if b = 1 ∧ c = 1 then (1 : Int) else 0) = 1 ↔ ∀ e, 0 ≤ e → e < a + 1 → P e := by
  constructor
  · intro q
    have q : b = 1 ∧ c = 1 := by
      refine Classical.byContradiction fun z => ?_
      rw [if_neg z] at q
      omega
    intro e e0 e1
    by_cases z : e = a
    · subst z; exact hc.mp q.2
    · exact h.mp q.1 e e0 (by omega)
  · intro q
    rw [if_pos ⟨h.mpr (fun e e0 e1 => q e e0 (by omega)), hc.mpr (q a h0 (by omega))⟩]
