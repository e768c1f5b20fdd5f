/-! only the number that is thrown has changed -/
def MTH (t : Int) (Z Z' : ZT) : Prop := Z' = zS Z 24 0 0 t
theorem zS_up (Z : ZT) (k : Nat) (i j v w : Int) : zS (zS Z k i j v) k i j w = zS Z k i j w := by
  funext k' i' j'
  by_cases e : k' = k
  · subst e
    rw [zS_w, zS_w, zS_w]
    by_cases e2 : i' = i ∧ j' = j
    · rw [if_pos e2, if_pos e2]
    · rw [if_neg e2, if_neg e2, if_neg e2]
  · rw [zS_k e, zS_k e, zS_k e]
theorem MTH.up {Z Z' : ZT} {v t : Int} (h : Z' = zS (zS Z 24 0 0 v) 24 0 0 t) : MTH t Z Z' := by
  rw [zS_up] at h
  exact h
