/-! some one of a row; a row that is made smaller in its place -/
theorem ex_step {P : Int → Prop} {Qx : Prop} {b r c : Int} (h0 : 0 ≤ c) (h : b = 1 ↔ (Qx ∨ ∃ k, 0 ≤ k ∧ k < c ∧ P k)) (hr : r = 1 ↔ P c) : (if b = 1 ∨ r = 1 then (1 : Int) else 0) = 1 ↔ (Qx ∨ ∃ k, 0 ≤ k ∧ k < c + 1 ∧ P k) := by
  constructor
  · intro z
    have z : b = 1 ∨ r = 1 := by
      refine Classical.byContradiction fun w => ?_
      rw [if_neg w] at z
      omega
    rcases z with z | z
    · rcases h.mp z with q | ⟨k, k0, k1, k2⟩
      · exact Or.inl q
      · exact Or.inr ⟨k, k0, by omega, k2⟩
    · exact Or.inr ⟨c, h0, by omega, hr.mp z⟩
  · intro z
    rw [if_pos]
    rcases z with q | ⟨k, k0, k1, k2⟩
    · exact Or.inl (h.mpr (Or.inl q))
    · by_cases e : k = c
      · subst e; exact Or.inr (hr.mpr k2)
      · exact Or.inl (h.mpr (Or.inr ⟨k, k0, by omega, k2⟩))
def HFP (S : ZT) (i o m w k : Int) : Prop := seen S k ∧ bel S (S 15 i 4) (S 8 (S 15 i 4) k) m ∧ bel S (S 15 o 4) (S 8 (S 15 o 4) k) w
def HFQ (S : ZT) (i o m a : Int) : Prop := ∃ j : Int, 0 ≤ j ∧ j < a ∧ ∃ k, 0 ≤ k ∧ k < S 6 0 3 ∧ HFP S i o m ((allL S o).getD j.toNat 0) k
theorem HFQ_s {S : ZT} {i o m a : Int} (h0 : 0 ≤ a) : HFQ S i o m (a + 1) ↔ (HFQ S i o m a ∨ ∃ k, 0 ≤ k ∧ k < S 6 0 3 ∧ HFP S i o m ((allL S o).getD a.toNat 0) k) := by
  constructor
  · rintro ⟨j, j0, j1, h⟩
    by_cases e : j = a
    · subst e; exact Or.inr h
    · exact Or.inl ⟨j, j0, by omega, h⟩
  · rintro (⟨j, j0, j1, h⟩ | h)
    · exact ⟨j, j0, by omega, h⟩
    · exact ⟨a, h0, by omega, h⟩
theorem HFQ_e {S : ZT} {i o m : Int} : HFQ S i o m (allL S o).length ↔ usedA S i o (S 6 0 3) m := by
  constructor
  · rintro ⟨j, j0, j1, k, k0, k1, q1, q2, q3⟩
    exact ⟨k, k0, k1, q1, q2, _, getD_mem j0 j1, q3⟩
  · rintro ⟨k, k0, k1, q1, q2, w, hw, q3⟩
    obtain ⟨n, hn⟩ := List.getElem?_of_mem hw
    have hl := (List.getElem?_eq_some_iff.mp hn).1
    refine ⟨n, by omega, by omega, k, k0, k1, q1, q2, ?_⟩
    rw [Int.toNat_natCast, List.getD_eq_getElem?_getD, hn]
    exact q3
theorem take_getD {W : List Int} {k : Int} (h0 : 0 ≤ k) (h1 : k < W.length) : W.take (k + 1).toNat = W.take k.toNat ++ [W.getD k.toNat 0] := by
  rw [show (k + 1).toNat = k.toNat + 1 by omega, List.take_succ, List.getD_eq_getElem?_getD, List.getElem?_eq_getElem (by omega)]
  rfl
theorem set_take {V : List Int} {m : Nat} {x : Int} (h : m < V.length) : (V.set m x).take (m + 1) = V.take m ++ [x] := by
  have hl : (V.take m).length = m := by rw [List.length_take]; omega
  rw [List.set_eq_take_append_cons_drop, if_pos h, List.take_append, hl, List.take_of_length_le (by omega), show m + 1 - m = 1 by omega]
  rfl
theorem LN_bare {S : ZT} (h : S 0 0 8 = 0) (i : Int) : LN S i = allL S i := by
  unfold LN
  exact List.filter_eq_self.mpr (fun x _ => by simp [h])
