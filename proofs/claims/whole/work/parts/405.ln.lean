/-! what is shown -/
theorem LN_ok {S : ZT} (hW : WF S) (ha : S 0 0 7 = 1) {i : Int} (i0 : 0 ≤ i) (i1 : i < 2) : (LN S i).length ≤ 24 ∧ ∀ x ∈ LN S i, 0 ≤ x ∧ x < S 2 (S 15 i 4) 4 := by
  have h := allL_ok hW ha i0 i1
  have hl : (LN S i).length ≤ (allL S i).length := by unfold LN; exact List.length_filter_le _ _
  refine ⟨by omega, fun x hx => ?_⟩
  unfold LN at hx
  exact (h.2.2 x (List.mem_filter.mp hx).1).1
