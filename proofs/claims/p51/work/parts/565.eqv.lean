/-! worlds that hold the same cells -/
theorem arrV_congr {cI : ClassId} {N : Nat} {f h : Nat → Value} (e : ∀ j, j < N → f j = h j) : arrV cI N f = arrV cI N h := by
  unfold arrV
  have : (fun j : Fin N => f j.val) = fun j : Fin N => h j.val := funext fun j => e j.val j.isLt
  rw [this]
theorem va_at_i {D : va_G} {cl : List vw_C} {H : Heap} {a n : Nat} {c : ClassId} {f h : Nat → Int32} (e : ∀ j, j < n → f j = h j) (q : va_at D cl (a, .inl (c, n, .inl f)) H) : va_at D cl (a, .inl (c, n, .inl h)) H := by
  show H[a]? = some (vp_cell c (n, .inl h))
  rw [vp_cell_i, ← arrV_congr (f := fun j => .int (f j)) (fun j hj => by rw [e j hj])]
  exact q
theorem va_at_q {D : va_G} {cl : List vw_C} {H : Heap} {a n : Nat} {c : ClassId} {f h : Nat → Option Nat} (e : ∀ j, j < n → f j = h j) (q : va_at D cl (a, .inl (c, n, .inr (.inr (.inr (.inr f))))) H) : va_at D cl (a, .inl (c, n, .inr (.inr (.inr (.inr h))))) H := by
  show H[a]? = some (vp_cell c (n, .inr (.inr (.inr (.inr h)))))
  rw [vp_cell_q, ← arrV_congr (f := fun j => va_rf (f j)) (fun j hj => by rw [e j hj])]
  exact q
theorem va_P_eqv {D : va_G} {cl : List vw_C} {ws ws' : va_W} {H : Heap} (h : va_P D cl ws H) (he : ∀ (k : Nat) (q' : Nat × va_E), ws'[k]? = some q' → ∃ (j : Nat) (q : Nat × va_E), ws[j]? = some q ∧ (va_at D cl q H → va_at D cl q' H)) : va_P D cl ws' H := fun k q' hk => by
  obtain ⟨j, q, hq, hi⟩ := he k q' hk
  exact hi (h j q hq)
theorem va_P_last {D : va_G} {cl : List vw_C} {ws : va_W} {H : Heap} {a : Nat} {e e' : va_E} (h : va_P D cl (ws ++ [(a, e)]) H) (hi : va_at D cl (a, e) H → va_at D cl (a, e') H) : va_P D cl (ws ++ [(a, e')]) H := by
  refine va_P_eqv h (fun k q' hk => ?_)
  by_cases hl : k < ws.length
  · rw [List.getElem?_append_left hl] at hk
    exact ⟨k, q', by rw [List.getElem?_append_left hl]; exact hk, fun q => q⟩
  · rw [List.getElem?_append_right (by omega)] at hk
    have h0 : k - ws.length < 1 := (List.getElem?_eq_some_iff.mp hk).1
    rw [show k - ws.length = 0 by omega] at hk
    cases hk
    exact ⟨k, (a, e), by rw [List.getElem?_append_right (by omega), show k - ws.length = 0 by omega]; rfl, hi⟩
theorem va_D_eqv {A : Nat → Prop} {ws ws' : va_W} (h : va_D A ws) (hm : ws'.map Prod.fst = ws.map Prod.fst) : va_D A ws' := by
  have key : ∀ (i : Nat) (p : Nat × va_E), ws'[i]? = some p → ∃ q, ws[i]? = some q ∧ q.1 = p.1 := fun i p hp => by
    have h1 : (ws'.map Prod.fst)[i]? = some p.1 := by rw [List.getElem?_map, hp]; rfl
    rw [hm, List.getElem?_map] at h1
    cases hq : ws[i]? with
    | none => rw [hq] at h1; cases h1
    | some q =>
      rw [hq] at h1
      exact ⟨q, rfl, Option.some.inj h1⟩
  refine ⟨fun i j p q hp hq e => ?_, fun k q hk => ?_⟩
  · obtain ⟨p', a1, a2⟩ := key i p hp
    obtain ⟨q', b1, b2⟩ := key j q hq
    exact h.1 i j p' q' a1 b1 (by rw [a2, b2, e])
  · obtain ⟨q', b1, b2⟩ := key k q hk
    rw [← b2]
    exact h.2 k q' b1
