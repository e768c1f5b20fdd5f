/-! nothing changes -/
theorem zS_id (Z : ZT) (k : Nat) (i j : Int) : zS Z k i j (Z k i j) = Z := by
  funext k' i' j'
  by_cases e : k' = k
  · subst e
    rw [zS_w]
    by_cases e2 : i' = i ∧ j' = j
    · rw [if_pos e2, e2.1, e2.2]
    · rw [if_neg e2]
  · rw [zS_k e]
theorem drF_0 {S : ZT} {d : Int} (h : (kids S d).length = 0) (n : Nat) : drF d n S = S := by
  cases n with
  | zero => rfl
  | succ n => show (if _ then _ else _) = _; rw [if_pos h]
theorem kids_dep {S : ZT} (hW : WF S) {d : Int} (d0 : 0 ≤ d) (d1 : d < S 0 0 5) {x : Int} (hx : x ∈ kids S d) : S 4 d x = S 4 d (S 2 d 5) + 1 ∧ S 4 d x ≤ 3 := by
  have ht := hW.t d0 d1
  have ht1 := ht.1
  have a := wk_in ht ht1.2.2.2.2.1 ht1.2.2.2.2.2.1 hx
  have b := ht.at a.1.1 a.1.2
  unfold MOK at b
  exact ⟨a.2.2, by omega⟩
theorem tgF_m {s : Int → Int} {n : Nat} {a : Int} (h : 0 < a) : tgF s n a.toNat = tgF s n (a - 1).toNat + srF s n (a - 1) := by
  have := tgF_s (s := s) (n := n) (a := a - 1) (by omega)
  rw [show a - 1 + 1 = a by omega] at this
  exact this
