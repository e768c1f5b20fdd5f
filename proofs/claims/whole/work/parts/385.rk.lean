/-! ranks by the row of sums -/
theorem SUML_rg {S : ZT} (hW : WF S) (d : Int) : ∀ j : Int, 0 ≤ j → j < (SUML S d).length → inR ((SUML S d).getD j.toNat 0) := fun j j0 j1 => by
  rw [SUML_len] at j1
  rw [(SUML_at j0 j1).1]
  have := lsum_bd hW d j
  omega
theorem rkP_c {s t : Int → Int} {n : Nat} {q : Int} (h : ∀ j : Int, 0 ≤ j → j < n → s j = t j) : rkF s n q = rkF t n q := by
  have e : rkP s n q = rkP t n q := funext fun r => propext ⟨fun w => rk_of h w, fun w => rk_of (fun j a b => (h j a b).symm) w⟩
  unfold rkF
  rw [e]
theorem rk_SUML (S : ZT) (d q : Int) : rkF (fun j => (SUML S d).getD j.toNat 0) (SUML S d).length q = rkF (lsum S d) (kids S d).length q := by
  rw [SUML_len]
  exact rkP_c (fun j j0 j1 => (SUML_at j0 j1).1)
theorem sumTo_c {s t : Int → Int} {n : Nat} (h : ∀ j : Int, 0 ≤ j → j < n → s j = t j) : sumTo s n = sumTo t n := sumTo_congr h
