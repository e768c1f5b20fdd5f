/-! the model's search for the best levels -/
noncomputable def adM (S : ZT) : Nat → Int × Int
  | 0 => (-1, 0)
  | n + 1 => @ite _ (LOK S (LV (S 0 0 5) n) ∧ (adM S n).1 < GM S n) (Classical.propDecidable _) (GM S n, (n : Int)) (adM S n)
theorem adM_s {S : ZT} {a : Int} (h : 0 ≤ a) : adM S (a + 1).toNat = @ite _ (LOK S (LV (S 0 0 5) a) ∧ (adM S a.toNat).1 < GM S a) (Classical.propDecidable _) (GM S a, a) (adM S a.toNat) := by
  rw [show (a + 1).toNat = a.toNat + 1 by omega]
  show @ite _ (LOK S (LV (S 0 0 5) (a.toNat : Int)) ∧ (adM S a.toNat).1 < GM S (a.toNat : Int)) (Classical.propDecidable _) (GM S (a.toNat : Int), (a.toNat : Int)) (adM S a.toNat) = _
  rw [Int.toNat_of_nonneg h]
theorem GM_in {S : ZT} (hW : WF S) (q : Int) : 0 ≤ GM S q ∧ GM S q ≤ 20480 := by
  unfold GM
  have hb := sumTo_bd (f := fun a => iv (LOK S (LV (S 0 0 5) a) ∧ reachP (LV (S 0 0 5) q) (LV (S 0 0 5) a)) * mx (COST S (LV (S 0 0 5) a) - CELLS S (LV (S 0 0 5) q))) (n := 256) (B := 80) (fun k _ _ => by
    have := COST_in hW (LV (S 0 0 5) k)
    have := CELLS_in hW (LV (S 0 0 5) q)
    have : 0 ≤ mx (COST S (LV (S 0 0 5) k) - CELLS S (LV (S 0 0 5) q)) ∧ mx (COST S (LV (S 0 0 5) k) - CELLS S (LV (S 0 0 5) q)) ≤ 80 := by unfold mx; split <;> omega
    rcases iv_01 (LOK S (LV (S 0 0 5) k) ∧ reachP (LV (S 0 0 5) q) (LV (S 0 0 5) k)) with e | e <;> rw [e] <;> omega)
  have h0 := sumTo_le (f := fun _ => 0) (h := fun a => iv (LOK S (LV (S 0 0 5) a) ∧ reachP (LV (S 0 0 5) q) (LV (S 0 0 5) a)) * mx (COST S (LV (S 0 0 5) a) - CELLS S (LV (S 0 0 5) q))) (n := 256) (fun k _ _ => by
    have : 0 ≤ mx (COST S (LV (S 0 0 5) k) - CELLS S (LV (S 0 0 5) q)) := by unfold mx; split <;> omega
    rcases iv_01 (LOK S (LV (S 0 0 5) k) ∧ reachP (LV (S 0 0 5) q) (LV (S 0 0 5) k)) with e | e <;> rw [e] <;> omega)
  rw [sumTo_0 (f := fun _ => 0) (fun _ _ _ => rfl)] at h0
  exact ⟨h0, by have := hb.2; omega⟩
theorem adM_in {S : ZT} (hW : WF S) : ∀ n : Nat, n ≤ 256 → -1 ≤ (adM S n).1 ∧ (adM S n).1 ≤ 20480 ∧ 0 ≤ (adM S n).2 ∧ (adM S n).2 < 256
  | 0, _ => ⟨Int.le_refl _, by show (-1 : Int) ≤ 20480; decide, Int.le_refl _, by show (0 : Int) < 256; decide⟩
  | n + 1, h => by
    have ih := adM_in hW n (by omega)
    have := GM_in hW (n : Int)
    unfold adM
    split
    · exact ⟨by show -1 ≤ GM S n; omega, by show GM S n ≤ 20480; omega, by show (0 : Int) ≤ n; omega, by show (n : Int) < 256; omega⟩
    · exact ih
