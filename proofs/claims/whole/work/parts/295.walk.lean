/-! the walk, list by list; a row with a list put into it -/
def PutL (W : List Int) (b : Nat) (V : List Int) : List Int := W.take b ++ V ++ W.drop (b + V.length)
theorem PutL_0 (W : List Int) (b : Nat) : PutL W b [] = W := by
  unfold PutL
  rw [List.append_nil]
  exact List.take_append_drop b W
theorem PutL_len {W : List Int} {b : Nat} {V : List Int} (h : b + V.length ≤ W.length) : (PutL W b V).length = W.length := by
  unfold PutL
  rw [List.length_append, List.length_append, List.length_take, List.length_drop]
  omega
theorem PutL_1 {W : List Int} {b v : Int} (h : 0 ≤ b ∧ b < W.length) : PutL W b.toNat [v] = W.set b.toNat v := by
  unfold PutL
  rw [List.set_eq_take_append_cons_drop, if_pos (by omega)]
  simp
theorem PutL_PutL {W V U : List Int} {b c : Nat} (hc : c = b + V.length) (h : c + U.length ≤ W.length) : PutL (PutL W b V) c U = PutL W b (V ++ U) := by
  subst hc
  have h1 : (W.take b ++ V).length = b + V.length := by rw [List.length_append, List.length_take]; omega
  unfold PutL
  rw [List.take_append_of_le_length (by omega), List.take_of_length_le (by omega), List.drop_append, List.drop_eq_nil_of_le (by omega), List.nil_append, List.drop_drop, h1, List.append_assoc, List.append_assoc, List.append_assoc, List.append_assoc, List.length_append]
  congr 3
  congr 1
  omega
theorem va_up_up {α : Type} (f : Nat → α) (k : Nat) (v w : α) : va_up (va_up f k v) k w = va_up f k w := by
  funext j
  unfold va_up
  split <;> rfl
theorem va_up_id {α : Type} (f : Nat → α) (k : Nat) : va_up f k (f k) = f := by
  funext j
  unfold va_up
  split
  · rename_i h; rw [h]
  · rfl
theorem sibG_filter {par : Int → Int} {f : Int → List Int} {p : Int} (P : Int → Bool) : ∀ (n : Nat) (k : Int), (sibG par f p n k).filter P = sibG par (fun x => (f x).filter P) p n k
  | 0, _ => rfl
  | n + 1, k => by
    show (_ ++ _ : List Int).filter P = _ ++ _
    rw [List.filter_append, sibG_filter P n (k + 1)]
    congr 1
    split <;> rfl
theorem wk_eq {S : ZT} {d m lv : Int} (h : TOK S d) (h0 : 0 ≤ m) (h1 : m < S 2 d 4) (e : S 4 d m = lv) : wk S d m lv = [m] := by
  unfold wk
  rw [pre_unf h h0 h1, List.filter_cons_of_pos (by simp [e])]
  congr 1
  refine List.filter_eq_nil_iff.mpr (fun x hx => ?_)
  obtain ⟨k, k0, k1, k2, k3⟩ := sibG_mem _ _ hx
  have a := pre_mem h k0 (by omega) k3
  have b := (bel_up h h0 k0 (by omega) k2 a.2).2
  simp only [decide_eq_true_eq]
  omega
theorem wk_ne {S : ZT} {d m lv : Int} (h : TOK S d) (h0 : 0 ≤ m) (h1 : m < S 2 d 4) (e : ¬ S 4 d m = lv) : wk S d m lv = sibG (S 3 d) (fun x => wk S d x lv) m (S 2 d 4 - 1).toNat 1 := by
  unfold wk
  rw [pre_unf h h0 h1, List.filter_cons_of_neg (by simp [e])]
  unfold sibs
  rw [sibG_filter, show (S 2 d 4 - 0).toNat = (S 2 d 4 - 1).toNat + 1 by omega]
  show (if S 3 d 0 = m then _ else []) ++ _ = _
  rw [if_neg (by have := h.1; omega), List.nil_append]
  rfl
