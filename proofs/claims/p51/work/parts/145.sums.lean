/-! sums, children, tables: what they are -/
noncomputable def CNT (S : ZT) : Int := sumTo (fun k => iv (seen S k)) (S 6 0 3).toNat
noncomputable def SUM (S : ZT) : Int := sumTo (fun k => iv (seen S k) * S 9 0 k) (S 6 0 3).toNat
def kids (S : ZT) (d : Int) : List Int := wk S d (S 2 d 5) (S 4 d (S 2 d 5) + 1)
noncomputable def csum (S : ZT) (d w : Int) : Int := sumTo (fun k => iv (seen S k ∧ bel S d (S 8 d k) w) * S 9 0 k) (S 6 0 3).toNat
noncomputable def lsum (S : ZT) (d : Int) : Int → Int := fun j => if 0 ≤ j ∧ j < (kids S d).length then csum S d ((kids S d).getD j.toNat 0) else 0
theorem ivm_bd {S : ZT} (h : WF S) (p : Int → Prop) {n : Nat} (hn : (n : Int) ≤ S 6 0 3) : -(10000 * n) ≤ sumTo (fun k => iv (p k) * S 9 0 k) n ∧ sumTo (fun k => iv (p k) * S 9 0 k) n ≤ 10000 * n :=
  sumTo_bd (fun k h0 h1 => by
    have := (h.fk h0 (by omega)).2
    rcases iv_01 (p k) with e | e <;> rw [e] <;> omega)
theorem csum_bd {S : ZT} (h : WF S) (d w : Int) : -800000 ≤ csum S d w ∧ csum S d w ≤ 800000 := by
  have hf := h.f
  have := ivm_bd h (fun k => seen S k ∧ bel S d (S 8 d k) w) (n := (S 6 0 3).toNat) (by omega)
  unfold csum
  try simp only at this ⊢
  omega
theorem SUM_bd {S : ZT} (h : WF S) : -800000 ≤ SUM S ∧ SUM S ≤ 800000 := by
  have hf := h.f
  have := ivm_bd h (fun k => seen S k) (n := (S 6 0 3).toNat) (by omega)
  unfold SUM
  try simp only at this ⊢
  omega
theorem CNT_bd {S : ZT} (h : WF S) : 0 ≤ CNT S ∧ CNT S ≤ 80 := by
  have hf := h.f
  have := sumTo_iv (fun k => seen S k) (S 6 0 3).toNat
  unfold CNT
  omega
theorem lsum_bd {S : ZT} (h : WF S) (d j : Int) : -800000 ≤ lsum S d j ∧ lsum S d j ≤ 800000 := by
  unfold lsum
  split
  · exact csum_bd h _ _
  · omega
theorem bel_abv {S : ZT} {d m w lv : Int} (hw : S 4 d w = lv) (hl : lv ≤ S 4 d m) : bel S d m w ↔ abv S d m lv = w := by
  unfold bel abv
  rw [hw]
  exact ⟨fun h => h.2, fun h => ⟨hl, h⟩⟩
theorem nd_inj {l : List Int} (h : l.Nodup) : ∀ {i j : Nat} {x : Int}, l[i]? = some x → l[j]? = some x → i = j := by
  induction l with
  | nil => intro i j x hi; simp at hi
  | cons a r ih =>
    have hr := List.nodup_cons.mp h
    intro i j x hi hj
    cases i with
    | zero =>
      cases j with
      | zero => rfl
      | succ j =>
        simp only [List.getElem?_cons_zero, List.getElem?_cons_succ] at hi hj
        cases hi
        exact absurd (List.mem_of_getElem? hj) hr.1
    | succ i =>
      cases j with
      | zero =>
        simp only [List.getElem?_cons_zero, List.getElem?_cons_succ] at hi hj
        cases hj
        exact absurd (List.mem_of_getElem? hi) hr.1
      | succ j =>
        simp only [List.getElem?_cons_succ] at hi hj
        rw [ih hr.2 hi hj]
theorem wk_nd {S : ZT} {d top : Int} (lv : Int) (h : TOK S d) (h0 : 0 ≤ top) (h1 : top < S 2 d 4) : (wk S d top lv).Nodup := (pre_nd h _ top h0 h1 rfl).filter _
theorem LST.at {Z : ZT} {i : Int} {W : List Int} (h : LST Z i W) {j : Int} (h0 : 0 ≤ j) (h1 : j < W.length) : W[j.toNat]? = some (Z 17 i j) ∧ Z 17 i j ∈ W ∧ W.getD j.toNat 0 = Z 17 i j := by
  have := h.2 j.toNat (by omega)
  rw [Int.toNat_of_nonneg h0] at this
  refine ⟨this, List.mem_of_getElem? this, ?_⟩
  rw [List.getD_eq_getElem?_getD, this]
  rfl
theorem LST.of {Z Y : ZT} {i : Int} {W : List Int} (h : LST Z i W) (e1 : Y 16 i 1 = Z 16 i 1) (e2 : Y 17 i = Z 17 i) : LST Y i W := ⟨by rw [e1]; exact h.1, fun j hj => by rw [e2]; exact h.2 j hj⟩
theorem LST.idx {Z : ZT} {i : Int} {W : List Int} (h : LST Z i W) {x : Int} (hx : x ∈ W) : ∃ j : Int, 0 ≤ j ∧ j < W.length ∧ Z 17 i j = x := by
  obtain ⟨n, hn⟩ := List.getElem?_of_mem hx
  have hl := (List.getElem?_eq_some_iff.mp hn).1
  have := h.2 n hl
  rw [hn] at this
  exact ⟨n, by omega, by omega, (Option.some.inj this).symm⟩
/-- the place where a member is found -/
theorem LST.found {Z : ZT} {i : Int} {W : List Int} (h : LST Z i W) {r x : Int} (hr : (0 ≤ r ∧ r < Z 16 i 1 ∧ Z 17 i r = x ∧ ∀ j, 0 ≤ j → j < r → Z 17 i j ≠ x) ∨ (r = -1 ∧ ∀ j, 0 ≤ j → j < Z 16 i 1 → Z 17 i j ≠ x)) : (0 ≤ r ∧ r < W.length ∧ W.getD r.toNat 0 = x ∧ x ∈ W) ∨ (r = -1 ∧ x ∉ W) := by
  rcases hr with w | w
  · have hl : r < W.length := by have := h.1; omega
    have := h.at w.1 hl
    rw [w.2.2.1] at this
    exact Or.inl ⟨w.1, hl, this.2.2, this.2.1⟩
  · refine Or.inr ⟨w.1, fun hx => ?_⟩
    obtain ⟨j, j0, j1, j2⟩ := h.idx hx
    exact w.2 j j0 (by have := h.1; omega) j2
theorem ahd_congr {s t : Int → Int} {c : Int} {n : Nat} (h : ∀ j : Int, 0 ≤ j → j < n → s j = t j) (hc : 0 ≤ c) (hc2 : c < n) : ahd s c n = ahd t c n := by
  unfold ahd
  refine sumTo_congr (fun k h0 h1 => ?_)
  rw [h k h0 h1, h c hc hc2]
/-- the lines of an axis: all, and those that are shown -/
def allL (S : ZT) (i : Int) : List Int := wk S (S 15 i 4) (S 2 (S 15 i 4) 5) (S 15 i 5)
def usedP (S : ZT) (i m : Int) : Prop := ∃ k, 0 ≤ k ∧ k < S 6 0 3 ∧ seen S k ∧ bel S (S 15 i 4) (S 8 (S 15 i 4) k) m ∧ ∃ w, w ∈ allL S (1 - i) ∧ bel S (S 15 (1 - i) 4) (S 8 (S 15 (1 - i) 4) k) w
noncomputable def LN (S : ZT) (i : Int) : List Int := (allL S i).filter (fun m => @decide (S 0 0 8 = 0 ∨ usedP S i m) (Classical.propDecidable _))
noncomputable def tsum (S : ZT) (r w : Int) : Int := sumTo (fun k => iv (seen S k ∧ bel S (S 15 0 4) (S 8 (S 15 0 4) k) r ∧ bel S (S 15 1 4) (S 8 (S 15 1 4) k) w) * S 9 0 k) (S 6 0 3).toNat
theorem tsum_bd {S : ZT} (h : WF S) (r w : Int) : -800000 ≤ tsum S r w ∧ tsum S r w ≤ 800000 := by
  have hf := h.f
  have := ivm_bd h (fun k => seen S k ∧ bel S (S 15 0 4) (S 8 (S 15 0 4) k) r ∧ bel S (S 15 1 4) (S 8 (S 15 1 4) k) w) (n := (S 6 0 3).toNat) (by omega)
  unfold tsum
  try simp only at this ⊢
  omega
theorem allL_ok {S : ZT} (h : WF S) (ha : S 0 0 7 = 1) {i : Int} (h0 : 0 ≤ i) (h1 : i < 2) : ((allL S i).length : Int) ≤ 24 ∧ (allL S i).Nodup ∧ ∀ x ∈ allL S i, (0 ≤ x ∧ x < S 2 (S 15 i 4) 4) ∧ S 4 (S 15 i 4) x = S 15 i 5 := by
  have a := h.ai ha h0 h1
  have t := h.t a.1 a.2.1
  have p := t.1
  have := wk_len (S 15 i 5) t p.2.2.2.2.1 p.2.2.2.2.2.1
  refine ⟨by unfold allL; omega, wk_nd _ t p.2.2.2.2.1 p.2.2.2.2.2.1, fun x hx => ?_⟩
  have := wk_in t p.2.2.2.2.1 p.2.2.2.2.2.1 hx
  exact ⟨this.1, this.2.2⟩
/-- a table that has been laid -/
def TAB (S Z : ZT) : Prop := SP S Z ∧ (∀ i, 0 ≤ i → i < 2 → LST Z i (allL S i) ∧ Z 15 i 3 = (LN S i).length ∧ ∀ j : Int, 0 ≤ j → j < Z 15 i 3 → 0 ≤ Z 19 i j ∧ Z 19 i j < (allL S i).length ∧ (LN S i).getD j.toNat 0 = (allL S i).getD (Z 19 i j).toNat 0) ∧
  ∀ r w : Int, 0 ≤ r → r < (allL S 0).length → 0 ≤ w → w < (allL S 1).length → Z 23 r w = tsum S ((allL S 0).getD r.toNat 0) ((allL S 1).getD w.toNat 0)
/-- the shown places are the shown lines -/
theorem shw_ln {u : Int → Int} {b : Int} (P : Int → Prop) : ∀ (W : List Int) (n : Nat), n ≤ W.length → (∀ j : Nat, j < n → ((u j = 1 ∨ b = 0) ↔ P (W.getD j 0))) → (shwF u b n).map (fun j => W.getD j.toNat 0) = (W.take n).filter (fun m => @decide (P m) (Classical.propDecidable _)) := by
  intro W n
  induction n with
  | zero => intro _ _; rfl
  | succ n ih =>
    intro hn h
    have h1 := ih (by omega) (fun j hj => h j (by omega))
    have hx : W.take (n + 1) = W.take n ++ [W.getD n 0] := by
      rw [List.take_succ, List.getD_eq_getElem?_getD, List.getElem?_eq_getElem (by omega)]
      rfl
    rw [hx, List.filter_append]
    show (shwF u b n ++ _).map _ = _
    rw [List.map_append, h1]
    congr 1
    have hp := h n (by omega)
    by_cases e : u n = 1 ∨ b = 0
    · rw [if_pos e, List.filter_cons_of_pos (by simpa using hp.mp e)]
      simp
    · rw [if_neg e, List.filter_cons_of_neg (by simpa using fun q => e (hp.mpr q))]
      rfl
