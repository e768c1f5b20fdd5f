/-! a table while it is laid -/
theorem shw_tab {W : List Int} {u V : Int → Int} {b V3 : Int} (P : Int → Prop) (h : ∀ j : Int, 0 ≤ j → j < W.length → ((u j = 1 ∨ b = 0) ↔ P (W.getD j.toNat 0))) (h3 : V3 = (shwF u b W.length).length) (hV : ∀ j : Nat, j < (shwF u b W.length).length → (shwF u b W.length)[j]? = some (V j)) :
    V3 = (W.filter (fun m => @decide (P m) (Classical.propDecidable _))).length ∧ ∀ j : Int, 0 ≤ j → j < V3 → 0 ≤ V j ∧ V j < W.length ∧ (W.filter (fun m => @decide (P m) (Classical.propDecidable _))).getD j.toNat 0 = W.getD (V j).toNat 0 := by
  have e := shw_ln (u := u) (b := b) P W W.length (Nat.le_refl _) (fun j hj => by have := h j (by omega) (by omega); simpa using this)
  rw [List.take_length] at e
  refine ⟨by rw [← e, List.length_map]; exact h3, fun j j0 j1 => ?_⟩
  have a := hV j.toNat (by omega)
  rw [Int.toNat_of_nonneg j0] at a
  have m := shwF_in (List.mem_of_getElem? a)
  refine ⟨m.1, m.2.1, ?_⟩
  rw [← e, List.getD_eq_getElem?_getD, List.getElem?_map, a]
  rfl
def usedA (S : ZT) (i o a m : Int) : Prop := ∃ k, 0 ≤ k ∧ k < a ∧ seen S k ∧ bel S (S 15 i 4) (S 8 (S 15 i 4) k) m ∧ ∃ w, w ∈ allL S o ∧ bel S (S 15 o 4) (S 8 (S 15 o 4) k) w
theorem usedA_s {S : ZT} {i o a m : Int} (h : 0 ≤ a) : usedA S i o (a + 1) m ↔ usedA S i o a m ∨ (seen S a ∧ bel S (S 15 i 4) (S 8 (S 15 i 4) a) m ∧ ∃ w, w ∈ allL S o ∧ bel S (S 15 o 4) (S 8 (S 15 o 4) a) w) := by
  constructor
  · rintro ⟨k, k0, k1, k2⟩
    by_cases e : k = a
    · subst e; exact Or.inr k2
    · exact Or.inl ⟨k, k0, by omega, k2⟩
  · rintro (⟨k, k0, k1, k2⟩ | q)
    · exact ⟨k, k0, by omega, k2⟩
    · exact ⟨a, h, by omega, q⟩
def psum (S : ZT) (r w : Int) (n : Nat) : Int → Prop := fun z => z = sumTo (fun k => iv (seen S k ∧ bel S (S 15 0 4) (S 8 (S 15 0 4) k) r ∧ bel S (S 15 1 4) (S 8 (S 15 1 4) k) w) * S 9 0 k) n
/-- with the facts ahead of a laid -/
def LAY (S Y : ZT) (a : Int) : Prop := SP S Y ∧ LST Y 0 (allL S 0) ∧ LST Y 1 (allL S 1) ∧
  (∀ r w : Int, 0 ≤ r → r < (allL S 0).length → 0 ≤ w → w < (allL S 1).length → psum S ((allL S 0).getD r.toNat 0) ((allL S 1).getD w.toNat 0) a.toNat (Y 23 r w)) ∧
  (∀ i j, 0 ≤ i → i < 2 → 0 ≤ j → j < 24 → Y 18 i j = 0 ∨ Y 18 i j = 1) ∧
  (∀ j : Int, 0 ≤ j → j < (allL S 0).length → (Y 18 0 j = 1 ↔ usedA S 0 1 a ((allL S 0).getD j.toNat 0))) ∧
  (∀ j : Int, 0 ≤ j → j < (allL S 1).length → (Y 18 1 j = 1 ↔ usedA S 1 0 a ((allL S 1).getD j.toNat 0)))
theorem getD_mem {W : List Int} {j : Int} (h0 : 0 ≤ j) (h1 : j < W.length) : W.getD j.toNat 0 ∈ W := by
  rw [List.getD_eq_getElem?_getD, List.getElem?_eq_getElem (by omega)]
  exact List.getElem_mem _
theorem getD_inj {W : List Int} (hn : W.Nodup) {i j : Int} (i0 : 0 ≤ i) (i1 : i < W.length) (j0 : 0 ≤ j) (j1 : j < W.length) (e : W.getD i.toNat 0 = W.getD j.toNat 0) : i = j := by
  rw [List.getD_eq_getElem?_getD, List.getD_eq_getElem?_getD, List.getElem?_eq_getElem (by omega), List.getElem?_eq_getElem (by omega)] at e
  have := nd_inj hn (List.getElem?_eq_getElem (l := W) (i := i.toNat) (by omega)) (by rw [Option.getD_some, Option.getD_some] at e; rw [e]; exact List.getElem?_eq_getElem (l := W) (i := j.toNat) (by omega))
  omega
/-- a fact that goes into no cell -/
theorem LAY.none {S Y : ZT} {a : Int} (h : LAY S Y a) (h0 : 0 ≤ a) (hn : ¬ seen S a ∨ (∀ m ∈ allL S 0, ¬ bel S (S 15 0 4) (S 8 (S 15 0 4) a) m) ∨ (∀ m ∈ allL S 1, ¬ bel S (S 15 1 4) (S 8 (S 15 1 4) a) m)) : LAY S Y (a + 1) := by
  obtain ⟨h1, h2, h3, h4, h5, h6, h7⟩ := h
  refine ⟨h1, h2, h3, fun r w r0 r1 w0 w1 => ?_, h5, fun j j0 j1 => ?_, fun j j0 j1 => ?_⟩
  · unfold psum
    rw [sumTo_s h0, iv_f, Int.zero_mul, Int.add_zero]
    · exact h4 r w r0 r1 w0 w1
    · rintro ⟨q1, q2, q3⟩
      rcases hn with q | q | q
      · exact q q1
      · exact q _ (getD_mem r0 r1) q2
      · exact q _ (getD_mem w0 w1) q3
  · rw [usedA_s h0, h6 j j0 j1]
    refine ⟨Or.inl, fun q => q.elim id ?_⟩
    rintro ⟨q1, q2, w, q3, q4⟩
    rcases hn with q | q | q
    · exact absurd q1 q
    · exact absurd q2 (q _ (getD_mem j0 j1))
    · exact absurd q4 (q w q3)
  · rw [usedA_s h0, h7 j j0 j1]
    refine ⟨Or.inl, fun q => q.elim id ?_⟩
    rintro ⟨q1, q2, w, q3, q4⟩
    rcases hn with q | q | q
    · exact absurd q1 q
    · exact absurd q4 (q w q3)
    · exact absurd q2 (q _ (getD_mem j0 j1))
/-- a fact that goes into a cell -/
theorem LAY.some {S Y : ZT} {a r0 w0 : Int} (h : LAY S Y a) (h0 : 0 ≤ a) (hs : seen S a) (n0 : (allL S 0).Nodup) (n1 : (allL S 1).Nodup)
    (hr : 0 ≤ r0 ∧ r0 < (allL S 0).length ∧ bel S (S 15 0 4) (S 8 (S 15 0 4) a) ((allL S 0).getD r0.toNat 0) ∧ ∀ m ∈ allL S 0, bel S (S 15 0 4) (S 8 (S 15 0 4) a) m → m = (allL S 0).getD r0.toNat 0)
    (hw : 0 ≤ w0 ∧ w0 < (allL S 1).length ∧ bel S (S 15 1 4) (S 8 (S 15 1 4) a) ((allL S 1).getD w0.toNat 0) ∧ ∀ m ∈ allL S 1, bel S (S 15 1 4) (S 8 (S 15 1 4) a) m → m = (allL S 1).getD w0.toNat 0) :
    LAY S (zS (zS (zS Y 23 r0 w0 (Y 23 r0 w0 + S 9 0 a)) 18 0 r0 1) 18 1 w0 1) (a + 1) := by
  obtain ⟨h1, h2, h3, h4, h5, h6, h7⟩ := h
  refine ⟨⟨fun k hk => ?_, fun i => ?_⟩, ?_, ?_, fun r w q0 q1 q2 q3 => ?_, fun i j i0 i1 j0 j1 => ?_, fun j j0 j1 => ?_, fun j j0 j1 => ?_⟩
  · rw [zS_k (by rintro rfl; cases hk), zS_k (by rintro rfl; cases hk), zS_k (by rintro rfl; cases hk)]; exact h1.1 k hk
  · rw [zS_k (by decide), zS_k (by decide), zS_k (by decide)]; exact h1.2 i
  · exact h2.of (by rw [zS_k (by decide), zS_k (by decide), zS_k (by decide)]) (by rw [zS_k (by decide), zS_k (by decide), zS_k (by decide)])
  · exact h3.of (by rw [zS_k (by decide), zS_k (by decide), zS_k (by decide)]) (by rw [zS_k (by decide), zS_k (by decide), zS_k (by decide)])
  · unfold psum
    rw [sumTo_s h0, zS_k (by decide), zS_k (by decide)]
    have hp := h4 r w q0 q1 q2 q3
    unfold psum at hp
    by_cases e : r = r0
    · subst e
      rw [zS_v]
      by_cases e2 : w = w0
      · subst e2
        rw [if_pos rfl, hp, iv_t ⟨hs, hr.2.2.1, hw.2.2.1⟩, Int.one_mul]
      · rw [if_neg e2, hp, iv_f, Int.zero_mul, Int.add_zero]
        rintro ⟨-, -, z⟩
        exact e2 (getD_inj n1 q2 q3 hw.1 hw.2.1 (hw.2.2.2 _ (getD_mem q2 q3) z))
    · rw [zS_o (fun z => e z.2), hp, iv_f, Int.zero_mul, Int.add_zero]
      rintro ⟨-, z, -⟩
      exact e (getD_inj n0 q0 q1 hr.1 hr.2.1 (hr.2.2.2 _ (getD_mem q0 q1) z))
  · have := h5 i j i0 i1 j0 j1
    by_cases e1 : i = 1
    · subst e1
      rw [zS_v, zS_o (by omega), zS_k (by decide)]
      split
      · exact Or.inr rfl
      · exact this
    · have e0 : i = 0 := by omega
      subst e0
      rw [zS_o (by omega), zS_v, zS_k (by decide)]
      split
      · exact Or.inr rfl
      · exact this
  · rw [usedA_s h0, zS_o (by omega), zS_v, zS_k (by decide), ← h6 j j0 j1]
    by_cases e : j = r0
    · subst e
      rw [if_pos rfl]
      exact ⟨fun _ => Or.inr ⟨hs, hr.2.2.1, _, getD_mem hw.1 hw.2.1, hw.2.2.1⟩, fun _ => rfl⟩
    · rw [if_neg e]
      refine ⟨Or.inl, fun q => q.elim id ?_⟩
      rintro ⟨-, q2, -⟩
      exact absurd (getD_inj n0 j0 j1 hr.1 hr.2.1 (hr.2.2.2 _ (getD_mem j0 j1) q2)) e
  · rw [usedA_s h0, zS_v, zS_o (by omega), zS_k (by decide), ← h7 j j0 j1]
    by_cases e : j = w0
    · subst e
      rw [if_pos rfl]
      exact ⟨fun _ => Or.inr ⟨hs, hw.2.2.1, _, getD_mem hr.1 hr.2.1, hr.2.2.1⟩, fun _ => rfl⟩
    · rw [if_neg e]
      refine ⟨Or.inl, fun q => q.elim id ?_⟩
      rintro ⟨-, q2, -⟩
      exact absurd (getD_inj n1 j0 j1 hw.1 hw.2.1 (hw.2.2.2 _ (getD_mem j0 j1) q2)) e
