/-! the best levels, counted either way -/
theorem adF_skip {S : ZT} : ∀ (j k : Nat), (∀ i : Nat, k ≤ i → i < k + j → ¬ LOK S i) → adF S (k + j) = adF S k
  | 0, _, _ => rfl
  | j + 1, k, h => by
    have ih := adF_skip j k (fun i a b => h i a (by omega))
    show @ite _ (LOK S ((k + j : Nat) : Int) ∧ (adF S (k + j)).1 < GAIN S ((k + j : Nat) : Int)) (Classical.propDecidable _) (GAIN S ((k + j : Nat) : Int), ((k + j : Nat) : Int)) (adF S (k + j)) = _
    rw [if_neg (fun z => h (k + j) (by omega) (by omega) z.1), ih]
theorem adM_skip {S : ZT} : ∀ (j k : Nat), (∀ i : Nat, k ≤ i → i < k + j → ¬ LOK S (LV (S 0 0 5) i)) → adM S (k + j) = adM S k
  | 0, _, _ => rfl
  | j + 1, k, h => by
    have ih := adM_skip j k (fun i a b => h i a (by omega))
    show @ite _ (LOK S (LV (S 0 0 5) ((k + j : Nat) : Int)) ∧ (adM S (k + j)).1 < GM S ((k + j : Nat) : Int)) (Classical.propDecidable _) (GM S ((k + j : Nat) : Int), ((k + j : Nat) : Int)) (adM S (k + j)) = _
    rw [if_neg (fun z => h (k + j) (by omega) (by omega) z.1), ih]
theorem ad_mul {S : ZT} (hW : WF S) {c : Nat} (hc : 0 < c) (hLV : ∀ M, LV (S 0 0 5) M = M * c) (hz : ∀ M k : Int, 0 ≤ M → 0 < k → k < c → ¬ LOK S (M * c + k)) : ∀ N : Nat, (adF S (N * c)).1 = (adM S N).1 ∧ (adF S (N * c)).2 = LV (S 0 0 5) (adM S N).2
  | 0 => by
    rw [Nat.zero_mul]
    refine ⟨rfl, ?_⟩
    show (0 : Int) = LV _ 0
    rw [hLV, Int.zero_mul]
  | N + 1 => by
    have ih := ad_mul hW hc hLV hz N
    have h1 : adF S ((N + 1) * c) = adF S (N * c + 1) := by
      rw [Nat.succ_mul, show N * c + c = N * c + 1 + (c - 1) by omega]
      refine adF_skip _ _ (fun i a b => ?_)
      have := hz N ((i : Int) - N * c) (by omega) (by rw [← Int.natCast_mul]; omega) (by rw [← Int.natCast_mul]; omega)
      rw [show (N : Int) * c + ((i : Int) - N * c) = i by omega] at this
      exact this
    rw [h1]
    have hcast : ((N * c : Nat) : Int) = LV (S 0 0 5) N := by rw [hLV, Int.natCast_mul]
    show (@ite _ (LOK S ((N * c : Nat) : Int) ∧ (adF S (N * c)).1 < GAIN S ((N * c : Nat) : Int)) (Classical.propDecidable _) (GAIN S ((N * c : Nat) : Int), ((N * c : Nat) : Int)) (adF S (N * c))).1 = (@ite _ (LOK S (LV (S 0 0 5) (N : Int)) ∧ (adM S N).1 < GM S (N : Int)) (Classical.propDecidable _) (GM S (N : Int), (N : Int)) (adM S N)).1 ∧ (@ite _ (LOK S ((N * c : Nat) : Int) ∧ (adF S (N * c)).1 < GAIN S ((N * c : Nat) : Int)) (Classical.propDecidable _) (GAIN S ((N * c : Nat) : Int), ((N * c : Nat) : Int)) (adF S (N * c))).2 = LV (S 0 0 5) (@ite _ (LOK S (LV (S 0 0 5) (N : Int)) ∧ (adM S N).1 < GM S (N : Int)) (Classical.propDecidable _) (GM S (N : Int), (N : Int)) (adM S N)).2
    rw [hcast]
    by_cases hl : LOK S (LV (S 0 0 5) N)
    · have hg := GM_GAIN hW (q := N) (by omega) hl
      by_cases hb : (adF S (N * c)).1 < GAIN S (LV (S 0 0 5) N)
      · rw [if_pos ⟨hl, hb⟩, if_pos ⟨hl, by rw [hg, ← ih.1]; exact hb⟩]
        exact ⟨hg.symm, rfl⟩
      · rw [if_neg (fun z => hb z.2), if_neg (fun z => hb (by have := z.2; rw [hg, ← ih.1] at this; exact this))]
        exact ih
    · rw [if_neg (fun z => hl z.1), if_neg (fun z => hl z.1)]
      exact ih
theorem adv_eq {S : ZT} (hW : WF S) {c N : Nat} (hc : 0 < c) (hN : N * c = 256) (hLV : ∀ M, LV (S 0 0 5) M = M * c) (hz : ∀ M k : Int, 0 ≤ M → 0 < k → k < c → ¬ LOK S (M * c + k)) : (adF S 256).1 = (adM S 256).1 ∧ (adF S 256).2 = LV (S 0 0 5) (adM S 256).2 := by
  have h := ad_mul hW hc hLV hz N
  have hNle : N ≤ 256 := by rw [← hN]; exact Nat.le_mul_of_pos_right N hc
  have hNc : (N : Int) * c = 256 := by rw [← Int.natCast_mul, hN]; rfl
  have hs := adM_skip (S := S) (256 - N) N (fun i a b hl => by
    have := hl.2.1
    rw [hLV] at this
    have : (N : Int) * c ≤ (i : Int) * c := Int.mul_le_mul_of_nonneg_right (by omega) (by omega)
    omega)
  rw [show N + (256 - N) = 256 by omega] at hs
  rw [hs, ← hN]
  exact h
theorem ADV {S : ZT} (hW : WF S) : (adF S 256).1 = (adM S 256).1 ∧ (adF S 256).2 = LV (S 0 0 5) (adM S 256).2 := by
  have hn := hW.n
  have hu : ∀ d, S 0 0 5 ≤ d → d < 4 → S 2 d 3 = 0 := fun d a b => (hW.2.2.1 d a b).1
  have key : ∀ L, LOK S L → ∀ d, S 0 0 5 ≤ d → 0 ≤ d → d < 4 → lvl L d = 0 := fun L h d a d0 b => by
    have h1 := h.2.2 d d0 b
    have h2 := hu d a b
    have h3 := lvl_in L d
    omega
  rcases n4 hn.1 hn.2 with ⟨e0, e⟩ | ⟨e0, e⟩ | ⟨e0, e⟩ | ⟨e0, e⟩ | ⟨e0, e⟩
  · refine adv_eq hW (c := 256) (N := 1) (by decide) rfl (fun M => e M) (fun M k m0 k0 k1 h => ?_)
    have a0 := key _ h 0 (by omega) (by omega) (by omega)
    have a1 := key _ h 1 (by omega) (by omega) (by omega)
    have a2 := key _ h 2 (by omega) (by omega) (by omega)
    have a3 := key _ h 3 (by omega) (by omega) (by omega)
    unfold lvl at a0 a1 a2 a3; simp at a0 a1 a2 a3; omega
  · refine adv_eq hW (c := 64) (N := 4) (by decide) rfl (fun M => e M) (fun M k m0 k0 k1 h => ?_)
    have a1 := key _ h 1 (by omega) (by omega) (by omega)
    have a2 := key _ h 2 (by omega) (by omega) (by omega)
    have a3 := key _ h 3 (by omega) (by omega) (by omega)
    unfold lvl at a1 a2 a3; simp at a1 a2 a3; omega
  · refine adv_eq hW (c := 16) (N := 16) (by decide) rfl (fun M => e M) (fun M k m0 k0 k1 h => ?_)
    have a2 := key _ h 2 (by omega) (by omega) (by omega)
    have a3 := key _ h 3 (by omega) (by omega) (by omega)
    unfold lvl at a2 a3; simp at a2 a3; omega
  · refine adv_eq hW (c := 4) (N := 64) (by decide) rfl (fun M => e M) (fun M k m0 k0 k1 h => ?_)
    have a3 := key _ h 3 (by omega) (by omega) (by omega)
    unfold lvl at a3; simp at a3; omega
  · refine adv_eq hW (c := 1) (N := 256) (by decide) rfl (fun M => by rw [e]; simp) (fun M k m0 k0 k1 h => ?_)
    omega
