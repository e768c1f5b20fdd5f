/-! the point moved for a while; sums of children in a row -/
theorem zS_back (Z : ZT) (k : Nat) (i j v : Int) : zS (zS Z k i j v) k i j (Z k i j) = Z := by
  funext k' i' j'
  by_cases e : k' = k
  · subst e
    rw [zS_w, zS_w]
    by_cases e2 : i' = i ∧ j' = j
    · rw [if_pos e2, e2.1, e2.2]
    · rw [if_neg e2, if_neg e2]
  · rw [zS_k e, zS_k e]
theorem RMZ.pt {S Z : ZT} (h : RMZ S Z) {d : Int} (d0 : 0 ≤ d) (d1 : d < 4) (m : Int) : RMZ (zS S 2 d 5 m) (zS Z 31 0 d m) := by
  have s3 : ∀ i, zS S 2 d 5 m 2 i 3 = S 2 i 3 := fun i => by rw [zS_w, if_neg (by omega)]
  have s4 : ∀ i, zS S 2 d 5 m 2 i 4 = S 2 i 4 := fun i => by rw [zS_w, if_neg (by omega)]
  unfold RMZ at *
  simp only [s3, s4, zS_k (show (24 : Nat) ≠ 31 by decide), zS_k (show (25 : Nat) ≠ 31 by decide), zS_k (show (26 : Nat) ≠ 31 by decide), zS_k (show (32 : Nat) ≠ 31 by decide), zS_k (show (28 : Nat) ≠ 31 by decide), zS_k (show (30 : Nat) ≠ 31 by decide), zS_k (show (34 : Nat) ≠ 31 by decide), zS_k (show (35 : Nat) ≠ 31 by decide), zS_k (show (36 : Nat) ≠ 31 by decide), zS_k (show (37 : Nat) ≠ 31 by decide), zS_k (show (38 : Nat) ≠ 31 by decide), zS_k (show (0 : Nat) ≠ 2 by decide), zS_k (show (3 : Nat) ≠ 2 by decide), zS_k (show (5 : Nat) ≠ 2 by decide), zS_k (show (6 : Nat) ≠ 2 by decide), zS_k (show (9 : Nat) ≠ 2 by decide), zS_k (show (11 : Nat) ≠ 2 by decide), zS_k (show (12 : Nat) ≠ 2 by decide), zS_k (show (13 : Nat) ≠ 2 by decide), zS_k (show (14 : Nat) ≠ 2 by decide), zS_k (show (15 : Nat) ≠ 2 by decide)]
  refine ⟨h.1, fun i i0 i1 => ?_, h.2.2⟩
  have := h.2.1 i i0 i1
  refine ⟨this.1, this.2.1, ?_, this.2.2.2⟩
  rw [zS_v, zS_w]
  by_cases e : i = d
  · rw [if_pos e, if_pos ⟨e, rfl⟩]
  · rw [if_neg e, if_neg (fun q => e q.1)]; exact this.2.2.1
theorem RML.pt {cys : Nat → ClassId} {ad : Nat → Int → Nat} {S : ZT} {L : List Nat} {g : Nat → va_E} (h : RML cys ad S L g) (d m : Int) : RML cys ad (zS S 2 d 5 m) L g := by
  unfold RML at *
  simp only [zS_k (show (0 : Nat) ≠ 2 by decide), zS_k (show (6 : Nat) ≠ 2 by decide), zS_k (show (8 : Nat) ≠ 2 by decide)]
  exact h
theorem seen_pt {S : ZT} (hW : WF S) {d m : Int} (d0 : 0 ≤ d) (d1 : d < S 0 0 5) (hm : m ∈ kids S d) {k : Int} (k0 : 0 ≤ k) (k1 : k < S 6 0 3) : seen (zS S 2 d 5 m) k ↔ seen S k ∧ bel S d (S 8 d k) m := by
  have ht := hW.t d0 d1
  have ht1 := ht.1
  have hmm := wk_in ht ht1.2.2.2.2.1 ht1.2.2.2.2.2.1 hm
  have hx := (hW.fk k0 k1).1 d d0 d1
  have s4 : ∀ i, zS S 2 d 5 m 2 i 4 = S 2 i 4 := fun i => by rw [zS_w, if_neg (by omega)]
  have s5 : ∀ i, zS S 2 d 5 m 2 i 5 = if i = d then m else S 2 i 5 := fun i => by
    rw [zS_w]
    by_cases e : i = d
    · rw [if_pos ⟨e, rfl⟩, if_pos e]
    · rw [if_neg (fun q => e q.1), if_neg e]
  have hpb : bel S d (S 8 d k) m → bel S d (S 8 d k) (S 2 d 5) := fun q => by
    have a := hmm.2.1
    have b := hmm.2.2
    refine ⟨by have := q.1; have := a.1; omega, ?_⟩
    rw [show (S 4 d (S 8 d k) - S 4 d (S 2 d 5)).toNat = (S 4 d (S 8 d k) - S 4 d m).toNat + (S 4 d m - S 4 d (S 2 d 5)).toNat by have := q.1; have := a.1; omega, ancF_add, q.2]
    exact a.2
  unfold seen seenT bel
  simp only [s4, s5, zS_k (show (0 : Nat) ≠ 2 by decide), zS_k (show (3 : Nat) ≠ 2 by decide), zS_k (show (4 : Nat) ≠ 2 by decide), zS_k (show (5 : Nat) ≠ 2 by decide), zS_k (show (8 : Nat) ≠ 2 by decide)]
  constructor
  · intro h
    have hd := h d d0 d1
    rw [if_pos rfl] at hd
    refine ⟨fun e e0 e1 => ?_, hd.1⟩
    have he := h e e0 e1
    by_cases z : e = d
    · subst z
      exact ⟨hpb hd.1, hd.2⟩
    · rw [if_neg z] at he; exact he
  · rintro ⟨h, hb⟩ e e0 e1
    have he := h e e0 e1
    by_cases z : e = d
    · subst z
      rw [if_pos rfl]
      exact ⟨hb, he.2⟩
    · rw [if_neg z]; exact he
theorem SUM_pt {S : ZT} (hW : WF S) {d m : Int} (d0 : 0 ≤ d) (d1 : d < S 0 0 5) (hm : m ∈ kids S d) : SUM (zS S 2 d 5 m) = csum S d m := by
  have hf := hW.f
  unfold SUM csum
  rw [zS_k (show (6 : Nat) ≠ 2 by decide)]
  refine sumTo_congr (fun k k0 k1 => ?_)
  have e := propext (seen_pt hW d0 d1 hm k0 (by omega : k < S 6 0 3))
  rw [zS_k (show (9 : Nat) ≠ 2 by decide), e]
noncomputable def SUML (S : ZT) (d : Int) : List Int := (kids S d).map (csum S d)
theorem SUML_len (S : ZT) (d : Int) : (SUML S d).length = (kids S d).length := List.length_map _
theorem SUML_at {S : ZT} {d j : Int} (h0 : 0 ≤ j) (h1 : j < (kids S d).length) : (SUML S d).getD j.toNat 0 = lsum S d j ∧ lsum S d j = csum S d ((kids S d).getD j.toNat 0) := by
  have e : lsum S d j = csum S d ((kids S d).getD j.toNat 0) := by unfold lsum; rw [if_pos ⟨h0, h1⟩]
  refine ⟨?_, e⟩
  rw [e]
  unfold SUML
  rw [List.getD_eq_getElem?_getD, List.getD_eq_getElem?_getD, List.getElem?_map, List.getElem?_eq_getElem (by omega)]
  rfl
theorem getD_set {W : List Int} {j k : Nat} {v : Int} (h : j < W.length) : (W.set j v).getD k 0 = if k = j then v else W.getD k 0 := by
  rw [List.getD_eq_getElem?_getD, List.getD_eq_getElem?_getD, List.getElem?_set]
  by_cases e : k = j
  · subst e; rw [if_pos rfl, if_pos rfl, if_pos h]; rfl
  · rw [if_neg e, if_neg (Ne.symm e)]
theorem ext_getD {W V : List Int} (h : W.length = V.length) (he : ∀ j : Nat, j < V.length → W.getD j 0 = V.getD j 0) : W = V := by
  refine List.ext_getElem h (fun i h1 h2 => ?_)
  have := he i h2
  rw [List.getD_eq_getElem?_getD, List.getD_eq_getElem?_getD, List.getElem?_eq_getElem h1, List.getElem?_eq_getElem h2] at this
  exact this
