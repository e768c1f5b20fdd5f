/-! by program: wip/p51/gens.py: the memory behind the constructor -/
def ixT : List (List Nat) := [[0], [1], [55, 59, 63, 67], [56, 60, 64, 68], [57, 61, 65, 69], [58, 62, 66, 70], [2], [3], [4, 5, 6, 7], [8], [9], [10], [11], [12], [13], [14, 19], [15, 20, 24, 27], [16, 21, 25, 28], [17, 22], [18, 23], [26], [29], [30], [31, 32, 33, 34, 35, 36, 37, 38, 39, 40, 41, 42, 43, 44, 45, 46, 47, 48, 49, 50, 51, 52, 53, 54]]
def ix (k : Nat) (i : Int) : Nat := (ixT.getD k []).getD i.toNat 0
def xiT : List (Nat × Int) := [(0, 0), (1, 0), (6, 0), (7, 0), (8, 0), (8, 1), (8, 2), (8, 3), (9, 0), (10, 0), (11, 0), (12, 0), (13, 0), (14, 0), (15, 0), (16, 0), (17, 0), (18, 0), (19, 0), (15, 1), (16, 1), (17, 1), (18, 1), (19, 1), (16, 2), (17, 2), (20, 0), (16, 3), (17, 3), (21, 0), (22, 0), (23, 0), (23, 1), (23, 2), (23, 3), (23, 4), (23, 5), (23, 6), (23, 7), (23, 8), (23, 9), (23, 10), (23, 11), (23, 12), (23, 13), (23, 14), (23, 15), (23, 16), (23, 17), (23, 18), (23, 19), (23, 20), (23, 21), (23, 22), (23, 23), (2, 0), (3, 0), (4, 0), (5, 0), (2, 1), (3, 1), (4, 1), (5, 1), (2, 2), (3, 2), (4, 2), (5, 2), (2, 3), (3, 3), (4, 3), (5, 3)]
def xi (n : Nat) : Nat × Int := xiT.getD n (0, 0)
theorem ix_ok : ∀ k : Nat, k < 24 → ∀ j : Nat, j < 24 → (j : Int) < vK k → ix k j < 71 ∧ xi (ix k j) = (k, (j : Int)) := by decide +kernel
theorem vK_in {k : Nat} {i : Int} (h : vd k i) : k < 24 ∧ i.toNat < 24 := by
  have h1 : ∀ k, k < 24 → vK k ≤ 24 := by decide +kernel
  by_cases e : k < 24
  · have := h1 k e
    have h0 : 0 ≤ i := h.1
    have h2 : i < vK k := h.2
    exact ⟨e, by omega⟩
  · exfalso
    have h0 : 0 ≤ i := h.1
    have h2 : i < vK k := h.2
    have h3 : vK k = 0 := by
      obtain ⟨n, rfl⟩ : ∃ n, k = n + 24 := ⟨k - 24, by omega⟩
      rfl
    omega
theorem ix_in {k : Nat} {i : Int} (h : vd k i) : ix k i < 71 ∧ xi (ix k i) = (k, i) := by
  have h1 := vK_in h
  have h0 : ((i.toNat : Nat) : Int) = i := Int.toNat_of_nonneg h.1
  have h2 := ix_ok k h1.1 i.toNat h1.2 (by rw [h0]; exact h.2)
  rw [h0] at h2
  exact h2
def TLf (cys : Nat → ClassId) (p r4 r27 : Nat → Nat) : va_W := [(p 0, .inr (6, [.ref (p 1), .ref (p 2), .ref (p 10), .ref (p 14), .ref (p 19), .int 0, .int 0, .int 0, .int 0, .ref (p 24), .ref (p 26), .ref (p 30)])), (p 1, QQ (cys 3) 4 (va_up (va_up (va_up (va_up (fun _ => none) 0 (some (p 55))) 1 (some (p 59))) 2 (some (p 63))) 3 (some (p 67)))), (p 2, .inr (1, [.ref (p 3), .ref (p 8), .ref (p 9), .int 0])), (p 3, QQ (cys 4) 4 (fun i => if i < 4 then some (r4 i) else none)), (p 4, I0 (cys 0) 80), (p 5, I0 (cys 0) 80), (p 6, I0 (cys 0) 80), (p 7, I0 (cys 0) 80), (p 8, I0 (cys 0) 80), (p 9, I0 (cys 0) 80), (p 10, .inr (5, [.ref (p 11), .ref (p 12), .ref (p 13), .int 0])), (p 11, I0 (cys 0) 6), (p 12, I0 (cys 0) 6), (p 13, I0 (cys 1) 6), (p 14, .inr (0, [.ref (p 15), .ref (p 17), .ref (p 18), .int 0, .int 0, .int 0])), (p 15, .inr (3, [.ref (p 16), .int 0])), (p 16, I0 (cys 0) 24), (p 17, I0 (cys 1) 24), (p 18, I0 (cys 0) 24), (p 19, .inr (0, [.ref (p 20), .ref (p 22), .ref (p 23), .int 0, .int 0, .int 0])), (p 20, .inr (3, [.ref (p 21), .int 0])), (p 21, I0 (cys 0) 24), (p 22, I0 (cys 1) 24), (p 23, I0 (cys 0) 24), (p 24, .inr (3, [.ref (p 25), .int 0])), (p 25, I0 (cys 0) 24), (p 26, .inr (2, [.ref (p 27), .ref (p 29)])), (p 27, .inr (3, [.ref (p 28), .int 0])), (p 28, I0 (cys 0) 24), (p 29, I0 (cys 0) 24), (p 30, QQ (cys 4) 24 (fun i => if i < 24 then some (r27 i) else none)), (p 31, I0 (cys 0) 24), (p 32, I0 (cys 0) 24), (p 33, I0 (cys 0) 24), (p 34, I0 (cys 0) 24), (p 35, I0 (cys 0) 24), (p 36, I0 (cys 0) 24), (p 37, I0 (cys 0) 24), (p 38, I0 (cys 0) 24), (p 39, I0 (cys 0) 24), (p 40, I0 (cys 0) 24), (p 41, I0 (cys 0) 24), (p 42, I0 (cys 0) 24), (p 43, I0 (cys 0) 24), (p 44, I0 (cys 0) 24), (p 45, I0 (cys 0) 24), (p 46, I0 (cys 0) 24), (p 47, I0 (cys 0) 24), (p 48, I0 (cys 0) 24), (p 49, I0 (cys 0) 24), (p 50, I0 (cys 0) 24), (p 51, I0 (cys 0) 24), (p 52, I0 (cys 0) 24), (p 53, I0 (cys 0) 24), (p 54, I0 (cys 0) 24), (p 55, .inr (4, [.ref (p 56), .ref (p 57), .ref (p 58), .int 0, .int 0, .int 0])), (p 56, I0 (cys 0) 24), (p 57, I0 (cys 0) 24), (p 58, I0 (cys 1) 24), (p 59, .inr (4, [.ref (p 60), .ref (p 61), .ref (p 62), .int 0, .int 0, .int 0])), (p 60, I0 (cys 0) 24), (p 61, I0 (cys 0) 24), (p 62, I0 (cys 1) 24), (p 63, .inr (4, [.ref (p 64), .ref (p 65), .ref (p 66), .int 0, .int 0, .int 0])), (p 64, I0 (cys 0) 24), (p 65, I0 (cys 0) 24), (p 66, I0 (cys 1) 24), (p 67, .inr (4, [.ref (p 68), .ref (p 69), .ref (p 70), .int 0, .int 0, .int 0])), (p 68, I0 (cys 0) 24), (p 69, I0 (cys 0) 24), (p 70, I0 (cys 1) 24)]
def Z00 : ZT := fun _ _ _ => 0
theorem lvl_0 (d : Int) : lvl 0 d = 0 := by
  unfold lvl
  split
  · rfl
  · split
    · rfl
    · split <;> rfl
theorem WG_0 : WG Z00 := by
  have hL : LOK Z00 0 := ⟨by decide, by decide, fun d d0 d1 => by rw [lvl_0]; exact Int.le_refl _⟩
  refine ⟨⟨⟨by decide, by decide⟩, fun d d0 d1 => ?_, fun d d0 d1 => ⟨rfl, rfl, rfl, rfl⟩, ⟨by decide, by decide⟩, fun k k0 k1 => ?_, ⟨by decide, by decide⟩, fun v v0 v1 => Or.inl rfl, fun v v0 v1 => ?_, hL, Or.inl rfl, Or.inl rfl, fun h => absurd h (by decide), fun h => absurd h (by decide)⟩, fun v v0 v1 => (⟨Int.le_refl 0, by decide⟩ : (0 : Int) ≤ 0 ∧ (0 : Int) ≤ 80)⟩
  · have h : d < 0 := d1
    omega
  · have h : k < 0 := k1
    omega
  · have h : v < 0 := v1
    omega
def adP (p : Nat → Nat) (ex : Nat → Int → Nat) (k : Nat) (i : Int) : Nat := if k < 24 then p (ix k i) else ex k i
set_option maxRecDepth 100000 in
set_option maxHeartbeats 8000000 in
theorem keyT {D : va_G} {cys : Nat → ClassId} {H : Heap} {p r4 r27 : Nat → Nat} {ex : Nat → Int → Nat} {g : Nat → va_E} (h4 : ∀ j, j < 4 → r4 j = p (4 + j)) (h27 : ∀ j, j < 24 → r27 j = p (31 + j)) (hi : injA (adP p ex)) :
    ∀ n, n < 71 → ∃ e, (TLf cys p r4 r27)[n]? = some (p n, e) ∧ (va_at D vwCl (p n, e) H → va_at D vwCl (p n, ov cys (adP p ex) g 0 Z00 (p n)) H) := fun n hn => match n, hn with
    | 0, _ => ⟨_, rfl, fun hq => by
      show va_at D vwCl (p 0, ov cys (adP p ex) g 0 Z00 (adP p ex 0 0)) H
      rw [ov_at hi (by decide)]
      have e9 : cC cys (adP p ex) 0 0 0 (Z00 0 0) = (.inr (6, [.ref (p 1), .ref (p 2), .ref (p 10), .ref (p 14), .ref (p 19), .int (iI 0), .int (iI 0), .int (iI 0), .int (iI 0), .ref (p 24), .ref (p 26), .ref (p 30)]) : va_E) := rfl
      rw [e9, iI_0]
      exact hq⟩
    | 1, _ => ⟨_, rfl, fun hq => by
      show va_at D vwCl (p 1, ov cys (adP p ex) g 0 Z00 (adP p ex 1 0)) H
      rw [ov_at hi (by decide)]
      exact va_at_q (fun j hj => match j, hj with
        | 0, _ => rfl
        | 1, _ => rfl
        | 2, _ => rfl
        | 3, _ => rfl
        | x + 4, h => absurd h (by omega)) hq⟩
    | 2, _ => ⟨_, rfl, fun hq => by
      show va_at D vwCl (p 2, ov cys (adP p ex) g 0 Z00 (adP p ex 6 0)) H
      rw [ov_at hi (by decide)]
      have e9 : cC cys (adP p ex) 6 0 0 (Z00 6 0) = (.inr (1, [.ref (p 3), .ref (p 8), .ref (p 9), .int (iI 0)]) : va_E) := rfl
      rw [e9, iI_0]
      exact hq⟩
    | 3, _ => ⟨_, rfl, fun hq => by
      show va_at D vwCl (p 3, ov cys (adP p ex) g 0 Z00 (adP p ex 7 0)) H
      rw [ov_at hi (by decide)]
      exact va_at_q (fun j hj => by
        show (if j < 4 then _ else _) = _
        rw [if_pos hj, h4 j hj]
        exact (match j, hj with
          | 0, _ => rfl
          | 1, _ => rfl
          | 2, _ => rfl
          | 3, _ => rfl
          | x + 4, h => absurd h (by omega))) hq⟩
    | 4, _ => ⟨_, rfl, fun hq => by
      show va_at D vwCl (p 4, ov cys (adP p ex) g 0 Z00 (adP p ex 8 0)) H
      rw [ov_at hi (by decide)]
      exact va_at_i (fun j _ => iI_0.symm) hq⟩
    | 5, _ => ⟨_, rfl, fun hq => by
      show va_at D vwCl (p 5, ov cys (adP p ex) g 0 Z00 (adP p ex 8 1)) H
      rw [ov_at hi (by decide)]
      exact va_at_i (fun j _ => iI_0.symm) hq⟩
    | 6, _ => ⟨_, rfl, fun hq => by
      show va_at D vwCl (p 6, ov cys (adP p ex) g 0 Z00 (adP p ex 8 2)) H
      rw [ov_at hi (by decide)]
      exact va_at_i (fun j _ => iI_0.symm) hq⟩
    | 7, _ => ⟨_, rfl, fun hq => by
      show va_at D vwCl (p 7, ov cys (adP p ex) g 0 Z00 (adP p ex 8 3)) H
      rw [ov_at hi (by decide)]
      exact va_at_i (fun j _ => iI_0.symm) hq⟩
    | 8, _ => ⟨_, rfl, fun hq => by
      show va_at D vwCl (p 8, ov cys (adP p ex) g 0 Z00 (adP p ex 9 0)) H
      rw [ov_at hi (by decide)]
      exact va_at_i (fun j _ => iI_0.symm) hq⟩
    | 9, _ => ⟨_, rfl, fun hq => by
      show va_at D vwCl (p 9, ov cys (adP p ex) g 0 Z00 (adP p ex 10 0)) H
      rw [ov_at hi (by decide)]
      exact va_at_i (fun j _ => iI_0.symm) hq⟩
    | 10, _ => ⟨_, rfl, fun hq => by
      show va_at D vwCl (p 10, ov cys (adP p ex) g 0 Z00 (adP p ex 11 0)) H
      rw [ov_at hi (by decide)]
      have e9 : cC cys (adP p ex) 11 0 0 (Z00 11 0) = (.inr (5, [.ref (p 11), .ref (p 12), .ref (p 13), .int (iI 0)]) : va_E) := rfl
      rw [e9, iI_0]
      exact hq⟩
    | 11, _ => ⟨_, rfl, fun hq => by
      show va_at D vwCl (p 11, ov cys (adP p ex) g 0 Z00 (adP p ex 12 0)) H
      rw [ov_at hi (by decide)]
      exact va_at_i (fun j _ => iI_0.symm) hq⟩
    | 12, _ => ⟨_, rfl, fun hq => by
      show va_at D vwCl (p 12, ov cys (adP p ex) g 0 Z00 (adP p ex 13 0)) H
      rw [ov_at hi (by decide)]
      exact va_at_i (fun j _ => iI_0.symm) hq⟩
    | 13, _ => ⟨_, rfl, fun hq => by
      show va_at D vwCl (p 13, ov cys (adP p ex) g 0 Z00 (adP p ex 14 0)) H
      rw [ov_at hi (by decide)]
      exact va_at_i (fun j _ => iI_0.symm) hq⟩
    | 14, _ => ⟨_, rfl, fun hq => by
      show va_at D vwCl (p 14, ov cys (adP p ex) g 0 Z00 (adP p ex 15 0)) H
      rw [ov_at hi (by decide)]
      have e9 : cC cys (adP p ex) 15 0 0 (Z00 15 0) = (.inr (0, [.ref (p 15), .ref (p 17), .ref (p 18), .int (iI 0), .int (iI 0), .int (iI 0)]) : va_E) := rfl
      rw [e9, iI_0]
      exact hq⟩
    | 15, _ => ⟨_, rfl, fun hq => by
      show va_at D vwCl (p 15, ov cys (adP p ex) g 0 Z00 (adP p ex 16 0)) H
      rw [ov_at hi (by decide)]
      have e9 : cC cys (adP p ex) 16 0 0 (Z00 16 0) = (.inr (3, [.ref (p 16), .int (iI 0)]) : va_E) := rfl
      rw [e9, iI_0]
      exact hq⟩
    | 16, _ => ⟨_, rfl, fun hq => by
      show va_at D vwCl (p 16, ov cys (adP p ex) g 0 Z00 (adP p ex 17 0)) H
      rw [ov_at hi (by decide)]
      exact va_at_i (fun j _ => iI_0.symm) hq⟩
    | 17, _ => ⟨_, rfl, fun hq => by
      show va_at D vwCl (p 17, ov cys (adP p ex) g 0 Z00 (adP p ex 18 0)) H
      rw [ov_at hi (by decide)]
      exact va_at_i (fun j _ => iI_0.symm) hq⟩
    | 18, _ => ⟨_, rfl, fun hq => by
      show va_at D vwCl (p 18, ov cys (adP p ex) g 0 Z00 (adP p ex 19 0)) H
      rw [ov_at hi (by decide)]
      exact va_at_i (fun j _ => iI_0.symm) hq⟩
    | 19, _ => ⟨_, rfl, fun hq => by
      show va_at D vwCl (p 19, ov cys (adP p ex) g 0 Z00 (adP p ex 15 1)) H
      rw [ov_at hi (by decide)]
      have e9 : cC cys (adP p ex) 15 1 0 (Z00 15 1) = (.inr (0, [.ref (p 20), .ref (p 22), .ref (p 23), .int (iI 0), .int (iI 0), .int (iI 0)]) : va_E) := rfl
      rw [e9, iI_0]
      exact hq⟩
    | 20, _ => ⟨_, rfl, fun hq => by
      show va_at D vwCl (p 20, ov cys (adP p ex) g 0 Z00 (adP p ex 16 1)) H
      rw [ov_at hi (by decide)]
      have e9 : cC cys (adP p ex) 16 1 0 (Z00 16 1) = (.inr (3, [.ref (p 21), .int (iI 0)]) : va_E) := rfl
      rw [e9, iI_0]
      exact hq⟩
    | 21, _ => ⟨_, rfl, fun hq => by
      show va_at D vwCl (p 21, ov cys (adP p ex) g 0 Z00 (adP p ex 17 1)) H
      rw [ov_at hi (by decide)]
      exact va_at_i (fun j _ => iI_0.symm) hq⟩
    | 22, _ => ⟨_, rfl, fun hq => by
      show va_at D vwCl (p 22, ov cys (adP p ex) g 0 Z00 (adP p ex 18 1)) H
      rw [ov_at hi (by decide)]
      exact va_at_i (fun j _ => iI_0.symm) hq⟩
    | 23, _ => ⟨_, rfl, fun hq => by
      show va_at D vwCl (p 23, ov cys (adP p ex) g 0 Z00 (adP p ex 19 1)) H
      rw [ov_at hi (by decide)]
      exact va_at_i (fun j _ => iI_0.symm) hq⟩
    | 24, _ => ⟨_, rfl, fun hq => by
      show va_at D vwCl (p 24, ov cys (adP p ex) g 0 Z00 (adP p ex 16 2)) H
      rw [ov_at hi (by decide)]
      have e9 : cC cys (adP p ex) 16 2 0 (Z00 16 2) = (.inr (3, [.ref (p 25), .int (iI 0)]) : va_E) := rfl
      rw [e9, iI_0]
      exact hq⟩
    | 25, _ => ⟨_, rfl, fun hq => by
      show va_at D vwCl (p 25, ov cys (adP p ex) g 0 Z00 (adP p ex 17 2)) H
      rw [ov_at hi (by decide)]
      exact va_at_i (fun j _ => iI_0.symm) hq⟩
    | 26, _ => ⟨_, rfl, fun hq => by
      show va_at D vwCl (p 26, ov cys (adP p ex) g 0 Z00 (adP p ex 20 0)) H
      rw [ov_at hi (by decide)]
      have e9 : cC cys (adP p ex) 20 0 0 (Z00 20 0) = (.inr (2, [.ref (p 27), .ref (p 29)]) : va_E) := rfl
      rw [e9]
      exact hq⟩
    | 27, _ => ⟨_, rfl, fun hq => by
      show va_at D vwCl (p 27, ov cys (adP p ex) g 0 Z00 (adP p ex 16 3)) H
      rw [ov_at hi (by decide)]
      have e9 : cC cys (adP p ex) 16 3 0 (Z00 16 3) = (.inr (3, [.ref (p 28), .int (iI 0)]) : va_E) := rfl
      rw [e9, iI_0]
      exact hq⟩
    | 28, _ => ⟨_, rfl, fun hq => by
      show va_at D vwCl (p 28, ov cys (adP p ex) g 0 Z00 (adP p ex 17 3)) H
      rw [ov_at hi (by decide)]
      exact va_at_i (fun j _ => iI_0.symm) hq⟩
    | 29, _ => ⟨_, rfl, fun hq => by
      show va_at D vwCl (p 29, ov cys (adP p ex) g 0 Z00 (adP p ex 21 0)) H
      rw [ov_at hi (by decide)]
      exact va_at_i (fun j _ => iI_0.symm) hq⟩
    | 30, _ => ⟨_, rfl, fun hq => by
      show va_at D vwCl (p 30, ov cys (adP p ex) g 0 Z00 (adP p ex 22 0)) H
      rw [ov_at hi (by decide)]
      exact va_at_q (fun j hj => by
        show (if j < 24 then _ else _) = _
        rw [if_pos hj, h27 j hj]
        exact (match j, hj with
          | 0, _ => rfl
          | 1, _ => rfl
          | 2, _ => rfl
          | 3, _ => rfl
          | 4, _ => rfl
          | 5, _ => rfl
          | 6, _ => rfl
          | 7, _ => rfl
          | 8, _ => rfl
          | 9, _ => rfl
          | 10, _ => rfl
          | 11, _ => rfl
          | 12, _ => rfl
          | 13, _ => rfl
          | 14, _ => rfl
          | 15, _ => rfl
          | 16, _ => rfl
          | 17, _ => rfl
          | 18, _ => rfl
          | 19, _ => rfl
          | 20, _ => rfl
          | 21, _ => rfl
          | 22, _ => rfl
          | 23, _ => rfl
          | x + 24, h => absurd h (by omega))) hq⟩
    | 31, _ => ⟨_, rfl, fun hq => by
      show va_at D vwCl (p 31, ov cys (adP p ex) g 0 Z00 (adP p ex 23 0)) H
      rw [ov_at hi (by decide)]
      exact va_at_i (fun j _ => iI_0.symm) hq⟩
    | 32, _ => ⟨_, rfl, fun hq => by
      show va_at D vwCl (p 32, ov cys (adP p ex) g 0 Z00 (adP p ex 23 1)) H
      rw [ov_at hi (by decide)]
      exact va_at_i (fun j _ => iI_0.symm) hq⟩
    | 33, _ => ⟨_, rfl, fun hq => by
      show va_at D vwCl (p 33, ov cys (adP p ex) g 0 Z00 (adP p ex 23 2)) H
      rw [ov_at hi (by decide)]
      exact va_at_i (fun j _ => iI_0.symm) hq⟩
    | 34, _ => ⟨_, rfl, fun hq => by
      show va_at D vwCl (p 34, ov cys (adP p ex) g 0 Z00 (adP p ex 23 3)) H
      rw [ov_at hi (by decide)]
      exact va_at_i (fun j _ => iI_0.symm) hq⟩
    | 35, _ => ⟨_, rfl, fun hq => by
      show va_at D vwCl (p 35, ov cys (adP p ex) g 0 Z00 (adP p ex 23 4)) H
      rw [ov_at hi (by decide)]
      exact va_at_i (fun j _ => iI_0.symm) hq⟩
    | 36, _ => ⟨_, rfl, fun hq => by
      show va_at D vwCl (p 36, ov cys (adP p ex) g 0 Z00 (adP p ex 23 5)) H
      rw [ov_at hi (by decide)]
      exact va_at_i (fun j _ => iI_0.symm) hq⟩
    | 37, _ => ⟨_, rfl, fun hq => by
      show va_at D vwCl (p 37, ov cys (adP p ex) g 0 Z00 (adP p ex 23 6)) H
      rw [ov_at hi (by decide)]
      exact va_at_i (fun j _ => iI_0.symm) hq⟩
    | 38, _ => ⟨_, rfl, fun hq => by
      show va_at D vwCl (p 38, ov cys (adP p ex) g 0 Z00 (adP p ex 23 7)) H
      rw [ov_at hi (by decide)]
      exact va_at_i (fun j _ => iI_0.symm) hq⟩
    | 39, _ => ⟨_, rfl, fun hq => by
      show va_at D vwCl (p 39, ov cys (adP p ex) g 0 Z00 (adP p ex 23 8)) H
      rw [ov_at hi (by decide)]
      exact va_at_i (fun j _ => iI_0.symm) hq⟩
    | 40, _ => ⟨_, rfl, fun hq => by
      show va_at D vwCl (p 40, ov cys (adP p ex) g 0 Z00 (adP p ex 23 9)) H
      rw [ov_at hi (by decide)]
      exact va_at_i (fun j _ => iI_0.symm) hq⟩
    | 41, _ => ⟨_, rfl, fun hq => by
      show va_at D vwCl (p 41, ov cys (adP p ex) g 0 Z00 (adP p ex 23 10)) H
      rw [ov_at hi (by decide)]
      exact va_at_i (fun j _ => iI_0.symm) hq⟩
    | 42, _ => ⟨_, rfl, fun hq => by
      show va_at D vwCl (p 42, ov cys (adP p ex) g 0 Z00 (adP p ex 23 11)) H
      rw [ov_at hi (by decide)]
      exact va_at_i (fun j _ => iI_0.symm) hq⟩
    | 43, _ => ⟨_, rfl, fun hq => by
      show va_at D vwCl (p 43, ov cys (adP p ex) g 0 Z00 (adP p ex 23 12)) H
      rw [ov_at hi (by decide)]
      exact va_at_i (fun j _ => iI_0.symm) hq⟩
    | 44, _ => ⟨_, rfl, fun hq => by
      show va_at D vwCl (p 44, ov cys (adP p ex) g 0 Z00 (adP p ex 23 13)) H
      rw [ov_at hi (by decide)]
      exact va_at_i (fun j _ => iI_0.symm) hq⟩
    | 45, _ => ⟨_, rfl, fun hq => by
      show va_at D vwCl (p 45, ov cys (adP p ex) g 0 Z00 (adP p ex 23 14)) H
      rw [ov_at hi (by decide)]
      exact va_at_i (fun j _ => iI_0.symm) hq⟩
    | 46, _ => ⟨_, rfl, fun hq => by
      show va_at D vwCl (p 46, ov cys (adP p ex) g 0 Z00 (adP p ex 23 15)) H
      rw [ov_at hi (by decide)]
      exact va_at_i (fun j _ => iI_0.symm) hq⟩
    | 47, _ => ⟨_, rfl, fun hq => by
      show va_at D vwCl (p 47, ov cys (adP p ex) g 0 Z00 (adP p ex 23 16)) H
      rw [ov_at hi (by decide)]
      exact va_at_i (fun j _ => iI_0.symm) hq⟩
    | 48, _ => ⟨_, rfl, fun hq => by
      show va_at D vwCl (p 48, ov cys (adP p ex) g 0 Z00 (adP p ex 23 17)) H
      rw [ov_at hi (by decide)]
      exact va_at_i (fun j _ => iI_0.symm) hq⟩
    | 49, _ => ⟨_, rfl, fun hq => by
      show va_at D vwCl (p 49, ov cys (adP p ex) g 0 Z00 (adP p ex 23 18)) H
      rw [ov_at hi (by decide)]
      exact va_at_i (fun j _ => iI_0.symm) hq⟩
    | 50, _ => ⟨_, rfl, fun hq => by
      show va_at D vwCl (p 50, ov cys (adP p ex) g 0 Z00 (adP p ex 23 19)) H
      rw [ov_at hi (by decide)]
      exact va_at_i (fun j _ => iI_0.symm) hq⟩
    | 51, _ => ⟨_, rfl, fun hq => by
      show va_at D vwCl (p 51, ov cys (adP p ex) g 0 Z00 (adP p ex 23 20)) H
      rw [ov_at hi (by decide)]
      exact va_at_i (fun j _ => iI_0.symm) hq⟩
    | 52, _ => ⟨_, rfl, fun hq => by
      show va_at D vwCl (p 52, ov cys (adP p ex) g 0 Z00 (adP p ex 23 21)) H
      rw [ov_at hi (by decide)]
      exact va_at_i (fun j _ => iI_0.symm) hq⟩
    | 53, _ => ⟨_, rfl, fun hq => by
      show va_at D vwCl (p 53, ov cys (adP p ex) g 0 Z00 (adP p ex 23 22)) H
      rw [ov_at hi (by decide)]
      exact va_at_i (fun j _ => iI_0.symm) hq⟩
    | 54, _ => ⟨_, rfl, fun hq => by
      show va_at D vwCl (p 54, ov cys (adP p ex) g 0 Z00 (adP p ex 23 23)) H
      rw [ov_at hi (by decide)]
      exact va_at_i (fun j _ => iI_0.symm) hq⟩
    | 55, _ => ⟨_, rfl, fun hq => by
      show va_at D vwCl (p 55, ov cys (adP p ex) g 0 Z00 (adP p ex 2 0)) H
      rw [ov_at hi (by decide)]
      have e9 : cC cys (adP p ex) 2 0 0 (Z00 2 0) = (.inr (4, [.ref (p 56), .ref (p 57), .ref (p 58), .int (iI 0), .int (iI 0), .int (iI 0)]) : va_E) := rfl
      rw [e9, iI_0]
      exact hq⟩
    | 56, _ => ⟨_, rfl, fun hq => by
      show va_at D vwCl (p 56, ov cys (adP p ex) g 0 Z00 (adP p ex 3 0)) H
      rw [ov_at hi (by decide)]
      exact va_at_i (fun j _ => iI_0.symm) hq⟩
    | 57, _ => ⟨_, rfl, fun hq => by
      show va_at D vwCl (p 57, ov cys (adP p ex) g 0 Z00 (adP p ex 4 0)) H
      rw [ov_at hi (by decide)]
      exact va_at_i (fun j _ => iI_0.symm) hq⟩
    | 58, _ => ⟨_, rfl, fun hq => by
      show va_at D vwCl (p 58, ov cys (adP p ex) g 0 Z00 (adP p ex 5 0)) H
      rw [ov_at hi (by decide)]
      exact va_at_i (fun j _ => iI_0.symm) hq⟩
    | 59, _ => ⟨_, rfl, fun hq => by
      show va_at D vwCl (p 59, ov cys (adP p ex) g 0 Z00 (adP p ex 2 1)) H
      rw [ov_at hi (by decide)]
      have e9 : cC cys (adP p ex) 2 1 0 (Z00 2 1) = (.inr (4, [.ref (p 60), .ref (p 61), .ref (p 62), .int (iI 0), .int (iI 0), .int (iI 0)]) : va_E) := rfl
      rw [e9, iI_0]
      exact hq⟩
    | 60, _ => ⟨_, rfl, fun hq => by
      show va_at D vwCl (p 60, ov cys (adP p ex) g 0 Z00 (adP p ex 3 1)) H
      rw [ov_at hi (by decide)]
      exact va_at_i (fun j _ => iI_0.symm) hq⟩
    | 61, _ => ⟨_, rfl, fun hq => by
      show va_at D vwCl (p 61, ov cys (adP p ex) g 0 Z00 (adP p ex 4 1)) H
      rw [ov_at hi (by decide)]
      exact va_at_i (fun j _ => iI_0.symm) hq⟩
    | 62, _ => ⟨_, rfl, fun hq => by
      show va_at D vwCl (p 62, ov cys (adP p ex) g 0 Z00 (adP p ex 5 1)) H
      rw [ov_at hi (by decide)]
      exact va_at_i (fun j _ => iI_0.symm) hq⟩
    | 63, _ => ⟨_, rfl, fun hq => by
      show va_at D vwCl (p 63, ov cys (adP p ex) g 0 Z00 (adP p ex 2 2)) H
      rw [ov_at hi (by decide)]
      have e9 : cC cys (adP p ex) 2 2 0 (Z00 2 2) = (.inr (4, [.ref (p 64), .ref (p 65), .ref (p 66), .int (iI 0), .int (iI 0), .int (iI 0)]) : va_E) := rfl
      rw [e9, iI_0]
      exact hq⟩
    | 64, _ => ⟨_, rfl, fun hq => by
      show va_at D vwCl (p 64, ov cys (adP p ex) g 0 Z00 (adP p ex 3 2)) H
      rw [ov_at hi (by decide)]
      exact va_at_i (fun j _ => iI_0.symm) hq⟩
    | 65, _ => ⟨_, rfl, fun hq => by
      show va_at D vwCl (p 65, ov cys (adP p ex) g 0 Z00 (adP p ex 4 2)) H
      rw [ov_at hi (by decide)]
      exact va_at_i (fun j _ => iI_0.symm) hq⟩
    | 66, _ => ⟨_, rfl, fun hq => by
      show va_at D vwCl (p 66, ov cys (adP p ex) g 0 Z00 (adP p ex 5 2)) H
      rw [ov_at hi (by decide)]
      exact va_at_i (fun j _ => iI_0.symm) hq⟩
    | 67, _ => ⟨_, rfl, fun hq => by
      show va_at D vwCl (p 67, ov cys (adP p ex) g 0 Z00 (adP p ex 2 3)) H
      rw [ov_at hi (by decide)]
      have e9 : cC cys (adP p ex) 2 3 0 (Z00 2 3) = (.inr (4, [.ref (p 68), .ref (p 69), .ref (p 70), .int (iI 0), .int (iI 0), .int (iI 0)]) : va_E) := rfl
      rw [e9, iI_0]
      exact hq⟩
    | 68, _ => ⟨_, rfl, fun hq => by
      show va_at D vwCl (p 68, ov cys (adP p ex) g 0 Z00 (adP p ex 3 3)) H
      rw [ov_at hi (by decide)]
      exact va_at_i (fun j _ => iI_0.symm) hq⟩
    | 69, _ => ⟨_, rfl, fun hq => by
      show va_at D vwCl (p 69, ov cys (adP p ex) g 0 Z00 (adP p ex 4 3)) H
      rw [ov_at hi (by decide)]
      exact va_at_i (fun j _ => iI_0.symm) hq⟩
    | 70, _ => ⟨_, rfl, fun hq => by
      show va_at D vwCl (p 70, ov cys (adP p ex) g 0 Z00 (adP p ex 5 3)) H
      rw [ov_at hi (by decide)]
      exact va_at_i (fun j _ => iI_0.symm) hq⟩
    | x + 71, h => absurd h (by omega)
set_option maxRecDepth 100000 in
set_option maxHeartbeats 8000000 in
theorem start_mem {D : va_G} {cys : Nat → ClassId} {A : Nat → Prop} {H : Heap} {p r4 r27 : Nat → Nat} (h4 : ∀ j, j < 4 → r4 j = p (4 + j)) (h27 : ∀ j, j < 24 → r27 j = p (31 + j)) (hP : va_P D vwCl (TLf cys p r4 r27) H) (hD : va_D A (TLf cys p r4 r27)) (ex : Nat → Int → Nat) :
    ∃ (ad : Nat → Int → Nat) (L : List Nat) (g : Nat → va_E), injA ad ∧ SL ad L ∧ va_P D vwCl (MW cys ad L g 0 Z00) H ∧ va_D A (MW cys ad L g 0 Z00) ∧ ad 0 0 = p 0 ∧ ∀ k, 24 ≤ k → ad k = ex k := by
  obtain ⟨L, hL⟩ : ∃ L, L = (List.range 71).map p := ⟨_, rfl⟩
  have hfst : (TLf cys p r4 r27).map Prod.fst = L := by rw [hL]; rfl
  have hLn : ∀ n, n < 71 → L[n]? = some (p n) := fun n hn => by rw [hL, List.getElem?_map, List.getElem?_range hn]; rfl
  have hpi : ∀ n m, n < 71 → m < 71 → p n = p m → n = m := fun n m hn hm e => by
    have a1 := hLn n hn
    have a2 := hLn m hm
    rw [← hfst, List.getElem?_map] at a1 a2
    cases q1 : (TLf cys p r4 r27)[n]? with
    | none => rw [q1] at a1; cases a1
    | some x1 =>
      cases q2 : (TLf cys p r4 r27)[m]? with
      | none => rw [q2] at a2; cases a2
      | some x2 =>
        rw [q1] at a1
        rw [q2] at a2
        exact hD.1 n m x1 x2 q1 q2 ((Option.some.inj a1).trans (e.trans (Option.some.inj a2).symm))
  have had : ∀ k i, k < 24 → adP p ex k i = p (ix k i) := fun k i h => if_pos h
  have hi : injA (adP p ex) := by
    intro k i k' i' v v' e
    have a1 := ix_in v
    have a2 := ix_in v'
    rw [had _ _ (vK_in v).1, had _ _ (vK_in v').1] at e
    have e2 := hpi _ _ (by omega) (by omega) e
    have e3 : (k, i) = (k', i') := by rw [← a1.2, ← a2.2, e2]
    exact ⟨congrArg Prod.fst e3, congrArg Prod.snd e3⟩
  have hmem : ∀ n, n < 71 → p n ∈ L := fun n hn => List.mem_of_getElem? (hLn n hn)
  obtain ⟨g, hg⟩ : ∃ g : Nat → va_E, g = fun _ => .inr (0, []) := ⟨_, rfl⟩
  refine ⟨adP p ex, L, g, hi, fun k i v => by rw [had _ _ (vK_in v).1]; exact hmem _ (by have := ix_in v; omega), ?_, ?_, had 0 0 (by decide), fun k hk => funext fun i => if_neg (by omega)⟩
  · have key : ∀ n, n < 71 → ∃ e, (TLf cys p r4 r27)[n]? = some (p n, e) ∧ (va_at D vwCl (p n, e) H → va_at D vwCl (p n, ov cys (adP p ex) g 0 Z00 (p n)) H) := keyT h4 h27 hi
    refine va_P_eqv hP (fun n q' hq => ?_)
    have hn : n < 71 := by
      have h1 : n < L.length := by
        have h2 := (List.getElem?_eq_some_iff.mp hq).1
        rw [show (MW cys (adP p ex) L g 0 Z00).length = L.length from List.length_map _] at h2
        exact h2
      rw [hL, List.length_map, List.length_range] at h1
      exact h1
    have hq2 : (MW cys (adP p ex) L g 0 Z00)[n]? = some (p n, ov cys (adP p ex) g 0 Z00 (p n)) := by
      show (L.map (fun a => (a, ov cys (adP p ex) g 0 Z00 a)))[n]? = _
      rw [List.getElem?_map, hLn n hn]; rfl
    rw [hq2] at hq
    cases hq
    obtain ⟨e, e1, e2⟩ := key n hn
    exact ⟨n, (p n, e), e1, e2⟩
  · refine va_D_eqv hD ?_
    rw [hfst]
    show (L.map (fun a => (a, ov cys (adP p ex) g 0 Z00 a))).map Prod.fst = L
    rw [List.map_map]
    exact List.map_id L
theorem exN (x : Int32) : ∃ n : Nat, Int32.ofNat n = x := ⟨x.toBitVec.toNat, by
  apply Int32.toBitVec_inj.mp
  simp⟩
