/-! the state with axes set; the best column; a view kept -/
def axSt (S : ZT) (r rl w wl : Int) : ZT := zS (zS (zS (zS (zS S 15 0 4 r) 15 0 5 rl) 15 1 4 w) 15 1 5 wl) 0 0 7 1
theorem axSt_k (S : ZT) (r rl w wl : Int) {k : Nat} (h0 : k ≠ 0) (h15 : k ≠ 15) : axSt S r rl w wl k = S k := by
  unfold axSt
  rw [zS_k h0, zS_k h15, zS_k h15, zS_k h15, zS_k h15]
theorem axSt_0 (S : ZT) (r rl w wl : Int) (j : Int) : axSt S r rl w wl 0 0 j = if j = 7 then 1 else S 0 0 j := by
  unfold axSt
  rw [zS_v, zS_k (by decide), zS_k (by decide), zS_k (by decide), zS_k (by decide)]
theorem axSt_15 (S : ZT) (r rl w wl : Int) : axSt S r rl w wl 15 0 4 = r ∧ axSt S r rl w wl 15 0 5 = rl ∧ axSt S r rl w wl 15 1 4 = w ∧ axSt S r rl w wl 15 1 5 = wl := by
  unfold axSt
  rw [zS_k (by decide)]
  refine ⟨?_, ?_, ?_, ?_⟩ <;> simp only [zS_w] <;> rfl
theorem WF.of_AX {S : ZT} (h : WF S) {r rl w wl : Int} (r0 : 0 ≤ r) (r1 : r < S 0 0 5) (l0 : 0 ≤ rl) (l1 : rl ≤ S 2 r 3) (w0 : 0 ≤ w) (w1 : w < S 0 0 5) (m0 : 0 ≤ wl) (m1 : wl ≤ S 2 w 3) (hne : r ≠ w) : WF (axSt S r rl w wl) := by
  have e15 := axSt_15 S r rl w wl
  unfold WF TOK MOK UOK FOK LOK at *
  simp only [axSt_0, axSt_k S r rl w wl (k := 2) (by decide) (by decide), axSt_k S r rl w wl (k := 3) (by decide) (by decide), axSt_k S r rl w wl (k := 4) (by decide) (by decide), axSt_k S r rl w wl (k := 5) (by decide) (by decide), axSt_k S r rl w wl (k := 6) (by decide) (by decide), axSt_k S r rl w wl (k := 8) (by decide) (by decide), axSt_k S r rl w wl (k := 9) (by decide) (by decide), axSt_k S r rl w wl (k := 11) (by decide) (by decide), axSt_k S r rl w wl (k := 12) (by decide) (by decide), axSt_k S r rl w wl (k := 13) (by decide) (by decide), axSt_k S r rl w wl (k := 14) (by decide) (by decide)]
  refine ⟨h.1, h.2.1, h.2.2.1, h.2.2.2.1, h.2.2.2.2.1, h.2.2.2.2.2.1, h.2.2.2.2.2.2.1, h.2.2.2.2.2.2.2.1, h.2.2.2.2.2.2.2.2.1, Or.inr rfl, h.2.2.2.2.2.2.2.2.2.2.1, fun _ i i0 i1 => ?_, fun _ => ?_⟩
  · rcases (show i = 0 ∨ i = 1 by omega) with rfl | rfl
    · rw [e15.1, e15.2.1]; exact ⟨r0, r1, l0, l1⟩
    · rw [e15.2.2.1, e15.2.2.2]; exact ⟨w0, w1, m0, m1⟩
  · rw [e15.1, e15.2.2.1]; exact hne
theorem SP.of_AX {S Z : ZT} (h : SP S Z) (r rl w wl : Int) : SP (axSt S r rl w wl) (axSt Z r rl w wl) := by
  refine ⟨fun k hk => ?_, fun i => ?_⟩
  · have h15 : k ≠ 15 := by rintro rfl; cases hk
    by_cases e : k = 0
    · subst e
      unfold axSt
      funext i j
      simp only [zS_w, zS_k (show (0 : Nat) ≠ 15 by decide), h.1 0 rfl]
    · rw [axSt_k _ _ _ _ _ e h15, axSt_k _ _ _ _ _ e h15, h.1 k hk]
  · unfold axSt
    constructor <;> simp only [zS_k (show (15 : Nat) ≠ 0 by decide), zS_w, (h.2 i).1, (h.2 i).2]
noncomputable def pkF (f : Int → Int) : Nat → Int
  | 0 => -1
  | n + 1 => if pkF f n = -1 ∨ f (pkF f n) < f n then (n : Int) else pkF f n
theorem pkF_in (f : Int → Int) (n : Nat) : -1 ≤ pkF f n ∧ pkF f n < n := by
  induction n with
  | zero => exact ⟨Int.le_refl _, by show (-1 : Int) < 0; decide⟩
  | succ n ih =>
    unfold pkF
    split <;> omega
theorem pkF_s {f : Int → Int} {a : Int} (h : 0 ≤ a) : pkF f (a + 1).toNat = if pkF f a.toNat = -1 ∨ f (pkF f a.toNat) < f a then a else pkF f a.toNat := by
  rw [show (a + 1).toNat = a.toNat + 1 by omega]
  show (if pkF f a.toNat = -1 ∨ f (pkF f a.toNat) < f (a.toNat : Int) then (a.toNat : Int) else pkF f a.toNat) = _
  rw [Int.toNat_of_nonneg h]
theorem CELLS_congr {S T : ZT} (h : ∀ k : Nat, k = 0 ∨ k = 3 ∨ k = 4 ∨ k = 6 ∨ k = 8 → T k = S k) (L : Int) : CELLS T L = CELLS S L := by
  unfold CELLS sameC abv
  rw [h 0 (by simp), h 3 (by simp), h 4 (by simp), h 6 (by simp), h 8 (by simp)]
def kpSt (S : ZT) : ZT := zS (zS S 11 0 3 (S 11 0 3 + 1)) 12 0 (S 11 0 3) (S 0 0 6)
theorem WF.of_KP {S : ZT} (h : WF S) (hv : S 11 0 3 < 6) (h13 : ∀ v, 0 ≤ v → v < 6 → 0 ≤ S 13 0 v ∧ S 13 0 v ≤ 80) : WF (kpSt S) := by
  have e11 : kpSt S 11 0 3 = S 11 0 3 + 1 := by unfold kpSt; rw [zS_k (by decide), zS_s]
  have e12 : ∀ v, kpSt S 12 0 v = if v = S 11 0 3 then S 0 0 6 else S 12 0 v := fun v => by unfold kpSt; rw [zS_v, zS_k (by decide)]
  have ek : ∀ k : Nat, k ≠ 11 → k ≠ 12 → kpSt S k = S k := fun k h1 h2 => by unfold kpSt; rw [zS_k h2, zS_k h1]
  unfold WF TOK MOK UOK FOK at *
  have eL : ∀ L, LOK (kpSt S) L ↔ LOK S L := fun L => by unfold LOK; rw [ek 2 (by decide) (by decide)]
  simp only [eL, e11, e12, ek 0 (by decide) (by decide), ek 2 (by decide) (by decide), ek 3 (by decide) (by decide), ek 4 (by decide) (by decide), ek 5 (by decide) (by decide), ek 6 (by decide) (by decide), ek 8 (by decide) (by decide), ek 9 (by decide) (by decide), ek 13 (by decide) (by decide), ek 14 (by decide) (by decide), ek 15 (by decide) (by decide)]
  refine ⟨h.1, h.2.1, h.2.2.1, h.2.2.2.1, h.2.2.2.2.1, by have := h.2.2.2.2.2.1; omega, h.2.2.2.2.2.2.1, fun v v0 v1 => ?_, h.2.2.2.2.2.2.2.2⟩
  have hvv := h.2.2.2.2.2.1
  have hb := h13 v v0 (by omega)
  by_cases e : v = S 11 0 3
  · rw [if_pos e]; exact ⟨h.2.2.2.2.2.2.2.2.1, hb⟩
  · rw [if_neg e]; exact ⟨(h.2.2.2.2.2.2.2.1 v v0 (by omega)).1, hb⟩
theorem mul_pt {q s : Int} (q0 : 1 ≤ q) (q1 : q ≤ 1000) (s0 : -800000 ≤ s) (s1 : s ≤ 800000) : -800000000 ≤ q * s ∧ q * s ≤ 800000000 := by
  have a := Int.mul_le_mul_of_nonneg_left s1 (show 0 ≤ q by omega)
  have b := Int.mul_le_mul_of_nonneg_left s0 (show 0 ≤ q by omega)
  omega
