/-! the gain, counted by the model's levels -/
theorem sumTo_add (f : Int → Int) (a : Nat) : ∀ b : Nat, sumTo f (a + b) = sumTo f a + sumTo (fun k => f ((a : Int) + k)) b
  | 0 => by simp [sumTo]
  | b + 1 => by
    have ih := sumTo_add f a b
    show sumTo f (a + b) + f ((a + b : Nat) : Int) = sumTo f a + (sumTo (fun k => f ((a : Int) + k)) b + f ((a : Int) + (b : Int)))
    rw [ih, Int.natCast_add]
    omega
theorem sumTo_0 {f : Int → Int} {n : Nat} (h : ∀ k : Int, 0 ≤ k → k < n → f k = 0) : sumTo f n = 0 := by
  induction n with
  | zero => rfl
  | succ n ih =>
    show sumTo f n + f n = 0
    rw [ih (fun k a b => h k a (by omega)), h n (by omega) (by omega)]
    rfl
theorem sumTo_mul {f : Int → Int} {c : Nat} (hc : 0 < c) (hf : ∀ M k : Int, 0 ≤ M → 0 < k → k < c → f (M * c + k) = 0) : ∀ N : Nat, sumTo f (N * c) = sumTo (fun M => f (M * c)) N
  | 0 => by rw [Nat.zero_mul]; rfl
  | N + 1 => by
    have ih := sumTo_mul hc hf N
    rw [Nat.succ_mul, sumTo_add, ih]
    show _ = sumTo (fun M => f (M * c)) N + f ((N : Int) * c)
    congr 1
    obtain ⟨c', rfl⟩ : ∃ c', c = c' + 1 := ⟨c - 1, by omega⟩
    have h1 := sumTo_add (fun k => f (((N * (c' + 1) : Nat) : Int) + k)) 1 c'
    rw [show 1 + c' = c' + 1 by omega] at h1
    rw [h1, sumTo_0 (n := c') (fun k k0 k1 => ?_)]
    · show sumTo _ 0 + f (((N * (c' + 1) : Nat) : Int) + ((0 : Nat) : Int)) + 0 = _
      show 0 + f (((N * (c' + 1) : Nat) : Int) + ((0 : Nat) : Int)) + 0 = _
      rw [Int.natCast_mul]
      simp
    · have := hf N (1 + k) (by omega) (by omega) (by omega)
      rw [Int.natCast_mul]
      exact this
theorem reachP_le {A B : Int} (a0 : 0 ≤ A) (a1 : A < 256) (b0 : 0 ≤ B) (b1 : B < 256) (h : reachP A B) : B ≤ A := by
  unfold reachP lvl at h
  simp at h
  obtain ⟨h0, h1, h2, h3⟩ := h
  have hA : A = A / 64 % 4 * 64 + A / 16 % 4 * 16 + A / 4 % 4 * 4 + A % 4 := by omega
  have hB : B = B / 64 % 4 * 64 + B / 16 % 4 * 16 + B / 4 % 4 * 4 + B % 4 := by omega
  generalize A / 64 % 4 = x0 at hA h0
  generalize A / 16 % 4 = x1 at hA h1
  generalize A / 4 % 4 = x2 at hA h2
  generalize A % 4 = x3 at hA h3
  generalize B / 64 % 4 = y0 at hB h0
  generalize B / 16 % 4 = y1 at hB h1
  generalize B / 4 % 4 = y2 at hB h2
  generalize B % 4 = y3 at hB h3
  omega
theorem GM_sum {S : ZT} {q : Int} {c N : Nat} (hc : 0 < c) (hN : N * c = 256) (hLV : ∀ M, LV (S 0 0 5) M = M * c) (hL : LOK S (LV (S 0 0 5) q)) (hz : ∀ M k : Int, 0 ≤ M → 0 < k → k < c → M * c + k < 256 → ¬ reachP (LV (S 0 0 5) q) (M * c + k)) : GM S q = GAIN S (LV (S 0 0 5) q) := by
  obtain ⟨l0, l1, l2⟩ := hL
  have hNle : N ≤ 256 := by
    rw [← hN]; exact Nat.le_mul_of_pos_right N hc
  have hNc : (N : Int) * c = 256 := by rw [← Int.natCast_mul, hN]; rfl
  let F : Int → Int := fun a => if a < 256 then iv (reachP (LV (S 0 0 5) q) a) * mx (COST S a - CELLS S (LV (S 0 0 5) q)) else 0
  have hF : ∀ M k : Int, 0 ≤ M → 0 < k → k < c → F (M * c + k) = 0 := fun M k h0 h1 h2 => by
    show (if _ then _ else _) = _
    by_cases e : M * c + k < 256
    · rw [if_pos e, iv_f (hz M k h0 h1 h2 e), Int.zero_mul]
    · rw [if_neg e]
  have e1 : GAIN S (LV (S 0 0 5) q) = sumTo F 256 := by
    have hs := sumTo_add F (LV (S 0 0 5) q + 1).toNat (256 - (LV (S 0 0 5) q + 1).toNat)
    rw [show (LV (S 0 0 5) q + 1).toNat + (256 - (LV (S 0 0 5) q + 1).toNat) = 256 by omega, sumTo_0 (n := 256 - (LV (S 0 0 5) q + 1).toNat) (fun k k0 k1 => ?_), Int.add_zero] at hs
    · rw [hs]
      unfold GAIN
      refine sumTo_congr (fun k k0 k1 => ?_)
      show _ = (if _ then _ else _)
      rw [if_pos (by omega)]
    · show (if _ then _ else _) = _
      split
      · rw [iv_f, Int.zero_mul]
        intro h
        have := reachP_le l0 l1 (by omega) (by omega) h
        omega
      · rfl
  have e2 : sumTo F 256 = sumTo (fun M => F (M * c)) N := by rw [← hN]; exact sumTo_mul hc hF N
  have e3 : GM S q = sumTo (fun M => F (M * c)) N := by
    unfold GM
    have hs := sumTo_add (fun a => iv (LOK S (LV (S 0 0 5) a) ∧ reachP (LV (S 0 0 5) q) (LV (S 0 0 5) a)) * mx (COST S (LV (S 0 0 5) a) - CELLS S (LV (S 0 0 5) q))) N (256 - N)
    rw [show N + (256 - N) = 256 by omega, sumTo_0 (n := 256 - N) (fun k k0 k1 => ?_), Int.add_zero] at hs
    · rw [hs]
      refine sumTo_congr (fun M h0 h1 => ?_)
      have hlt : M * c < 256 := by
        have : M * c < N * c := Int.mul_lt_mul_of_pos_right h1 (by omega)
        omega
      have hge : 0 ≤ M * c := Int.mul_nonneg h0 (by omega)
      show _ = (if _ then _ else _)
      rw [if_pos hlt, hLV M]
      by_cases e : reachP (LV (S 0 0 5) q) (M * c)
      · have hK : LOK S (M * c) := ⟨hge, hlt, fun d d0 d1 => by
          have hd : d = 0 ∨ d = 1 ∨ d = 2 ∨ d = 3 := by omega
          have := l2 d d0 d1
          unfold reachP at e
          rcases hd with rfl | rfl | rfl | rfl <;> omega⟩
        rw [iv_t e, iv_t ⟨hK, e⟩]
      · rw [iv_f e, iv_f (fun z => e z.2)]
    · rw [iv_f, Int.zero_mul]
      rintro ⟨⟨_, h, _⟩, _⟩
      rw [hLV] at h
      have : (N : Int) * c ≤ ((N : Int) + k) * c := Int.mul_le_mul_of_nonneg_right (by omega) (by omega)
      omega
  rw [e3, e1, e2]
theorem GM_GAIN {S : ZT} (hW : WF S) {q : Int} (h0 : 0 ≤ q) (hL : LOK S (LV (S 0 0 5) q)) : GM S q = GAIN S (LV (S 0 0 5) q) := by
  have hn := hW.n
  rcases n4 hn.1 hn.2 with ⟨e0, e⟩ | ⟨e0, e⟩ | ⟨e0, e⟩ | ⟨e0, e⟩ | ⟨e0, e⟩
  · refine GM_sum (c := 256) (N := 1) (by decide) rfl (fun M => e M) hL (fun M k m0 k0 k1 k2 h => ?_)
    rw [e] at h; unfold reachP lvl at h; simp at h; omega
  · refine GM_sum (c := 64) (N := 4) (by decide) rfl (fun M => e M) hL (fun M k m0 k0 k1 k2 h => ?_)
    rw [e] at h; unfold reachP lvl at h; simp at h; omega
  · refine GM_sum (c := 16) (N := 16) (by decide) rfl (fun M => e M) hL (fun M k m0 k0 k1 k2 h => ?_)
    rw [e] at h; unfold reachP lvl at h; simp at h; omega
  · refine GM_sum (c := 4) (N := 64) (by decide) rfl (fun M => e M) hL (fun M k m0 k0 k1 k2 h => ?_)
    rw [e] at h; unfold reachP lvl at h; simp at h; omega
  · refine GM_sum (c := 1) (N := 256) (by decide) rfl (fun M => by rw [e]; simp) hL (fun M k m0 k0 k1 k2 h => ?_)
    omega
