/-! what the document's words mean, over the numbers of the fixed places (kinds 0 to 15): trees, facts, what is seen -/
def ancF (par : Int → Int) : Nat → Int → Int
  | 0, m => m
  | n + 1, m => ancF par n (par m)
/-- a member, or an ancestor of it -/
def bel (S : ZT) (d m a : Int) : Prop := S 4 d a ≤ S 4 d m ∧ ancF (S 3 d) (S 4 d m - S 4 d a).toNat m = a
def abv (S : ZT) (d m lv : Int) : Int := ancF (S 3 d) (S 4 d m - lv).toNat m
/-- a tree is well formed -/
def MOK (S : ZT) (d m : Int) : Prop := 0 ≤ S 4 d m ∧ S 4 d m ≤ S 2 d 3 ∧ (S 4 d m = 0 ↔ m = 0) ∧ (0 < m → 0 ≤ S 3 d m ∧ S 3 d m < S 2 d 4 ∧ S 4 d m = S 4 d (S 3 d m) + 1)
def TOK (S : ZT) (d : Int) : Prop := (1 ≤ S 2 d 4 ∧ S 2 d 4 ≤ 24 ∧ 1 ≤ S 2 d 3 ∧ S 2 d 3 ≤ 3 ∧ 0 ≤ S 2 d 5 ∧ S 2 d 5 < S 2 d 4 ∧ S 3 d 0 = -1) ∧ (∀ m, 0 ≤ m → m < S 2 d 4 → MOK S d m) ∧ (∀ m, 0 ≤ m → m < 24 → S 5 d m = 0 ∨ S 5 d m = 1)
theorem TOK.at {S : ZT} {d m : Int} (h : TOK S d) (h0 : 0 ≤ m) (h1 : m < S 2 d 4) : MOK S d m := h.2.1 m h0 h1
/-- the parent's bounds, root or not -/
theorem TOK.par {S : ZT} {d m : Int} (h : TOK S d) (h0 : 0 ≤ m) (h1 : m < S 2 d 4) : -1 ≤ S 3 d m ∧ S 3 d m < 24 := by
  have a := h.at h0 h1
  have b := h.1
  unfold MOK at a
  by_cases e : m = 0
  · subst e; omega
  · have := a.2.2.2 (by omega); omega
/-- a fact is well formed -/
def FOK (S : ZT) (k : Int) : Prop := (∀ d, 0 ≤ d → d < S 0 0 5 → 0 ≤ S 8 d k ∧ S 8 d k < S 2 d 4 ∧ S 4 d (S 8 d k) = S 2 d 3) ∧ -10000 ≤ S 9 0 k ∧ S 9 0 k ≤ 10000
def seenT (S : ZT) (d m : Int) : Prop := bel S d m (S 2 d 5) ∧ ∀ a, 0 ≤ a → a < S 2 d 4 → S 5 d a = 1 → ¬ bel S d m a
def seen (S : ZT) (k : Int) : Prop := ∀ d, 0 ≤ d → d < S 0 0 5 → seenT S d (S 8 d k)
noncomputable def iv (p : Prop) : Int := @ite _ p (Classical.propDecidable _) 1 0
theorem iv_t {p : Prop} (h : p) : iv p = 1 := by unfold iv; rw [if_pos h]
theorem iv_f {p : Prop} (h : ¬ p) : iv p = 0 := by unfold iv; rw [if_neg h]
theorem iv_01 (p : Prop) : iv p = 0 ∨ iv p = 1 := by
  by_cases h : p
  · exact Or.inr (iv_t h)
  · exact Or.inl (iv_f h)
def sumTo (f : Int → Int) : Nat → Int
  | 0 => 0
  | n + 1 => sumTo f n + f n
theorem sumTo_congr {f h : Int → Int} {n : Nat} (e : ∀ k : Int, 0 ≤ k → k < n → f k = h k) : sumTo f n = sumTo h n := by
  induction n with
  | zero => rfl
  | succ n ih =>
    show sumTo f n + f n = sumTo h n + h n
    rw [ih (fun k h0 h1 => e k h0 (by omega)), e n (by omega) (by omega)]
theorem sumTo_bd {f : Int → Int} {n : Nat} {B : Int} (e : ∀ k : Int, 0 ≤ k → k < n → -B ≤ f k ∧ f k ≤ B) : -(B * n) ≤ sumTo f n ∧ sumTo f n ≤ B * n := by
  induction n with
  | zero => simp [sumTo]
  | succ n ih =>
    have h1 := ih (fun k h0 h1 => e k h0 (by omega))
    have h2 := e n (by omega) (by omega)
    have h3 : B * ((n + 1 : Nat) : Int) = B * n + B := by rw [Int.natCast_add, Int.mul_add]; simp
    show -(B * ((n + 1 : Nat) : Int)) ≤ sumTo f n + f n ∧ sumTo f n + f n ≤ B * ((n + 1 : Nat) : Int)
    rw [h3]
    omega
theorem ancF_add (par : Int → Int) (a b : Nat) (m : Int) : ancF par (a + b) m = ancF par b (ancF par a m) := by
  induction a generalizing m with
  | zero => simp [ancF]
  | succ a ih =>
    rw [show a + 1 + b = (a + b) + 1 by omega]
    exact ih (par m)
/-- going up n steps in a tree -/
theorem anc_dep {S : ZT} {d : Int} (h : TOK S d) : ∀ (n : Nat) (m : Int), 0 ≤ m → m < S 2 d 4 → (n : Int) ≤ S 4 d m → 0 ≤ ancF (S 3 d) n m ∧ ancF (S 3 d) n m < S 2 d 4 ∧ S 4 d (ancF (S 3 d) n m) = S 4 d m - n
  | 0, m, h0, h1, _ => ⟨h0, h1, by simp [ancF]⟩
  | n + 1, m, h0, h1, h2 => by
    have a := h.at h0 h1
    unfold MOK at a
    have hm : 0 < m := by
      rcases Int.lt_or_eq_of_le h0 with q | q
      · exact q
      · have := a.2.2.1.mpr q.symm; omega
    have b := a.2.2.2 hm
    have := anc_dep h n (S 3 d m) b.1 b.2.1 (by omega)
    refine ⟨this.1, this.2.1, ?_⟩
    show S 4 d (ancF (S 3 d) n (S 3 d m)) = _
    omega
theorem abv_ok {S : ZT} {d m lv : Int} (h : TOK S d) (h0 : 0 ≤ m) (h1 : m < S 2 d 4) (hl : 0 ≤ lv) : 0 ≤ abv S d m lv ∧ abv S d m lv < S 2 d 4 ∧ (lv ≤ S 4 d m → S 4 d (abv S d m lv) = lv) ∧ (S 4 d m ≤ lv → abv S d m lv = m) := by
  have a := h.at h0 h1
  unfold MOK at a
  unfold abv
  by_cases e : lv ≤ S 4 d m
  · have := anc_dep h (S 4 d m - lv).toNat m h0 h1 (by omega)
    refine ⟨this.1, this.2.1, fun _ => by omega, fun _ => ?_⟩
    rw [show (S 4 d m - lv).toNat = 0 by omega]; rfl
  · rw [show (S 4 d m - lv).toNat = 0 by omega]
    exact ⟨h0, h1, fun q => absurd q e, fun _ => rfl⟩
/-- what a call may leave behind in the places that are no state -/
def scr (k : Nat) : Bool := k == 10 || k == 15 || k == 16 || k == 17 || k == 18 || k == 19 || k == 21 || k == 23
def SP (Z Z' : ZT) : Prop := (∀ k : Nat, scr k = false → Z' k = Z k) ∧ ∀ i, Z' 15 i 4 = Z 15 i 4 ∧ Z' 15 i 5 = Z 15 i 5
theorem SP.rf (Z : ZT) : SP Z Z := ⟨fun _ _ => rfl, fun _ => ⟨rfl, rfl⟩⟩
theorem SP.tr {Z Z1 Z2 : ZT} (h : SP Z Z1) (h2 : SP Z1 Z2) : SP Z Z2 := ⟨fun k hk => (h2.1 k hk).trans (h.1 k hk), fun i => ⟨(h2.2 i).1.trans (h.2 i).1, (h2.2 i).2.trans (h.2 i).2⟩⟩
theorem sumTo_s {f : Int → Int} {a : Int} (h : 0 ≤ a) : sumTo f (a + 1).toNat = sumTo f a.toNat + f a := by
  rw [show (a + 1).toNat = a.toNat + 1 by omega]
  show sumTo f a.toNat + f (a.toNat : Int) = _
  rw [Int.toNat_of_nonneg h]
/-- how many are ahead of c, by their numbers s -/
noncomputable def ahd (s : Int → Int) (c : Int) (n : Nat) : Int := sumTo (fun o => iv (s c < s o ∨ (s o = s c ∧ o < c))) n
theorem ahd_bd (s : Int → Int) (c : Int) (n : Nat) : 0 ≤ ahd s c n ∧ ahd s c n ≤ n := by
  unfold ahd
  induction n with
  | zero => simp [sumTo]
  | succ n ih =>
    show 0 ≤ sumTo _ n + _ ∧ sumTo _ n + _ ≤ _
    have := iv_01 (s c < s n ∨ (s n = s c ∧ (n : Int) < c))
    simp only at ih ⊢
    omega
/-- the places that are shown -/
def shwF (used : Int → Int) (b : Int) : Nat → List Int
  | 0 => []
  | n + 1 => shwF used b n ++ (if used n = 1 ∨ b = 0 then [(n : Int)] else [])
theorem shwF_in {used : Int → Int} {b x : Int} : ∀ {n : Nat}, x ∈ shwF used b n → 0 ≤ x ∧ x < n ∧ (used x = 1 ∨ b = 0)
  | 0, h => by cases h
  | n + 1, h => by
    rcases List.mem_append.mp h with q | q
    · have := shwF_in q; exact ⟨this.1, by omega, this.2.2⟩
    · by_cases e : used n = 1 ∨ b = 0
      · rw [if_pos e] at q
        rw [List.mem_singleton.mp q]
        exact ⟨by omega, by omega, e⟩
      · rw [if_neg e] at q; cases q
theorem shwF_len {used : Int → Int} {b : Int} : ∀ (n : Nat), (shwF used b n).length ≤ n
  | 0 => Nat.le_refl _
  | n + 1 => by
    have := shwF_len (used := used) (b := b) n
    show (_ ++ _ : List Int).length ≤ _
    rw [List.length_append]
    by_cases e : used n = 1 ∨ b = 0
    · rw [if_pos e]; simp; omega
    · rw [if_neg e]; simp; omega
/-- one place falls out of a row -/
def gapF (gap n : Int) (f : Int → Int) : Int → Int := fun k => if gap ≤ k ∧ k < n then f (k + 1) else f k
