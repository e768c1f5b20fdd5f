/-! numbers: every int of the machine is written as iI of a whole number -/
def iI (z : Int) : Int32 := Int32.ofInt z
abbrev inR (z : Int) : Prop := -2147483648 ≤ z ∧ z < 2147483648
theorem iI_toInt {z : Int} (h : inR z) : (iI z).toInt = z := by
  unfold iI
  exact Int32.toInt_ofInt_of_le (by have := h.1; omega) (by have := h.2; omega)
theorem iI_of (x : Int32) : iI x.toInt = x := by
  unfold iI
  exact Int32.ofInt_toInt x
theorem inR_of (x : Int32) : inR x.toInt := ⟨by have := Int32.le_toInt x; omega, by have := Int32.toInt_lt x; omega⟩
theorem iI_add (a b : Int) : iI a + iI b = iI (a + b) := by unfold iI; exact (Int32.ofInt_add a b).symm
theorem iI_sub (a b : Int) : iI a - iI b = iI (a - b) := by unfold iI; exact (Int32.ofInt_sub a b).symm
theorem iI_mul (a b : Int) : iI a * iI b = iI (a * b) := by unfold iI; exact (Int32.ofInt_mul a b).symm
theorem iI_inj {a b : Int} (ha : inR a) (hb : inR b) (h : iI a = iI b) : a = b := by
  rw [← iI_toInt ha, ← iI_toInt hb, h]
theorem iI_le {a b : Int} (ha : inR a) (hb : inR b) : iI a ≤ iI b ↔ a ≤ b := by
  rw [Int32.le_iff_toInt_le, iI_toInt ha, iI_toInt hb]
theorem iI_lt {a b : Int} (ha : inR a) (hb : inR b) : iI a < iI b ↔ a < b := by
  rw [Int32.lt_iff_toInt_lt, iI_toInt ha, iI_toInt hb]
theorem iI_eq {a b : Int} (ha : inR a) (hb : inR b) : iI a = iI b ↔ a = b := ⟨iI_inj ha hb, fun h => by rw [h]⟩
theorem iI_nat (n : Nat) : iI (n : Int) = nI n := by
  unfold iI nI
  first | rfl | simp
theorem iI_0 : iI 0 = 0 := by decide +kernel
theorem iI_clamp {z : Int} (h0 : 0 ≤ z) (h : z < 2147483648) : (iI z).toNatClampNeg = z.toNat := by
  obtain ⟨n, rfl⟩ := Int.eq_ofNat_of_zero_le h0
  rw [iI_nat, nI_clamp (by omega)]
  rfl
theorem iI_in {z : Int} {n : Nat} (h0 : 0 ≤ z) (h : z < n) (hn : n < 2 ^ 31) : vp_in (iI z) n := by
  obtain ⟨k, rfl⟩ := Int.eq_ofNat_of_zero_le h0
  rw [iI_nat]
  exact vp_in_nI (by omega) hn
/-! the memory: kinds of places; ad k i: the address of place i of kind k; Z k i j: the whole number in its field or element j -/
abbrev ZT : Type := Nat → Int → Int → Int
def vK (k : Nat) : Int := match k with
  | 0 => 1 | 1 => 1 | 2 => 4 | 3 => 4 | 4 => 4 | 5 => 4 | 6 => 1 | 7 => 1 | 8 => 4 | 9 => 1 | 10 => 1 | 11 => 1 | 12 => 1 | 13 => 1 | 14 => 1 | 15 => 2 | 16 => 4 | 17 => 4 | 18 => 2 | 19 => 2 | 20 => 1 | 21 => 1 | 22 => 1 | 23 => 24
  | _ => 0
abbrev vd (k : Nat) (i : Int) : Prop := 0 ≤ i ∧ i < vK k
abbrev eI (c : ClassId) (n : Nat) (z : Int → Int) : va_E := .inl (c, n, .inl (fun q => iI (z q)))
abbrev eQ (c : ClassId) (n : Nat) (f : Nat → Option Nat) : va_E := .inl (c, n, .inr (.inr (.inr (.inr f))))
abbrev fi (z : Int → Int) (k : Int) : Value := .int (iI (z k))
/-- what lies at place i of kind k -/
def cC (cys : Nat → ClassId) (ad : Nat → Int → Nat) (k : Nat) (i : Int) (X : Int64) (z : Int → Int) : va_E := match k with
  | 0 => .inr (6, [.ref (ad 1 0), .ref (ad 6 0), .ref (ad 11 0), .ref (ad 15 0), .ref (ad 15 1), fi z 5, fi z 6, fi z 7, fi z 8, .ref (ad 16 2), .ref (ad 20 0), .ref (ad 22 0)])
  | 1 => eQ (cys 3) 4 (fun j => some (ad 2 j))
  | 2 => .inr (4, [.ref (ad 3 i), .ref (ad 4 i), .ref (ad 5 i), fi z 3, fi z 4, fi z 5])
  | 3 => eI (cys 0) 24 z
  | 4 => eI (cys 0) 24 z
  | 5 => eI (cys 1) 24 z
  | 6 => .inr (1, [.ref (ad 7 0), .ref (ad 9 0), .ref (ad 10 0), fi z 3])
  | 7 => eQ (cys 4) 4 (fun j => some (ad 8 j))
  | 8 => eI (cys 0) 80 z
  | 9 => eI (cys 0) 80 z
  | 10 => eI (cys 0) 80 z
  | 11 => .inr (5, [.ref (ad 12 0), .ref (ad 13 0), .ref (ad 14 0), fi z 3])
  | 12 => eI (cys 0) 6 z
  | 13 => eI (cys 0) 6 z
  | 14 => eI (cys 1) 6 z
  | 15 => .inr (0, [.ref (ad 16 i), .ref (ad 18 i), .ref (ad 19 i), fi z 3, fi z 4, fi z 5])
  | 16 => .inr (3, [.ref (ad 17 i), fi z 1])
  | 17 => eI (cys 0) 24 z
  | 18 => eI (cys 1) 24 z
  | 19 => eI (cys 0) 24 z
  | 20 => .inr (2, [.ref (ad 16 3), .ref (ad 21 0)])
  | 21 => eI (cys 0) 24 z
  | 22 => eQ (cys 4) 24 (fun j => some (ad 23 j))
  | 23 => eI (cys 0) 24 z
  | _ => .inr (0, [])
def injA (ad : Nat → Int → Nat) : Prop := ∀ (k : Nat) (i : Int) (k' : Nat) (i' : Int), vd k i → vd k' i' → ad k i = ad k' i' → k = k' ∧ i = i'
def isS (ad : Nat → Int → Nat) (a : Nat) : Prop := ∃ q : Nat × Int, vd q.1 q.2 ∧ ad q.1 q.2 = a
/-- the whole memory: the fixed places by Z and X, the other ones by g -/
noncomputable def ov (cys : Nat → ClassId) (ad : Nat → Int → Nat) (g : Nat → va_E) (X : Int64) (Z : ZT) : Nat → va_E := fun a =>
  @dite _ (isS ad a) (Classical.propDecidable _) (fun h => cC cys ad h.choose.1 h.choose.2 X (Z h.choose.1 h.choose.2)) (fun _ => g a)
theorem ov_at {cys : Nat → ClassId} {ad : Nat → Int → Nat} {g : Nat → va_E} {X : Int64} {Z : ZT} (hi : injA ad) {k : Nat} {i : Int} (h : vd k i) : ov cys ad g X Z (ad k i) = cC cys ad k i X (Z k i) := by
  have hs : isS ad (ad k i) := ⟨(k, i), h, rfl⟩
  have e := hi _ _ _ _ hs.choose_spec.1 h hs.choose_spec.2
  unfold ov
  rw [dif_pos hs, e.1, e.2]
theorem ov_dyn {cys : Nat → ClassId} {ad : Nat → Int → Nat} {g : Nat → va_E} {X : Int64} {Z : ZT} {a : Nat} (h : ¬ isS ad a) : ov cys ad g X Z a = g a := by
  unfold ov
  rw [dif_neg h]
/-- one place's row changes -/
def zR (Z : ZT) (k : Nat) (i : Int) (z : Int → Int) : ZT := fun k' i' => if k' = k ∧ i' = i then z else Z k' i'
def rS (z : Int → Int) (j : Int) (v : Int) : Int → Int := fun q => if q = j then v else z q
/-- one number changes -/
def zS (Z : ZT) (k : Nat) (i j v : Int) : ZT := zR Z k i (rS (Z k i) j v)
theorem zR_at {Z : ZT} {k : Nat} {i : Int} {z : Int → Int} : zR Z k i z k i = z := if_pos ⟨rfl, rfl⟩
theorem ov_set {cys : Nat → ClassId} {ad : Nat → Int → Nat} {g : Nat → va_E} {X : Int64} {Z : ZT} (hi : injA ad) {k : Nat} {i : Int} (h : vd k i) (z : Int → Int) : va_up (ov cys ad g X Z) (ad k i) (cC cys ad k i X z) = ov cys ad g X (zR Z k i z) := by
  funext a
  by_cases ha : a = ad k i
  · subst ha
    rw [va_up_self, ov_at hi h, zR_at]
  · rw [va_up_ne _ _ ha]
    by_cases hs : isS ad a
    · obtain ⟨⟨k', i'⟩, h1, rfl⟩ := hs
      rw [ov_at hi h1, ov_at hi h1]
      unfold zR
      rw [if_neg]
      rintro ⟨rfl, rfl⟩
      exact ha rfl
    · rw [ov_dyn hs, ov_dyn hs]
theorem ov_up {cys : Nat → ClassId} {ad : Nat → Int → Nat} {g : Nat → va_E} {X : Int64} {Z : ZT} {a : Nat} {x : va_E} (h : ¬ isS ad a) : va_up (ov cys ad g X Z) a x = ov cys ad (va_up g a x) X Z := by
  funext b
  by_cases hb : b = a
  · subst hb
    rw [va_up_self, ov_dyn h, va_up_self]
  · rw [va_up_ne _ _ hb]
    by_cases hs : isS ad b
    · obtain ⟨⟨k', i'⟩, h1, rfl⟩ := hs
      unfold ov
      have hs' : isS ad (ad k' i') := ⟨(k', i'), h1, rfl⟩
      rw [dif_pos hs', dif_pos hs']
    · rw [ov_dyn hs, ov_dyn hs, va_up_ne _ _ hb]
theorem zS_k {Z : ZT} {k k' : Nat} {i j v : Int} (h : k' ≠ k) : zS Z k i j v k' = Z k' := by
  funext i'
  unfold zS zR
  rw [if_neg (fun q => h q.1)]
theorem zS_i {Z : ZT} {k : Nat} {i i' j v : Int} (h : i' ≠ i) : zS Z k i j v k i' = Z k i' := by
  unfold zS zR
  rw [if_neg (fun q => h q.2)]
theorem zS_j {Z : ZT} {k : Nat} {i j j' v : Int} (h : j' ≠ j) : zS Z k i j v k i j' = Z k i j' := by
  unfold zS zR
  rw [if_pos ⟨rfl, rfl⟩]
  unfold rS
  rw [if_neg h]
theorem zS_s {Z : ZT} {k : Nat} {i j v : Int} : zS Z k i j v k i j = v := by
  unfold zS zR
  rw [if_pos ⟨rfl, rfl⟩]
  unfold rS
  rw [if_pos rfl]
theorem zS_o {Z : ZT} {k k' : Nat} {i i' j v : Int} (h : ¬ (k' = k ∧ i' = i)) : zS Z k i j v k' i' = Z k' i' := by
  unfold zS zR
  rw [if_neg h]
theorem zS_v {Z : ZT} {k : Nat} {i j j' v : Int} : zS Z k i j v k i j' = if j' = j then v else Z k i j' := by
  unfold zS zR
  rw [if_pos ⟨rfl, rfl⟩]
  rfl
