/-! least, greatest, the advice, the checksum -/
noncomputable def lsF (S : ZT) : Nat → Int
  | 0 => 10001
  | n + 1 => @ite _ (S 9 0 n < lsF S n ∧ seen S n) (Classical.propDecidable _) (S 9 0 n) (lsF S n)
noncomputable def gsF (S : ZT) : Nat → Int
  | 0 => -10001
  | n + 1 => @ite _ (gsF S n < S 9 0 n ∧ seen S n) (Classical.propDecidable _) (S 9 0 n) (gsF S n)
noncomputable def LEAST (S : ZT) : Int := if 10000 < lsF S (S 6 0 3).toNat then 0 else lsF S (S 6 0 3).toNat
noncomputable def GREAT (S : ZT) : Int := if gsF S (S 6 0 3).toNat < -10000 then 0 else gsF S (S 6 0 3).toNat
theorem lsF_s {S : ZT} {a : Int} (h : 0 ≤ a) : lsF S (a + 1).toNat = @ite _ (S 9 0 a < lsF S a.toNat ∧ seen S a) (Classical.propDecidable _) (S 9 0 a) (lsF S a.toNat) := by
  rw [show (a + 1).toNat = a.toNat + 1 by omega]
  show @ite _ (S 9 0 (a.toNat : Int) < lsF S a.toNat ∧ seen S (a.toNat : Int)) (Classical.propDecidable _) (S 9 0 (a.toNat : Int)) (lsF S a.toNat) = _
  rw [Int.toNat_of_nonneg h]
theorem gsF_s {S : ZT} {a : Int} (h : 0 ≤ a) : gsF S (a + 1).toNat = @ite _ (gsF S a.toNat < S 9 0 a ∧ seen S a) (Classical.propDecidable _) (S 9 0 a) (gsF S a.toNat) := by
  rw [show (a + 1).toNat = a.toNat + 1 by omega]
  show @ite _ (gsF S a.toNat < S 9 0 (a.toNat : Int) ∧ seen S (a.toNat : Int)) (Classical.propDecidable _) (S 9 0 (a.toNat : Int)) (gsF S a.toNat) = _
  rw [Int.toNat_of_nonneg h]
theorem lsF_in {S : ZT} (hW : WF S) : ∀ n : Nat, (n : Int) ≤ S 6 0 3 → -10000 ≤ lsF S n ∧ lsF S n ≤ 10001
  | 0, _ => ⟨by show (-10000 : Int) ≤ 10001; decide, Int.le_refl _⟩
  | n + 1, h => by
    have ih := lsF_in hW n (by omega)
    have := (hW.fk (k := n) (by omega) (by omega)).2
    unfold lsF
    split <;> omega
theorem gsF_in {S : ZT} (hW : WF S) : ∀ n : Nat, (n : Int) ≤ S 6 0 3 → -10001 ≤ gsF S n ∧ gsF S n ≤ 10000
  | 0, _ => ⟨Int.le_refl _, by show (-10001 : Int) ≤ 10000; decide⟩
  | n + 1, h => by
    have ih := gsF_in hW n (by omega)
    have := (hW.fk (k := n) (by omega) (by omega)).2
    unfold gsF
    split <;> omega
theorem LEAST_in {S : ZT} (hW : WF S) : -10000 ≤ LEAST S ∧ LEAST S ≤ 10000 := by
  have := lsF_in hW (S 6 0 3).toNat (by have := hW.f; omega)
  unfold LEAST
  split <;> omega
theorem GREAT_in {S : ZT} (hW : WF S) : -10000 ≤ GREAT S ∧ GREAT S ≤ 10000 := by
  have := gsF_in hW (S 6 0 3).toNat (by have := hW.f; omega)
  unfold GREAT
  split <;> omega
theorem GAIN_in {S : ZT} (h : WF S) {L : Int} (h1 : L < 256) : 0 ≤ GAIN S L ∧ GAIN S L ≤ 20480 := by
  have key : ∀ n : Nat, 0 ≤ sumTo (fun a => iv (reachP L a) * mx (COST S a - CELLS S L)) n ∧ sumTo (fun a => iv (reachP L a) * mx (COST S a - CELLS S L)) n ≤ 80 * n := by
    intro n
    induction n with
    | zero => simp [sumTo]
    | succ n ih =>
      have a := COST_in h n
      have b := CELLS_in h L
      have cf := h.f
      have m : 0 ≤ mx (COST S n - CELLS S L) ∧ mx (COST S n - CELLS S L) ≤ 80 := by unfold mx; split <;> omega
      show 0 ≤ sumTo _ n + _ ∧ sumTo _ n + _ ≤ _
      rcases iv_01 (reachP L n) with e | e <;> simp only [e] <;> omega
  have := key (L + 1).toNat
  unfold GAIN
  omega
/-- the advice, over the levels ahead of n: its gain and itself -/
noncomputable def adF (S : ZT) : Nat → Int × Int
  | 0 => (-1, 0)
  | n + 1 => @ite _ (LOK S n ∧ (adF S n).1 < GAIN S n) (Classical.propDecidable _) (GAIN S n, (n : Int)) (adF S n)
theorem adF_s {S : ZT} {a : Int} (h : 0 ≤ a) : adF S (a + 1).toNat = @ite _ (LOK S a ∧ (adF S a.toNat).1 < GAIN S a) (Classical.propDecidable _) (GAIN S a, a) (adF S a.toNat) := by
  rw [show (a + 1).toNat = a.toNat + 1 by omega]
  show @ite _ (LOK S (a.toNat : Int) ∧ (adF S a.toNat).1 < GAIN S (a.toNat : Int)) (Classical.propDecidable _) (GAIN S (a.toNat : Int), (a.toNat : Int)) (adF S a.toNat) = _
  rw [Int.toNat_of_nonneg h]
theorem LOK_0 {S : ZT} (hW : WF S) : LOK S 0 := ⟨by decide, by decide, fun d d0 d1 => by
  have := hW.deep d0 d1
  unfold lvl
  split
  · exact this.1
  · split
    · exact this.1
    · split <;> exact this.1⟩
theorem adF_in {S : ZT} (hW : WF S) : ∀ n : Nat, n ≤ 256 → -1 ≤ (adF S n).1 ∧ (adF S n).1 ≤ 20480 ∧ LOK S (adF S n).2
  | 0, _ => ⟨Int.le_refl _, by show (-1 : Int) ≤ 20480; decide, LOK_0 hW⟩
  | n + 1, h => by
    have ih := adF_in hW n (by omega)
    have g := GAIN_in hW (L := n) (by omega)
    unfold adF
    split
    · rename_i q
      exact ⟨by show -1 ≤ GAIN S n; omega, g.2, q.1⟩
    · exact ih
def mI (d : Int64) (z : Int) : Int64 := d * 31 + (iI z).toInt64
def mtF (S : ZT) (d : Int) (x : Int64) : Nat → Int64
  | 0 => x
  | n + 1 => mI (mI (mtF S d x n) (S 3 d n)) (S 4 d n)
def DT (S : ZT) (d : Int) (x : Int64) : Int64 := mI (mI (mtF S d (mI x (S 2 d 4)) (S 2 d 4).toNat) (S 2 d 5)) (lvl (S 0 0 6) d)
/-- the first child with a rank -/
noncomputable def fstR (s : Int → Int) (n : Nat) (q : Int) : Nat → Int → Int
  | 0, _ => -1
  | j + 1, c => @ite _ (ahd s c n = q) (Classical.propDecidable _) c (fstR s n q j (c + 1))
noncomputable def CR (S : ZT) (d q : Int) : Int := fstR (lsum S d) (kids S d).length q (kids S d).length 0
theorem fstR_is {s : Int → Int} {n : Nat} {q r : Int} : ∀ (j : Nat) (c : Int), ((c ≤ r ∧ r < c + j ∧ ahd s r n = q ∧ ∀ i, c ≤ i → i < r → ahd s i n ≠ q) ∨ (r = -1 ∧ ∀ i, c ≤ i → i < c + j → ahd s i n ≠ q)) → r = fstR s n q j c
  | 0, c, h => by
    rcases h with w | w
    · omega
    · exact w.1
  | j + 1, c, h => by
    show _ = @ite _ (ahd s c n = q) (Classical.propDecidable _) c (fstR s n q j (c + 1))
    by_cases e : ahd s c n = q
    · rw [if_pos e]
      rcases h with w | w
      · rcases Int.lt_or_eq_of_le w.1 with z | z
        · exact absurd e (w.2.2.2 c (Int.le_refl _) z)
        · exact z.symm
      · exact absurd e (w.2 c (Int.le_refl _) (by omega))
    · rw [if_neg e]
      refine fstR_is j (c + 1) ?_
      rcases h with w | w
      · refine Or.inl ⟨?_, by omega, w.2.2.1, fun i i0 i1 => w.2.2.2 i (by omega) i1⟩
        rcases Int.lt_or_eq_of_le w.1 with z | z
        · omega
        · subst z; exact absurd w.2.2.1 e
      · exact Or.inr ⟨w.1, fun i i0 i1 => w.2 i (by omega) (by omega)⟩
noncomputable def dlF (S : ZT) (d : Int) (x : Int64) : Nat → Int64
  | 0 => x
  | n + 1 => mI (dlF S d x n) (CR S d n)
noncomputable def DL (S : ZT) (d : Int) (x : Int64) : Int64 := dlF S d (mI x (kids S d).length) (kids S d).length
def ltF (W : List Int) (x : Int64) : Nat → Int64
  | 0 => x
  | n + 1 => mI (ltF W x n) (W.getD n 0)
noncomputable def ctF (S : ZT) (r : Int) (W : List Int) (x : Int64) : Nat → Int64
  | 0 => x
  | n + 1 => mI (ctF S r W x n) (tsum S r (W.getD n 0))
noncomputable def rtF (S : ZT) (R W : List Int) (x : Int64) : Nat → Int64
  | 0 => x
  | n + 1 => ctF S (R.getD n 0) W (rtF S R W x n) W.length
noncomputable def DTB (S : ZT) (x : Int64) : Int64 := rtF S (LN S 0) (LN S 1) (ltF (LN S 1) (ltF (LN S 0) (mI (mI x (LN S 0).length) (LN S 1).length) (LN S 0).length) (LN S 1).length) (LN S 0).length
def dvF (S : ZT) (x : Int64) : Nat → Int64
  | 0 => x
  | n + 1 => mI (mI (dvF S x n) (S 13 0 n)) (S 14 0 n)
def DV (S : ZT) (x : Int64) : Int64 := dvF S (mI x (S 11 0 3)) (S 11 0 3).toNat
def ddF (f : Int → Int64 → Int64) (x : Int64) : Nat → Int64
  | 0 => x
  | n + 1 => f n (ddF f x n)
noncomputable def DIG (S : ZT) : Int64 :=
  let a := ddF (DT S) (mI 2539 (S 0 0 5)) (S 0 0 5).toNat
  let b := mI (mI (mI (mI (mI a (S 6 0 3)) (CNT S)) (SUM S)) (LEAST S)) (GREAT S)
  let c := ddF (DL S) b (S 0 0 5).toNat
  let t := if S 0 0 7 = 1 then DTB S c else c
  mI (mI (mI (mI (DV S t) (CELLS S (S 0 0 6))) (COST S (S 0 0 6))) (VFOR S (S 0 0 6))) (GAIN S (S 0 0 6))
theorem nat_s {α : Type} (f : Nat → α) {a : Int} (h : 0 ≤ a) : f (a + 1).toNat = f (a.toNat + 1) := by rw [show (a + 1).toNat = a.toNat + 1 by omega]
