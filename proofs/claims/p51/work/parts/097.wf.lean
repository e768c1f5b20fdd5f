/-! levels as one number, views, cells; what is well formed -/
def lvl (L d : Int) : Int := if d = 0 then L / 64 % 4 else if d = 1 then L / 16 % 4 else if d = 2 then L / 4 % 4 else L % 4
theorem lvl_in (L d : Int) : 0 ≤ lvl L d ∧ lvl L d < 4 := by
  unfold lvl
  split
  · omega
  · split
    · omega
    · split <;> omega
def LOK (S : ZT) (L : Int) : Prop := 0 ≤ L ∧ L < 256 ∧ ∀ d, 0 ≤ d → d < 4 → lvl L d ≤ S 2 d 3
def UOK (S : ZT) (d : Int) : Prop := S 2 d 3 = 0 ∧ S 2 d 4 = 0 ∧ S 2 d 5 = 0 ∧ S 4 d 0 = 0
def WF (S : ZT) : Prop :=
  (0 ≤ S 0 0 5 ∧ S 0 0 5 ≤ 4) ∧ (∀ d, 0 ≤ d → d < S 0 0 5 → TOK S d) ∧ (∀ d, S 0 0 5 ≤ d → d < 4 → UOK S d) ∧ (0 ≤ S 6 0 3 ∧ S 6 0 3 ≤ 80) ∧ (∀ k, 0 ≤ k → k < S 6 0 3 → FOK S k) ∧
  (0 ≤ S 11 0 3 ∧ S 11 0 3 ≤ 6) ∧ (∀ v, 0 ≤ v → v < 6 → S 14 0 v = 0 ∨ S 14 0 v = 1) ∧ (∀ v, 0 ≤ v → v < S 11 0 3 → LOK S (S 12 0 v) ∧ 0 ≤ S 13 0 v ∧ S 13 0 v ≤ 80) ∧ LOK S (S 0 0 6) ∧ (S 0 0 7 = 0 ∨ S 0 0 7 = 1) ∧ (S 0 0 8 = 0 ∨ S 0 0 8 = 1) ∧
  (S 0 0 7 = 1 → ∀ i, 0 ≤ i → i < 2 → 0 ≤ S 15 i 4 ∧ S 15 i 4 < S 0 0 5 ∧ 0 ≤ S 15 i 5 ∧ S 15 i 5 ≤ S 2 (S 15 i 4) 3) ∧ (S 0 0 7 = 1 → S 15 0 4 ≠ S 15 1 4)
theorem WF.n {S : ZT} (h : WF S) : 0 ≤ S 0 0 5 ∧ S 0 0 5 ≤ 4 := h.1
theorem WF.t {S : ZT} (h : WF S) {d : Int} (h0 : 0 ≤ d) (h1 : d < S 0 0 5) : TOK S d := h.2.1 d h0 h1
theorem WF.f {S : ZT} (h : WF S) : 0 ≤ S 6 0 3 ∧ S 6 0 3 ≤ 80 := h.2.2.2.1
theorem WF.fk {S : ZT} (h : WF S) {k : Int} (h0 : 0 ≤ k) (h1 : k < S 6 0 3) : FOK S k := h.2.2.2.2.1 k h0 h1
theorem WF.v {S : ZT} (h : WF S) : 0 ≤ S 11 0 3 ∧ S 11 0 3 ≤ 6 := h.2.2.2.2.2.1
theorem WF.st {S : ZT} (h : WF S) {v : Int} (h0 : 0 ≤ v) (h1 : v < 6) : S 14 0 v = 0 ∨ S 14 0 v = 1 := h.2.2.2.2.2.2.1 v h0 h1
theorem WF.vw {S : ZT} (h : WF S) {v : Int} (h0 : 0 ≤ v) (h1 : v < S 11 0 3) : LOK S (S 12 0 v) ∧ 0 ≤ S 13 0 v ∧ S 13 0 v ≤ 80 := h.2.2.2.2.2.2.2.1 v h0 h1
theorem WF.lv {S : ZT} (h : WF S) : LOK S (S 0 0 6) := h.2.2.2.2.2.2.2.2.1
theorem WF.ax {S : ZT} (h : WF S) : S 0 0 7 = 0 ∨ S 0 0 7 = 1 := h.2.2.2.2.2.2.2.2.2.1
theorem WF.ba {S : ZT} (h : WF S) : S 0 0 8 = 0 ∨ S 0 0 8 = 1 := h.2.2.2.2.2.2.2.2.2.2.1
theorem WF.ai {S : ZT} (h : WF S) (ha : S 0 0 7 = 1) {i : Int} (h0 : 0 ≤ i) (h1 : i < 2) : 0 ≤ S 15 i 4 ∧ S 15 i 4 < S 0 0 5 ∧ 0 ≤ S 15 i 5 ∧ S 15 i 5 ≤ S 2 (S 15 i 4) 3 := h.2.2.2.2.2.2.2.2.2.2.2.1 ha i h0 h1
theorem WF.ad {S : ZT} (h : WF S) (ha : S 0 0 7 = 1) : S 15 0 4 ≠ S 15 1 4 := h.2.2.2.2.2.2.2.2.2.2.2.2 ha
theorem WF.deep {S : ZT} (h : WF S) {d : Int} (h0 : 0 ≤ d) (h1 : d < 4) : 0 ≤ S 2 d 3 ∧ S 2 d 3 ≤ 3 := by
  by_cases e : d < S 0 0 5
  · have := (h.t h0 e).1; omega
  · have := h.2.2.1 d (by omega) h1
    unfold UOK at this; omega
def reachP (A B : Int) : Prop := lvl B 0 ≤ lvl A 0 ∧ lvl B 1 ≤ lvl A 1 ∧ lvl B 2 ≤ lvl A 2 ∧ lvl B 3 ≤ lvl A 3
def sameC (S : ZT) (L j k : Int) : Prop := ∀ d, 0 ≤ d → d < S 0 0 5 → abv S d (S 8 d j) (lvl L d) = abv S d (S 8 d k) (lvl L d)
noncomputable def CELLS (S : ZT) (L : Int) : Int := sumTo (fun k => iv (∀ j, 0 ≤ j → j < k → ¬ sameC S L j k)) (S 6 0 3).toNat
def cnF (S : ZT) (L k : Int) : Nat → Int
  | 0 => 0
  | n + 1 => cnF S L k n * 24 + abv S n (S 8 n k) (lvl L n)
def prc (S : ZT) (b : Int) : Int := if b = -1 then S 6 0 3 else S 13 0 b
noncomputable def vfF (S : ZT) (L : Int) : Nat → Int
  | 0 => -1
  | n + 1 => @ite _ (S 13 0 n < prc S (vfF S L n) ∧ S 14 0 n = 0 ∧ reachP (S 12 0 n) L) (Classical.propDecidable _) (n : Int) (vfF S L n)
noncomputable def VFOR (S : ZT) (L : Int) : Int := vfF S L (S 11 0 3).toNat
noncomputable def COST (S : ZT) (L : Int) : Int := prc S (VFOR S L)
def mx (a : Int) : Int := if a < 0 then 0 else a
noncomputable def GAIN (S : ZT) (L : Int) : Int := sumTo (fun a => iv (reachP L a) * mx (COST S a - CELLS S L)) (L + 1).toNat
theorem vfF_in (S : ZT) (L : Int) (n : Nat) : -1 ≤ vfF S L n ∧ vfF S L n < n := by
  induction n with
  | zero => exact ⟨Int.le_refl _, by show (-1 : Int) < 0; decide⟩
  | succ n ih =>
    unfold vfF
    split <;> omega
theorem sumTo_iv (f : Int → Prop) (n : Nat) : 0 ≤ sumTo (fun k => iv (f k)) n ∧ sumTo (fun k => iv (f k)) n ≤ n := by
  induction n with
  | zero => simp [sumTo]
  | succ n ih =>
    show 0 ≤ sumTo _ n + _ ∧ sumTo _ n + _ ≤ _
    have := iv_01 (f n)
    simp only at ih ⊢
    omega
theorem CELLS_in {S : ZT} (h : WF S) (L : Int) : 0 ≤ CELLS S L ∧ CELLS S L ≤ S 6 0 3 := by
  have := sumTo_iv (fun k => ∀ j, 0 ≤ j → j < k → ¬ sameC S L j k) (S 6 0 3).toNat
  have := h.f
  unfold CELLS
  omega
theorem COST_in {S : ZT} (h : WF S) (L : Int) : 0 ≤ COST S L ∧ COST S L ≤ 80 := by
  have a := vfF_in S L (S 11 0 3).toNat
  have b := h.f
  have c := h.v
  unfold COST VFOR prc
  split
  · omega
  · have := h.vw (v := vfF S L (S 11 0 3).toNat) (by omega) (by omega)
    omega
theorem shr_lvl {L d : Int} (h0 : 0 ≤ L) (h1 : L < 256) (d0 : 0 ≤ d) (d1 : d < 4) : ∃ z, 0 ≤ z ∧ z < 256 ∧ iI L >>> (iI ((3 - d) * 2) &&& 31) = iI z ∧ iI z &&& iI 3 = iI (lvl L d) := by
  have key : ∀ (L : Fin 256) (d : Fin 4), iI (L.val : Int) >>> (iI ((3 - (d.val : Int)) * 2) &&& 31) = iI ((L.val : Int) / 4 ^ (3 - d.val)) ∧ iI ((L.val : Int) / 4 ^ (3 - d.val)) &&& iI 3 = iI (lvl (L.val : Int) (d.val : Int)) ∧ 0 ≤ (L.val : Int) / 4 ^ (3 - d.val) ∧ (L.val : Int) / 4 ^ (3 - d.val) < 256 := by decide +kernel
  have := key ⟨L.toNat, by omega⟩ ⟨d.toNat, by omega⟩
  simp only [Int.toNat_of_nonneg h0, Int.toNat_of_nonneg d0] at this
  exact ⟨_, this.2.2.1, this.2.2.2, this.1, this.2.1⟩
def mk4 : Nat → Int
  | 0 => 3
  | n + 1 => mk4 n * 4
theorem and_mk {L : Int} (h0 : 0 ≤ L) (h1 : L < 256) : ∀ j : Nat, j < 4 → iI L &&& iI (mk4 j) = iI (lvl L (3 - j) * 4 ^ j) := by
  have key : ∀ (L : Fin 256) (j : Fin 4), iI (L.val : Int) &&& iI (mk4 j.val) = iI (lvl (L.val : Int) (3 - j.val) * 4 ^ j.val) := by decide +kernel
  intro j hj
  have := key ⟨L.toNat, by omega⟩ ⟨j, hj⟩
  simp only [Int.toNat_of_nonneg h0] at this
  exact this
theorem cnF_bd {S : ZT} (h : WF S) {L k : Int} (h0 : 0 ≤ k) (h1 : k < S 6 0 3) : ∀ n : Nat, (n : Int) ≤ S 0 0 5 → 0 ≤ cnF S L k n ∧ cnF S L k n < 24 ^ n
  | 0, _ => ⟨Int.le_refl _, by show (0 : Int) < 1; decide⟩
  | n + 1, hn => by
    have ih := cnF_bd h (L := L) h0 h1 n (by omega)
    have ht := h.t (d := n) (by omega) (by omega)
    have hf := (h.fk h0 h1).1 n (by omega) (by omega)
    have ha := abv_ok ht hf.1 hf.2.1 (lvl_in L n).1
    have h24 := ht.1
    show 0 ≤ cnF S L k n * 24 + _ ∧ cnF S L k n * 24 + _ < 24 ^ (n + 1)
    rw [Int.pow_succ]
    omega
theorem cnF_inj {S : ZT} (h : WF S) {L j k : Int} (j0 : 0 ≤ j) (j1 : j < S 6 0 3) (k0 : 0 ≤ k) (k1 : k < S 6 0 3) : ∀ n : Nat, (n : Int) ≤ S 0 0 5 → (cnF S L j n = cnF S L k n ↔ ∀ d, 0 ≤ d → d < (n : Int) → abv S d (S 8 d j) (lvl L d) = abv S d (S 8 d k) (lvl L d))
  | 0, _ => ⟨fun _ d a b => by omega, fun _ => rfl⟩
  | n + 1, hn => by
    have ih := cnF_inj h (L := L) j0 j1 k0 k1 n (by omega)
    have ht := h.t (d := n) (by omega) (by omega)
    have hf := (h.fk k0 k1).1 n (by omega) (by omega)
    have hg := (h.fk j0 j1).1 n (by omega) (by omega)
    have ha := abv_ok ht hf.1 hf.2.1 (lvl_in L n).1
    have hb := abv_ok ht hg.1 hg.2.1 (lvl_in L n).1
    have h24 := ht.1
    constructor
    · intro e d d0 d1
      have e : cnF S L j n * 24 + abv S n (S 8 n j) (lvl L n) = cnF S L k n * 24 + abv S n (S 8 n k) (lvl L n) := e
      by_cases q : d = n
      · subst q; omega
      · exact ih.mp (by omega) d d0 (by omega)
    · intro e
      show cnF S L j n * 24 + abv S n (S 8 n j) (lvl L n) = cnF S L k n * 24 + abv S n (S 8 n k) (lvl L n)
      rw [ih.mpr (fun d d0 d1 => e d d0 (by omega)), e n (by omega) (by omega)]
