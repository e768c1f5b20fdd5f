/-! levels as the model counts them: one number to the base 4, of as many digits as there are dimensions -/
def dg (n M d : Int) : Int := M / 4 ^ (n - 1 - d).toNat % 4
def LV (n M : Int) : Int := M * 4 ^ (4 - n).toNat
theorem n4 {n : Int} (h0 : 0 ≤ n) (h1 : n ≤ 4) : (n = 0 ∧ ∀ M, LV n M = M * 256) ∨ (n = 1 ∧ ∀ M, LV n M = M * 64) ∨ (n = 2 ∧ ∀ M, LV n M = M * 16) ∨ (n = 3 ∧ ∀ M, LV n M = M * 4) ∨ (n = 4 ∧ ∀ M, LV n M = M) := by
  have p0 : (4 : Int) ^ (4 - 0 : Int).toNat = 256 := by decide
  have p1 : (4 : Int) ^ (4 - 1 : Int).toNat = 64 := by decide
  have p2 : (4 : Int) ^ (4 - 2 : Int).toNat = 16 := by decide
  have p3 : (4 : Int) ^ (4 - 3 : Int).toNat = 4 := by decide
  have p4 : (4 : Int) ^ (4 - 4 : Int).toNat = 1 := by decide
  have : n = 0 ∨ n = 1 ∨ n = 2 ∨ n = 3 ∨ n = 4 := by omega
  rcases this with rfl | rfl | rfl | rfl | rfl
  · exact Or.inl ⟨rfl, fun M => by unfold LV; rw [p0]⟩
  · exact Or.inr (Or.inl ⟨rfl, fun M => by unfold LV; rw [p1]⟩)
  · exact Or.inr (Or.inr (Or.inl ⟨rfl, fun M => by unfold LV; rw [p2]⟩))
  · exact Or.inr (Or.inr (Or.inr (Or.inl ⟨rfl, fun M => by unfold LV; rw [p3]⟩)))
  · exact Or.inr (Or.inr (Or.inr (Or.inr ⟨rfl, fun M => by unfold LV; rw [p4, Int.mul_one]⟩)))
theorem dg_lvl {n M d : Int} (h0 : 0 ≤ d) (h1 : d < n) (h2 : n ≤ 4) (hM : 0 ≤ M) : dg n M d = lvl (LV n M) d := by
  have q0 : (4 : Int) ^ (0 : Int).toNat = 1 := by decide
  have q1 : (4 : Int) ^ (1 : Int).toNat = 4 := by decide
  have q2 : (4 : Int) ^ (2 : Int).toNat = 16 := by decide
  have q3 : (4 : Int) ^ (3 : Int).toNat = 64 := by decide
  have hd : d = 0 ∨ d = 1 ∨ d = 2 ∨ d = 3 := by omega
  rcases n4 (n := n) (by omega) h2 with ⟨rfl, e⟩ | ⟨rfl, e⟩ | ⟨rfl, e⟩ | ⟨rfl, e⟩ | ⟨rfl, e⟩ <;> rw [e] <;> unfold dg lvl <;> rcases hd with rfl | rfl | rfl | rfl <;> first
  | (exfalso; omega)
  | (simp only [show (1 - 1 - 0 : Int) = 0 by decide, show (2 - 1 - 0 : Int) = 1 by decide, show (2 - 1 - 1 : Int) = 0 by decide, show (3 - 1 - 0 : Int) = 2 by decide, show (3 - 1 - 1 : Int) = 1 by decide, show (3 - 1 - 2 : Int) = 0 by decide, show (4 - 1 - 0 : Int) = 3 by decide, show (4 - 1 - 1 : Int) = 2 by decide, show (4 - 1 - 2 : Int) = 1 by decide, show (4 - 1 - 3 : Int) = 0 by decide, q0, q1, q2, q3]
     simp
     try omega)
theorem lvl_hi {n M d : Int} (h0 : 0 ≤ n) (h1 : n ≤ d) (h2 : d < 4) : lvl (LV n M) d = 0 := by
  have hd : d = 0 ∨ d = 1 ∨ d = 2 ∨ d = 3 := by omega
  rcases n4 (n := n) h0 (by omega) with ⟨rfl, e⟩ | ⟨rfl, e⟩ | ⟨rfl, e⟩ | ⟨rfl, e⟩ | ⟨rfl, e⟩ <;> rw [e] <;> unfold lvl <;> rcases hd with rfl | rfl | rfl | rfl <;> first
  | (exfalso; omega)
  | (simp; try omega)
theorem LV_in {n M : Int} (h0 : 0 ≤ n) (h1 : n ≤ 4) (a : 0 ≤ LV n M) (b : LV n M < 256) : 0 ≤ M ∧ M < 256 := by
  rcases n4 h0 h1 with ⟨rfl, e⟩ | ⟨rfl, e⟩ | ⟨rfl, e⟩ | ⟨rfl, e⟩ | ⟨rfl, e⟩ <;> rw [e] at a b <;> omega
theorem LV_nn {n M : Int} (h0 : 0 ≤ n) (h1 : n ≤ 4) (a : 0 ≤ M) : 0 ≤ LV n M ∧ M ≤ LV n M := by
  rcases n4 h0 h1 with ⟨rfl, e⟩ | ⟨rfl, e⟩ | ⟨rfl, e⟩ | ⟨rfl, e⟩ | ⟨rfl, e⟩ <;> rw [e] <;> omega
theorem LV_inj {n M N : Int} (h0 : 0 ≤ n) (h1 : n ≤ 4) (e : LV n M = LV n N) : M = N := by
  rcases n4 h0 h1 with ⟨rfl, q⟩ | ⟨rfl, q⟩ | ⟨rfl, q⟩ | ⟨rfl, q⟩ | ⟨rfl, q⟩ <;> rw [q, q] at e <;> omega
theorem shr_dg {M n d : Int} (h0 : 0 ≤ M) (h1 : M < 256) (d0 : 0 ≤ d) (d1 : d < n) (n4 : n ≤ 4) : iI M >>> (iI (2 * (n - 1 - d)) &&& 31) = iI (M / 4 ^ (n - 1 - d).toNat) ∧ iI (M / 4 ^ (n - 1 - d).toNat) &&& iI 3 = iI (dg n M d) := by
  have key : ∀ (M : Fin 256) (j : Fin 4), iI (M.val : Int) >>> (iI (2 * (j.val : Int)) &&& 31) = iI ((M.val : Int) / 4 ^ (j.val : Int).toNat) ∧ iI ((M.val : Int) / 4 ^ (j.val : Int).toNat) &&& iI 3 = iI ((M.val : Int) / 4 ^ (j.val : Int).toNat % 4) := by decide +kernel
  have := key ⟨M.toNat, by omega⟩ ⟨(n - 1 - d).toNat, by omega⟩
  simp only [Int.toNat_of_nonneg h0, Int.toNat_of_nonneg (show 0 ≤ n - 1 - d by omega)] at this
  exact this
theorem shl_4 {n : Int} (h0 : 0 ≤ n) (h1 : n ≤ 4) : iI 1 <<< (iI (2 * n) &&& 31) = iI (4 ^ n.toNat) := by
  have key : ∀ j : Fin 5, iI 1 <<< (iI (2 * (j.val : Int)) &&& 31) = iI (4 ^ (j.val : Int).toNat) := by decide +kernel
  have := key ⟨n.toNat, by omega⟩
  simp only [Int.toNat_of_nonneg h0] at this
  exact this
theorem pow4_in {n : Int} (h0 : 0 ≤ n) (h1 : n ≤ 4) : 1 ≤ (4 : Int) ^ n.toNat ∧ (4 : Int) ^ n.toNat ≤ 256 ∧ ∀ M, (M < 4 ^ n.toNat ↔ LV n M < 256) := by
  have p0 : (4 : Int) ^ (0 : Int).toNat = 1 := by decide
  have p1 : (4 : Int) ^ (1 : Int).toNat = 4 := by decide
  have p2 : (4 : Int) ^ (2 : Int).toNat = 16 := by decide
  have p3 : (4 : Int) ^ (3 : Int).toNat = 64 := by decide
  have p4 : (4 : Int) ^ (4 : Int).toNat = 256 := by decide
  rcases n4 h0 h1 with ⟨rfl, e⟩ | ⟨rfl, e⟩ | ⟨rfl, e⟩ | ⟨rfl, e⟩ | ⟨rfl, e⟩
  · rw [p0]; exact ⟨by omega, by omega, fun M => by rw [e]; omega⟩
  · rw [p1]; exact ⟨by omega, by omega, fun M => by rw [e]; omega⟩
  · rw [p2]; exact ⟨by omega, by omega, fun M => by rw [e]; omega⟩
  · rw [p3]; exact ⟨by omega, by omega, fun M => by rw [e]; omega⟩
  · rw [p4]; exact ⟨by omega, by omega, fun M => by rw [e]⟩
/-- levels that are levels, by the digits -/
theorem LOK_dg {S : ZT} (hW : WF S) {M : Int} (h0 : 0 ≤ M) : LOK S (LV (S 0 0 5) M) ↔ (∀ d, 0 ≤ d → d < S 0 0 5 → dg (S 0 0 5) M d ≤ S 2 d 3) ∧ M < 4 ^ (S 0 0 5).toNat := by
  have hn := hW.n
  have hp := (pow4_in hn.1 hn.2).2.2 M
  have hnn := LV_nn hn.1 hn.2 h0
  constructor
  · intro h
    refine ⟨fun d d0 d1 => ?_, hp.mpr h.2.1⟩
    rw [dg_lvl d0 d1 hn.2 h0]
    exact h.2.2 d d0 (by omega)
  · intro h
    refine ⟨hnn.1, hp.mp h.2, fun d d0 d1 => ?_⟩
    by_cases e : d < S 0 0 5
    · have := h.1 d d0 e
      rw [dg_lvl d0 e hn.2 h0] at this
      exact this
    · rw [lvl_hi hn.1 (by omega) d1]
      exact (hW.deep d0 d1).1
theorem reach_dg {n A B : Int} (h0 : 0 ≤ n) (h1 : n ≤ 4) (hA : 0 ≤ A) (hB : 0 ≤ B) : reachP (LV n A) (LV n B) ↔ ∀ d, 0 ≤ d → d < n → dg n B d ≤ dg n A d := by
  have key : ∀ d, 0 ≤ d → d < 4 → (lvl (LV n B) d ≤ lvl (LV n A) d ↔ (d < n → dg n B d ≤ dg n A d)) := fun d d0 d1 => by
    by_cases e : d < n
    · rw [dg_lvl d0 e h1 hA, dg_lvl d0 e h1 hB]
      exact ⟨fun q _ => q, fun q => q e⟩
    · rw [lvl_hi h0 (by omega) d1, lvl_hi h0 (by omega) d1]
      exact ⟨fun _ q => absurd q e, fun _ => Int.le_refl _⟩
  unfold reachP
  rw [key 0 (by omega) (by omega), key 1 (by omega) (by omega), key 2 (by omega) (by omega), key 3 (by omega) (by omega)]
  constructor
  · rintro ⟨a, b, c, e⟩ d d0 d1
    have hd : d = 0 ∨ d = 1 ∨ d = 2 ∨ d = 3 := by omega
    rcases hd with rfl | rfl | rfl | rfl
    · exact a d1
    · exact b d1
    · exact c d1
    · exact e d1
  · intro h
    exact ⟨fun q => h 0 (by omega) q, fun q => h 1 (by omega) q, fun q => h 2 (by omega) q, fun q => h 3 (by omega) q⟩
/-- the levels, dimension by dimension -/
theorem lev_s {L a : Int} (h0 : 0 ≤ L) (h1 : L < 256) (a0 : 0 ≤ a) (a1 : a < 4) : L / 4 ^ (4 - a).toNat * 4 + lvl L a = L / 4 ^ (4 - (a + 1)).toNat := by
  have p0 : (4 : Int) ^ (4 - 0 : Int).toNat = 256 := by decide
  have p1 : (4 : Int) ^ (4 - (0 + 1) : Int).toNat = 64 := by decide
  have p1' : (4 : Int) ^ (4 - 1 : Int).toNat = 64 := by decide
  have p2 : (4 : Int) ^ (4 - (1 + 1) : Int).toNat = 16 := by decide
  have p2' : (4 : Int) ^ (4 - 2 : Int).toNat = 16 := by decide
  have p3 : (4 : Int) ^ (4 - (2 + 1) : Int).toNat = 4 := by decide
  have p3' : (4 : Int) ^ (4 - 3 : Int).toNat = 4 := by decide
  have p4 : (4 : Int) ^ (4 - (3 + 1) : Int).toNat = 1 := by decide
  have ha : a = 0 ∨ a = 1 ∨ a = 2 ∨ a = 3 := by omega
  unfold lvl
  rcases ha with rfl | rfl | rfl | rfl
  · rw [p0, p1]; simp; omega
  · rw [p1', p2]; simp; omega
  · rw [p2', p3]; simp; omega
  · rw [p3', p4]; simp; omega
theorem lev_0 {L : Int} (h0 : 0 ≤ L) (h1 : L < 256) : L / 4 ^ (4 - 0 : Int).toNat = 0 := by
  have p0 : (4 : Int) ^ (4 - 0 : Int).toNat = 256 := by decide
  rw [p0]; omega
theorem lev_e {S : ZT} (hW : WF S) {L : Int} (hL : LOK S L) : LV (S 0 0 5) (L / 4 ^ (4 - S 0 0 5).toNat) = L := by
  have hn := hW.n
  have hz : ∀ d, S 0 0 5 ≤ d → d < 4 → lvl L d = 0 := fun d d0 d1 => by
    have a := hL.2.2 d (by omega) d1
    have b := (hW.2.2.1 d d0 d1).1
    have c := lvl_in L d
    omega
  obtain ⟨l0, l1, -⟩ := hL
  have z0 := hz 0
  have z1 := hz 1
  have z2 := hz 2
  have z3 := hz 3
  unfold lvl at z0 z1 z2 z3
  simp at z0 z1 z2 z3
  have p0 : (4 : Int) ^ (4 - 0 : Int).toNat = 256 := by decide
  have p1 : (4 : Int) ^ (4 - 1 : Int).toNat = 64 := by decide
  have p2 : (4 : Int) ^ (4 - 2 : Int).toNat = 16 := by decide
  have p3 : (4 : Int) ^ (4 - 3 : Int).toNat = 4 := by decide
  have p4 : (4 : Int) ^ (4 - 4 : Int).toNat = 1 := by decide
  unfold LV
  rcases (show S 0 0 5 = 0 ∨ S 0 0 5 = 1 ∨ S 0 0 5 = 2 ∨ S 0 0 5 = 3 ∨ S 0 0 5 = 4 by omega) with e | e | e | e | e <;> rw [e] at z0 z1 z2 z3 ⊢
  · rw [p0]; omega
  · rw [p1]; omega
  · rw [p2]; omega
  · rw [p3]; omega
  · rw [p4]; omega
theorem sameC_sym {S : ZT} {L j k : Int} : sameC S L j k ↔ sameC S L k j := ⟨fun h d d0 d1 => (h d d0 d1).symm, fun h d d0 d1 => (h d d0 d1).symm⟩
theorem vfF_s {S : ZT} {L a : Int} (h : 0 ≤ a) : vfF S L (a + 1).toNat = @ite _ (S 13 0 a < prc S (vfF S L a.toNat) ∧ S 14 0 a = 0 ∧ reachP (S 12 0 a) L) (Classical.propDecidable _) a (vfF S L a.toNat) := by
  rw [show (a + 1).toNat = a.toNat + 1 by omega]
  show @ite _ (S 13 0 (a.toNat : Int) < prc S (vfF S L a.toNat) ∧ S 14 0 (a.toNat : Int) = 0 ∧ reachP (S 12 0 (a.toNat : Int)) L) (Classical.propDecidable _) (a.toNat : Int) (vfF S L a.toNat) = _
  rw [Int.toNat_of_nonneg h]
theorem dg_in (n M d : Int) : 0 ≤ dg n M d ∧ dg n M d < 4 := by
  unfold dg
  exact ⟨Int.emod_nonneg _ (by decide), Int.emod_lt_of_pos _ (by decide)⟩
theorem abv_step {S : ZT} {d b w : Int} (ht : TOK S d) (b0 : 0 < b) (b1 : b < S 2 d 4) (h : w < S 4 d b) : abv S d b w = abv S d (S 3 d b) w := by
  have hb := (ht.at (by omega) b1).2.2.2 b0
  unfold abv
  rw [show (S 4 d b - w).toNat = (S 4 d (S 3 d b) - w).toNat + 1 by omega]
  rfl
noncomputable def GM (S : ZT) (q : Int) : Int := sumTo (fun a => iv (LOK S (LV (S 0 0 5) a) ∧ reachP (LV (S 0 0 5) q) (LV (S 0 0 5) a)) * mx (COST S (LV (S 0 0 5) a) - CELLS S (LV (S 0 0 5) q))) 256
