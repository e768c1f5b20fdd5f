/-! the model's state tells the class's; arrays that come to be -/
def dA (cys : Nat → ClassId) (W : List Int) : va_E := .inl (cys 0, W.length, .inl (fun q => iI (W.getD q 0)))
def RML (cys : Nat → ClassId) (ad : Nat → Int → Nat) (S : ZT) (L : List Nat) (g : Nat → va_E) : Prop := (ad 33 0 ∈ L ∧ ¬ isS ad (ad 33 0)) ∧ ∃ lf : Nat → Option Nat, g (ad 33 0) = eQ (cys 4) 80 lf ∧
  ∀ k : Int, 0 ≤ k → k < S 6 0 3 → ∃ (a : Nat) (W : List Int), lf k.toNat = some a ∧ (a ∈ L ∧ ¬ isS ad a ∧ g a = dA cys W ∧ W.length = 4 ∧ ∀ d : Int, 0 ≤ d → d < S 0 0 5 → W.getD d.toNat 0 = S 8 d k) ∧ a ≠ ad 33 0
def RMZ (S Z : ZT) : Prop := (Z 24 0 1 = S 0 0 5 ∧ Z 24 0 8 = S 6 0 3 ∧ Z 24 0 11 = S 0 0 7 ∧ Z 24 0 13 = S 0 0 8 ∧ Z 24 0 14 = S 11 0 3) ∧
  (∀ d, 0 ≤ d → d < 4 → Z 25 0 d = S 2 d 3 ∧ Z 26 0 d = S 2 d 4 ∧ Z 31 0 d = S 2 d 5 ∧ Z 32 0 d = lvl (S 0 0 6) d) ∧
  (∀ d m, 0 ≤ d → d < S 0 0 5 → 0 < m → m < S 2 d 4 → Z 28 d m = S 3 d m) ∧ (∀ d m, 0 ≤ d → d < S 0 0 5 → 0 ≤ m → m < 24 → Z 30 d m = S 5 d m) ∧
  (∀ k, 0 ≤ k → k < S 6 0 3 → Z 34 0 k = S 9 0 k) ∧ (Z 35 0 0 = S 15 0 4 ∧ Z 35 0 1 = S 15 0 5 ∧ Z 35 0 2 = S 15 1 4 ∧ Z 35 0 3 = S 15 1 5) ∧
  (∀ v, 0 ≤ v → v < S 11 0 3 → S 12 0 v = Z 36 0 v * 4 ^ (4 - S 0 0 5).toNat ∧ Z 37 0 v = S 13 0 v ∧ Z 38 0 v = S 14 0 v)
theorem RMZ.a {S Z : ZT} (h : RMZ S Z) : Z 24 0 1 = S 0 0 5 ∧ Z 24 0 8 = S 6 0 3 ∧ Z 24 0 11 = S 0 0 7 ∧ Z 24 0 13 = S 0 0 8 ∧ Z 24 0 14 = S 11 0 3 := h.1
theorem RMZ.d {S Z : ZT} (h : RMZ S Z) {d : Int} (h0 : 0 ≤ d) (h1 : d < 4) : Z 25 0 d = S 2 d 3 ∧ Z 26 0 d = S 2 d 4 ∧ Z 31 0 d = S 2 d 5 ∧ Z 32 0 d = lvl (S 0 0 6) d := h.2.1 d h0 h1
theorem RMZ.p {S Z : ZT} (h : RMZ S Z) {d m : Int} (h0 : 0 ≤ d) (h1 : d < S 0 0 5) (m0 : 0 < m) (m1 : m < S 2 d 4) : Z 28 d m = S 3 d m := h.2.2.1 d m h0 h1 m0 m1
theorem RMZ.o {S Z : ZT} (h : RMZ S Z) {d m : Int} (h0 : 0 ≤ d) (h1 : d < S 0 0 5) (m0 : 0 ≤ m) (m1 : m < 24) : Z 30 d m = S 5 d m := h.2.2.2.1 d m h0 h1 m0 m1
theorem RMZ.v {S Z : ZT} (h : RMZ S Z) {k : Int} (h0 : 0 ≤ k) (h1 : k < S 6 0 3) : Z 34 0 k = S 9 0 k := h.2.2.2.2.1 k h0 h1
theorem RMZ.x {S Z : ZT} (h : RMZ S Z) : Z 35 0 0 = S 15 0 4 ∧ Z 35 0 1 = S 15 0 5 ∧ Z 35 0 2 = S 15 1 4 ∧ Z 35 0 3 = S 15 1 5 := h.2.2.2.2.2.1
theorem RMZ.w {S Z : ZT} (h : RMZ S Z) {v : Int} (h0 : 0 ≤ v) (h1 : v < S 11 0 3) : S 12 0 v = Z 36 0 v * 4 ^ (4 - S 0 0 5).toNat ∧ Z 37 0 v = S 13 0 v ∧ Z 38 0 v = S 14 0 v := h.2.2.2.2.2.2 v h0 h1
/-- what the store of the number that was thrown leaves -/
theorem RMZ.th {S Z : ZT} (h : RMZ S Z) (v : Int) : RMZ S (zS Z 24 0 0 v) := by
  unfold RMZ at *
  simp only [zS_k (show (25 : Nat) ≠ 24 by decide), zS_k (show (26 : Nat) ≠ 24 by decide), zS_k (show (31 : Nat) ≠ 24 by decide), zS_k (show (32 : Nat) ≠ 24 by decide), zS_k (show (28 : Nat) ≠ 24 by decide), zS_k (show (30 : Nat) ≠ 24 by decide), zS_k (show (34 : Nat) ≠ 24 by decide), zS_k (show (35 : Nat) ≠ 24 by decide), zS_k (show (36 : Nat) ≠ 24 by decide), zS_k (show (37 : Nat) ≠ 24 by decide), zS_k (show (38 : Nat) ≠ 24 by decide)]
  refine ⟨?_, h.2⟩
  simp only [zS_v, show ((1 : Int) = 0) = False by simp, show ((8 : Int) = 0) = False by simp, show ((11 : Int) = 0) = False by simp, show ((13 : Int) = 0) = False by simp, show ((14 : Int) = 0) = False by simp, if_false]
  exact h.1
theorem mw_dyn {cys : Nat → ClassId} {ad : Nat → Int → Nat} {L : List Nat} {g : Nat → va_E} {X : Int64} {Z : ZT} {a : Nat} (h : a ∈ L) (hs : ¬ isS ad a) : ∃ q : Nat, (MW cys ad L g X Z)[q]? = some (a, g a) := by
  obtain ⟨q, hq⟩ := va_pl_get (X := []) (f := ov cys ad g X Z) h
  refine ⟨q, ?_⟩
  rw [ov_dyn hs] at hq
  exact hq
section DYNS
variable {p : Program} {l : Launch} {e : Env} {R : Room} {s : State} {m : MethodId} {args : Array Value} {below : List Frame} {meth : Method} {c : Code} {Q : State → Prop}
variable {D : va_G} {cys : Nat → ClassId} {ad : Nat → Int → Nat} {A : Nat → Prop} {cc : ByteArray} {own : String} {nL : Nat} {cells slots : Nat} {L : List Nat} {g : Nat → va_E} {X : Int64} {Z : ZT} {pc : Nat} {vs : List (Nat × Value)} {st : List Value}
theorem j_dld (G : GG p l s m args meth c D cys ad A cc own nL) {a : Nat} {W : List Int} {j : Int} (hd : decode cc pc = .ok (.iaload, 1)) (ha : a ∈ L) (hs : ¬ isS ad a) (hg : g a = dA cys W) (hN : W.length < 2 ^ 31) (h0 : 0 ≤ j) (h1 : j < W.length) (kk : JJ p l e R s m args below meth c D cys ad A Q nL cells slots L g X Z (pc + 1) vs (.int (iI (W.getD j.toNat 0)) :: st)) : JJ p l e R s m args below meth c D cys ad A Q nL cells slots L g X Z pc vs (.int (iI j) :: .ref a :: st) := by
  intro H locs ls hL hP hD hS hl
  obtain ⟨q, hq⟩ := mw_dyn (cys := cys) (g := g) (X := X) (Z := Z) ha hs
  rw [hg] at hq
  refine va_iald (D := D) G.x G.b G.K hP q 0 hq rfl (iI_in h0 h1 hN) hd ?_
  rw [show (iI j).toNatClampNeg = j.toNat from iI_clamp h0 (by omega)]
  exact kk H locs ls hL hP hD hS hl
theorem j_dlen (G : GG p l s m args meth c D cys ad A cc own nL) {a : Nat} {W : List Int} (hd : decode cc pc = .ok (.arraylength, 1)) (ha : a ∈ L) (hs : ¬ isS ad a) (hg : g a = dA cys W) (kk : JJ p l e R s m args below meth c D cys ad A Q nL cells slots L g X Z (pc + 1) vs (.int (iI W.length) :: st)) : JJ p l e R s m args below meth c D cys ad A Q nL cells slots L g X Z pc vs (.ref a :: st) := by
  intro H locs ls hL hP hD hS hl
  obtain ⟨q, hq⟩ := mw_dyn (cys := cys) (g := g) (X := X) (Z := Z) ha hs
  rw [hg] at hq
  exact va_alen (D := D) G.x G.b G.K hP q 0 hq rfl (v := iI W.length) (iI_nat _).symm hd (kk H locs ls hL hP hD hS hl)
theorem j_daldA (G : GG p l s m args meth c D cys ad A cc own nL) {a : Nat} (t0 : Nat) {N : Nat} {cA : ClassId} {f : Nat → Option Nat} {t : FieldType} {j : Int} (hd : decode cc pc = .ok (.aaload, 1)) (ha : a ∈ L) (hs : ¬ isS ad a) (hg : g a = eQ cA N f) (ht : (tysC cys)[t0]? = some (cA, .array t)) (hN : N < 2 ^ 31) (h0 : 0 ≤ j) (h1 : j < N) {b : Nat} (hf : f j.toNat = some b) (kk : JJ p l e R s m args below meth c D cys ad A Q nL cells slots L g X Z (pc + 1) vs (.ref b :: st)) : JJ p l e R s m args below meth c D cys ad A Q nL cells slots L g X Z pc vs (.int (iI j) :: .ref a :: st) := by
  intro H locs ls hL hP hD hS hl
  obtain ⟨q, hq⟩ := mw_dyn (cys := cys) (g := g) (X := X) (Z := Z) ha hs
  rw [hg] at hq
  have hin : vp_in (iI j) N := iI_in h0 h1 hN
  have hlt : (iI j).toNatClampNeg < N := Nat.not_le.mp fun q => hin (Or.inr q)
  refine W.aald (v := va_rf (f (iI j).toNatClampNeg)) (ty := .array t) G.x G.b (hP q _ hq) ((G.K.2 t0 _ ht).1 N (fun j => va_rf (f j))) rfl (fun q => by cases q) (by show ¬ (iI j < 0 ∨ (arrV _ _ _).slots.size ≤ _); rw [arrV_size]; exact hin) (by show (arrV _ _ _).slots[_]? = _; rw [arrV_read _ _ hlt]) rfl rfl hd ?_
  rw [show (iI j).toNatClampNeg = j.toNat from iI_clamp h0 (by omega), hf]
  exact kk H locs ls hL hP hD hS hl
/-- the row of a fact's leaves -/
theorem j_leaf (G : GG p l s m args meth c D cys ad A cc own nL) {S : ZT} {k : Int} (hd : decode cc pc = .ok (.aaload, 1)) (hR : RML cys ad S L g) (h80 : S 6 0 3 ≤ 80) (h0 : 0 ≤ k) (h1 : k < S 6 0 3)
    (kk : ∀ (a : Nat) (W : List Int), (a ∈ L ∧ ¬ isS ad a ∧ g a = dA cys W ∧ W.length = 4 ∧ ∀ d : Int, 0 ≤ d → d < S 0 0 5 → W.getD d.toNat 0 = S 8 d k) → JJ p l e R s m args below meth c D cys ad A Q nL cells slots L g X Z (pc + 1) vs (.ref a :: st)) : JJ p l e R s m args below meth c D cys ad A Q nL cells slots L g X Z pc vs (.int (iI k) :: .ref (ad 33 0) :: st) := by
  obtain ⟨⟨hm, hn⟩, lf, hg, hk⟩ := hR
  obtain ⟨a, V, e1, e2, -⟩ := hk k h0 h1
  have hj : k < ((80 : Nat) : Int) := by omega
  exact j_daldA G 4 (t := .int) hd hm hn hg rfl (by decide) h0 hj e1 (kk a V e2)
end DYNS
/-! one step up in a tree -/
theorem bel_step {S : ZT} {d m a : Int} (h : TOK S d) (m0 : 0 < m) (m1 : m < S 2 d 4) (hne : m ≠ a) : bel S d m a ↔ bel S d (S 3 d m) a := by
  have hm := (h.at (by omega) m1).2.2.2 m0
  unfold bel
  by_cases e : S 4 d a ≤ S 4 d (S 3 d m)
  · rw [show (S 4 d m - S 4 d a).toNat = (S 4 d (S 3 d m) - S 4 d a).toNat + 1 by omega]
    show _ ∧ ancF (S 3 d) _ (S 3 d m) = a ↔ _
    exact ⟨fun q => ⟨e, q.2⟩, fun q => ⟨by omega, q.2⟩⟩
  · refine ⟨fun q => ?_, fun q => absurd q.1 e⟩
    have q1 := q.1
    have q2 := q.2
    rw [show (S 4 d m - S 4 d a).toNat = 0 by omega] at q2
    exact absurd q2 hne
theorem bel_root {S : ZT} {d a : Int} (h : TOK S d) (a0 : 0 ≤ a) (a1 : a < S 2 d 4) (hne : 0 ≠ a) : ¬ bel S d 0 a := by
  intro q
  have h1 := h.1
  have hz := h.at (m := 0) (by omega) (by omega)
  have ha := h.at a0 a1
  unfold MOK at hz ha
  have := q.1
  omega
