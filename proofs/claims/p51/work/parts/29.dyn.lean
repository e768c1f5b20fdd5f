/-! what stands at other places than the fixed ones: rows of numbers, rows of references, objects -/
def dA (cys : Nat → ClassId) (W : List Int) : va_E := .inl (cys 0, W.length, .inl (fun q => iI (W.getD q 0)))
theorem mw_dyn {cys : Nat → ClassId} {ad : Nat → Int → Nat} {L : List Nat} {g : Nat → va_E} {X : Int64} {Z : ZT} {a : Nat} (h : a ∈ L) (hs : ¬ isS ad a) : ∃ q : Nat, (MW cys ad L g X Z)[q]? = some (a, g a) := by
  obtain ⟨q, hq⟩ := va_pl_get (X := []) (f := ov cys ad g X Z) h
  refine ⟨q, ?_⟩
  rw [ov_dyn hs] at hq
  exact hq
section DYNS
variable {p : Program} {l : Launch} {e : Env} {R : Room} {s : State} {m : MethodId} {args : Array Value} {below : List Frame} {meth : Method} {c : Code} {Q : State → Prop}
variable {D : va_G} {cys : Nat → ClassId} {ad : Nat → Int → Nat} {A : Nat → Prop} {cc : ByteArray} {own : String} {nL : Nat} {cells slots : Nat} {L : List Nat} {g : Nat → va_E} {X : Int64} {Z : ZT} {pc : Nat} {vs : List (Nat × Value)} {st : List Value}
theorem j_dld (G : GG p l s m args meth c D cys ad A cc own nL) {a : Nat} {W : List Int} {j : Int} (hd : decode cc pc = .ok (.iaload, 1)) (ha : a ∈ L) (hs : ¬ isS ad a) (hg : g a = dA cys W) (hN : W.length < 2 ^ 31) (h0 : 0 ≤ j) (h1 : j < W.length) (kk : JJ p l e R s m args below meth c D cys ad A Q nL cells slots L g X Z (pc + 1) vs (.int (iI (W.getD j.toNat 0)) :: st)) : JJ p l e R s m args below meth c D cys ad A Q nL cells slots L g X Z pc vs (.int (iI j) :: .ref a :: st) := by
  intro H locs ls hL hP hD hS hl
  obtain ⟨q, hq⟩ := mw_dyn (cys := cys) (g := g) (X := X) (Z := Z) ha hs
  rw [hg] at hq
  refine va_iald (D := D) G.x G.b G.K hP q 0 hq rfl (iI_in h0 h1 hN) hd ?_
  rw [show (iI j).toNatClampNeg = j.toNat from iI_clamp h0 (by omega)]
  exact kk H locs ls hL hP hD hS hl
theorem j_dlen (G : GG p l s m args meth c D cys ad A cc own nL) {a : Nat} {W : List Int} (hd : decode cc pc = .ok (.arraylength, 1)) (ha : a ∈ L) (hs : ¬ isS ad a) (hg : g a = dA cys W) (kk : JJ p l e R s m args below meth c D cys ad A Q nL cells slots L g X Z (pc + 1) vs (.int (iI W.length) :: st)) : JJ p l e R s m args below meth c D cys ad A Q nL cells slots L g X Z pc vs (.ref a :: st) := by
  intro H locs ls hL hP hD hS hl
  obtain ⟨q, hq⟩ := mw_dyn (cys := cys) (g := g) (X := X) (Z := Z) ha hs
  rw [hg] at hq
  exact va_alen (D := D) G.x G.b G.K hP q 0 hq rfl (v := iI W.length) (iI_nat _).symm hd (kk H locs ls hL hP hD hS hl)
theorem j_daldA (G : GG p l s m args meth c D cys ad A cc own nL) {a : Nat} (t0 : Nat) {N : Nat} {cA : ClassId} {f : Nat → Option Nat} {t : FieldType} {j : Int} (hd : decode cc pc = .ok (.aaload, 1)) (ha : a ∈ L) (hs : ¬ isS ad a) (hg : g a = eQ cA N f) (ht : (tysC cys)[t0]? = some (cA, .array t)) (hN : N < 2 ^ 31) (h0 : 0 ≤ j) (h1 : j < N) {b : Nat} (hf : f j.toNat = some b) (kk : JJ p l e R s m args below meth c D cys ad A Q nL cells slots L g X Z (pc + 1) vs (.ref b :: st)) : JJ p l e R s m args below meth c D cys ad A Q nL cells slots L g X Z pc vs (.int (iI j) :: .ref a :: st) := by
  intro H locs ls hL hP hD hS hl
  obtain ⟨q, hq⟩ := mw_dyn (cys := cys) (g := g) (X := X) (Z := Z) ha hs
  rw [hg] at hq
  have hin : vp_in (iI j) N := iI_in h0 h1 hN
  have hlt : (iI j).toNatClampNeg < N := Nat.not_le.mp fun q => hin (Or.inr q)
  refine W.aald (v := va_rf (f (iI j).toNatClampNeg)) (ty := .array t) G.x G.b (hP q _ hq) ((G.K.2 t0 _ ht).1 N (fun j => va_rf (f j))) rfl (fun q => by cases q) (by show ¬ (iI j < 0 ∨ (arrV _ _ _).slots.size ≤ _); rw [arrV_size]; exact hin) (by show (arrV _ _ _).slots[_]? = _; rw [arrV_read _ _ hlt]) rfl rfl hd ?_
  rw [show (iI j).toNatClampNeg = j.toNat from iI_clamp h0 (by omega), hf]
  exact kk H locs ls hL hP hD hS hl
end DYNS
def EXT (L : List Nat) (g : Nat → va_E) (L' : List Nat) (g' : Nat → va_E) : Prop := (∀ a ∈ L, a ∈ L') ∧ ∀ a ∈ L, g' a = g a
theorem EXT.rf (L : List Nat) (g : Nat → va_E) : EXT L g L g := ⟨fun _ h => h, fun _ _ => rfl⟩
theorem EXT.tr {L L' L'' : List Nat} {g g' g'' : Nat → va_E} (h : EXT L g L' g') (h2 : EXT L' g' L'' g'') : EXT L g L'' g'' := ⟨fun a q => h2.1 a (h.1 a q), fun a q => (h2.2 a (h.1 a q)).trans (h.2 a q)⟩
theorem EXT.push {L L' : List Nat} {g g' : Nat → va_E} (h : EXT L g L' g') {a : Nat} (ha : a ∉ L) (x : va_E) : EXT L g (L' ++ [a]) (va_up g' a x) :=
  ⟨fun b q => List.mem_append_left _ (h.1 b q), fun b q => by
    have hne : b ≠ a := by rintro rfl; exact ha q
    rw [va_up_ne _ _ hne]; exact h.2 b q⟩
theorem EXT.up {L L' : List Nat} {g g' : Nat → va_E} (h : EXT L g L' g') {a : Nat} (ha : a ∉ L) (x : va_E) : EXT L g L' (va_up g' a x) :=
  ⟨h.1, fun b q => by
    have hne : b ≠ a := by rintro rfl; exact ha q
    rw [va_up_ne _ _ hne]; exact h.2 b q⟩
/-- a row of numbers stands at a -/
def AR (cys : Nat → ClassId) (ad : Nat → Int → Nat) (L : List Nat) (g : Nat → va_E) (a : Nat) (W : List Int) : Prop := a ∈ L ∧ ¬ isS ad a ∧ g a = dA cys W
theorem AR.ext {cys : Nat → ClassId} {ad : Nat → Int → Nat} {L L' : List Nat} {g g' : Nat → va_E} {a : Nat} {W : List Int} (h : AR cys ad L g a W) (e : EXT L g L' g') : AR cys ad L' g' a W := ⟨e.1 _ h.1, h.2.1, (e.2 _ h.1).trans h.2.2⟩
theorem dA_zero (cys : Nat → ClassId) (n : Nat) : dA cys (List.replicate n 0) = .inl (cys 0, n, .inl (fun _ => 0)) := by
  unfold dA
  rw [List.length_replicate]
  refine congrArg (fun f => Sum.inl (cys 0, n, Sum.inl f)) (funext fun q => ?_)
  have : (List.replicate n (0 : Int)).getD q 0 = 0 := by
    rw [List.getD_eq_getElem?_getD, List.getElem?_replicate]
    split <;> rfl
  rw [this]
  exact iI_0
def PGI (_L : List Nat) (_g : Nat → va_E) (_X : Int64) (_Z : ZT) (P : Int → List Nat → (Nat → va_E) → Int64 → ZT → Prop) : PT := fun v L9 g9 X9 Z9 => ∃ r : Int, v = some (.int (iI r)) ∧ P r L9 g9 X9 Z9
def PGA (_L : List Nat) (_g : Nat → va_E) (_X : Int64) (_Z : ZT) (P : Nat → List Nat → (Nat → va_E) → Int64 → ZT → Prop) : PT := fun v L9 g9 X9 Z9 => ∃ r : Nat, v = some (.ref r) ∧ P r L9 g9 X9 Z9
def PGV (_L : List Nat) (_g : Nat → va_E) (_X : Int64) (_Z : ZT) (P : List Nat → (Nat → va_E) → Int64 → ZT → Prop) : PT := fun v L9 g9 X9 Z9 => v = none ∧ P L9 g9 X9 Z9
def PGJ (_L : List Nat) (_g : Nat → va_E) (_X : Int64) (_Z : ZT) (P : Int64 → List Nat → (Nat → va_E) → Int64 → ZT → Prop) : PT := fun v L9 g9 X9 Z9 => ∃ r : Int64, v = some (.long r) ∧ P r L9 g9 X9 Z9
section DYN2
variable {p : Program} {l : Launch} {e : Env} {R : Room} {s : State} {m : MethodId} {args : Array Value} {below : List Frame} {meth : Method} {c : Code} {Q : State → Prop}
variable {D : va_G} {cys : Nat → ClassId} {ad : Nat → Int → Nat} {A : Nat → Prop} {cc : ByteArray} {own : String} {nL : Nat} {cells slots : Nat} {L : List Nat} {g : Nat → va_E} {X : Int64} {Z : ZT} {pc : Nat} {vs : List (Nat × Value)} {st : List Value}
theorem mw_push {a : Nat} {x : va_E} (ha : a ∉ L) (hs : ¬ isS ad a) : MW cys ad L g X Z ++ [(a, x)] = MW cys ad (L ++ [a]) (va_up g a x) X Z := by
  show va_pl L (ov cys ad g X Z) ++ [(a, x)] = va_pl (L ++ [a]) (ov cys ad (va_up g a x) X Z)
  rw [va_pl_push ha, ov_up hs]
theorem mw_up {a q : Nat} {x : va_E} (hD : va_D A (MW cys ad L g X Z)) (ha : a ∈ L) (hs : ¬ isS ad a) (hq : (MW cys ad L g X Z)[q]? = some (a, g a)) : (MW cys ad L g X Z).set q (a, x) = MW cys ad L (va_up g a x) X Z := by
  have h1 : ([] ++ va_pl L (ov cys ad g X Z))[q]? = some (a, ov cys ad g X Z a) := by rw [ov_dyn hs]; exact hq
  have h2 := va_pl_set (X := []) (e := x) hD ha h1
  rw [ov_up hs] at h2
  exact h2
theorem cy_int (G : GG p l s m args meth c D cys ad A cc own nL) {cA : ClassId} (h : va_K D vwCl (tysC cys ++ [(cA, .int)]) s) : cA = cys 0 := by
  have e1 : s.vm.findClass ("[" ++ (FieldType.int).toString) = some cA := (h.2 6 (cA, .int) rfl).2
  have e2 : s.vm.findClass ("[" ++ (FieldType.int).toString) = some (cys 0) := (G.K.2 0 (cys 0, .int) rfl).2
  exact Option.some.inj (e1.symm.trans e2)
theorem nS_of (hL : SL ad L) {a : Nat} (ha : a ∉ L) : ¬ isS ad a := by
  rintro ⟨⟨k, i⟩, h1, rfl⟩
  exact ha (hL k i h1)
theorem j_newI (G : GG p l s m args meth c D cys ad A cc own nL) {n : Int} (hd : decode cc pc = .ok (.newarray .int, 2)) (harr : Cond.arrayClass .int ∈ TW) (h0 : 0 ≤ n) (h1 : n ≤ 1000) (hc : cells + 1 ≤ R.cells ∧ slots + n.toNat ≤ R.slots)
    (kk : ∀ a : Nat, a ∉ L → ¬ isS ad a → JJ p l e R s m args below meth c D cys ad A Q nL (cells + 1) (slots + n.toNat) (L ++ [a]) (va_up g a (dA cys (List.replicate n.toNat 0))) X Z (pc + 2) vs (.ref a :: st)) : JJ p l e R s m args below meth c D cys ad A Q nL cells slots L g X Z pc vs (.int (iI n) :: st) := by
  intro H locs ls hL hP hD hS hl
  refine va_newa (D := D) G.x G.b (atype := .int) (G.ts _ harr) rfl G.K hP hD hS G.fr (N' := n.toNat) (a0 := (n.toNat, .inl (fun _ => 0))) (fun cA => rfl) ?_ (iI_clamp h0 (by omega)) ?_ hc.1 hc.2 hd (fun q cA H1 hK1 hP1 hD1 hS1 => ?_)
  · rw [← iI_0, iI_lt (by omega) (by omega)]; omega
  · show n.toNat * 4 ≤ 536870912
    omega
  · have hq : q ∉ L := va_pl_fresh2 (X := []) (L := L) hD1
    have hns := nS_of hL hq
    have ec := cy_int G hK1
    subst ec
    rw [mw_push hq hns, ← dA_zero] at hP1 hD1
    exact kk q hq hns H1 locs ls (fun k i h => List.mem_append_left _ (hL k i h)) hP1 hD1 hS1 hl
theorem j_dst (G : GG p l s m args meth c D cys ad A cc own nL) {a : Nat} {W : List Int} {j v : Int} (hd : decode cc pc = .ok (.iastore, 1)) (hA : AR cys ad L g a W) (hN : W.length < 2 ^ 31) (h0 : 0 ≤ j) (h1 : j < W.length)
    (kk : JJ p l e R s m args below meth c D cys ad A Q nL cells slots L (va_up g a (dA cys (W.set j.toNat v))) X Z (pc + 1) vs st) : JJ p l e R s m args below meth c D cys ad A Q nL cells slots L g X Z pc vs (.int (iI v) :: .int (iI j) :: .ref a :: st) := by
  intro H locs ls hL hP hD hS hl
  obtain ⟨ha, hs, hg⟩ := hA
  obtain ⟨q, hq⟩ := mw_dyn (cys := cys) (g := g) (X := X) (Z := Z) ha hs
  have hq0 := hq
  rw [hg] at hq
  refine va_iast (D := D) G.x G.b G.K hP hD hS q 0 hq rfl (iI_in h0 h1 hN) hd (fun H1 locs1 hP1 hD1 hS1 => ?_)
  have ex : (Sum.inl (cys 0, W.length, Sum.inl (upd (fun q => iI (W.getD q 0)) (iI j).toNatClampNeg (iI v))) : va_E) = dA cys (W.set j.toNat v) := by
    unfold dA
    rw [List.length_set]
    refine congrArg (fun f => Sum.inl (cys 0, W.length, Sum.inl f)) (funext fun k => ?_)
    rw [show (iI j).toNatClampNeg = j.toNat from iI_clamp h0 (by omega)]
    unfold upd
    dsimp only
    rw [List.getD_eq_getElem?_getD, List.getD_eq_getElem?_getD, List.getElem?_set]
    by_cases hk : k = j.toNat
    · subst hk
      rw [if_pos rfl, if_pos rfl, if_pos (by omega)]
      rfl
    · rw [if_neg hk, if_neg (Ne.symm hk)]
  rw [ex, mw_up hD ha hs hq0] at hP1 hD1
  exact kk H1 locs1 ls hL hP1 hD1 hS1 hl
theorem j_dlA (G : GG p l s m args meth c D cys ad A cc own nL) {a : Nat} {W : List Int} {j : Int} (hd : decode cc pc = .ok (.iaload, 1)) (hA : AR cys ad L g a W) (hN : W.length < 2 ^ 31) (h0 : 0 ≤ j) (h1 : j < W.length) (kk : JJ p l e R s m args below meth c D cys ad A Q nL cells slots L g X Z (pc + 1) vs (.int (iI (W.getD j.toNat 0)) :: st)) : JJ p l e R s m args below meth c D cys ad A Q nL cells slots L g X Z pc vs (.int (iI j) :: .ref a :: st) :=
  j_dld G hd hA.1 hA.2.1 hA.2.2 hN h0 h1 kk
theorem j_dnA (G : GG p l s m args meth c D cys ad A cc own nL) {a : Nat} {W : List Int} (hd : decode cc pc = .ok (.arraylength, 1)) (hA : AR cys ad L g a W) (kk : JJ p l e R s m args below meth c D cys ad A Q nL cells slots L g X Z (pc + 1) vs (.int (iI W.length) :: st)) : JJ p l e R s m args below meth c D cys ad A Q nL cells slots L g X Z pc vs (.ref a :: st) :=
  j_dlen G hd hA.1 hA.2.1 hA.2.2 kk
theorem j_cVGI (G : GG p l s m args meth c D cys ad A cc own nL) {y : MethodName} {cc1 : ByteArray} {nL1 n fr lo mc ms idx : Nat} {ret : Option FieldType} {As rest : List Value} {P : Int → List Nat → (Nat → va_E) → Int64 → ZT → Prop} {k : Nat} {i : Int} {ci : Nat} {fs : List Value} {q1 : vw_C}
    (cv : CV y cc1 nL1 ret n) (hlk : Cond.methodLink own idx y ∈ TW) (hM : CM l D cys ad y cc1 nL1 ret fr lo mc ms (.ref (ad k i) :: As) L g X Z (PGI L g X Z P)) (hd : decode cc pc = .ok (.invokevirtual idx, 3))
    (hR : fr + 1 ≤ R.frames ∧ 8 + (nL1 + 11) + lo ≤ R.locals) (hcs : cells + mc ≤ R.cells ∧ slots + ms ≤ R.slots) (hst : st = As.reverse ++ .ref (ad k i) :: rest) (hn : As.length = n) (hrest : (rest.map fun v => v.category).sum ≤ 8)
    (hv : vd k i) (hc : cC cys ad k i X (Z k i) = .inr (ci, fs)) (hq1 : vwCl[ci]? = some q1) (hq2 : q1.1 = y.cls) (kk : ∀ (r : Int) (L1 : List Nat) (g1 : Nat → va_E) (X1 : Int64) (Z1 : ZT), P r L1 g1 X1 Z1 → JJ p l e R s m args below meth c D cys ad A Q nL (cells + mc) (slots + ms) L1 g1 X1 Z1 (pc + 3) vs (.int (iI r) :: rest)) : JJ p l e R s m args below meth c D cys ad A Q nL cells slots L g X Z pc vs st := by
  refine j_callV G cv hlk hM hd hR hcs hst hn hrest hv hc hq1 hq2 (fun v L1 g1 X1 Z1 h => ?_)
  obtain ⟨r, rfl, h2⟩ := h
  exact kk r _ _ _ _ h2
theorem j_cVGA (G : GG p l s m args meth c D cys ad A cc own nL) {y : MethodName} {cc1 : ByteArray} {nL1 n fr lo mc ms idx : Nat} {ret : Option FieldType} {As rest : List Value} {P : Nat → List Nat → (Nat → va_E) → Int64 → ZT → Prop} {k : Nat} {i : Int} {ci : Nat} {fs : List Value} {q1 : vw_C}
    (cv : CV y cc1 nL1 ret n) (hlk : Cond.methodLink own idx y ∈ TW) (hM : CM l D cys ad y cc1 nL1 ret fr lo mc ms (.ref (ad k i) :: As) L g X Z (PGA L g X Z P)) (hd : decode cc pc = .ok (.invokevirtual idx, 3))
    (hR : fr + 1 ≤ R.frames ∧ 8 + (nL1 + 11) + lo ≤ R.locals) (hcs : cells + mc ≤ R.cells ∧ slots + ms ≤ R.slots) (hst : st = As.reverse ++ .ref (ad k i) :: rest) (hn : As.length = n) (hrest : (rest.map fun v => v.category).sum ≤ 8)
    (hv : vd k i) (hc : cC cys ad k i X (Z k i) = .inr (ci, fs)) (hq1 : vwCl[ci]? = some q1) (hq2 : q1.1 = y.cls) (kk : ∀ (r : Nat) (L1 : List Nat) (g1 : Nat → va_E) (X1 : Int64) (Z1 : ZT), P r L1 g1 X1 Z1 → JJ p l e R s m args below meth c D cys ad A Q nL (cells + mc) (slots + ms) L1 g1 X1 Z1 (pc + 3) vs (.ref r :: rest)) : JJ p l e R s m args below meth c D cys ad A Q nL cells slots L g X Z pc vs st := by
  refine j_callV G cv hlk hM hd hR hcs hst hn hrest hv hc hq1 hq2 (fun v L1 g1 X1 Z1 h => ?_)
  obtain ⟨r, rfl, h2⟩ := h
  exact kk r _ _ _ _ h2
theorem j_cVGV (G : GG p l s m args meth c D cys ad A cc own nL) {y : MethodName} {cc1 : ByteArray} {nL1 n fr lo mc ms idx : Nat} {ret : Option FieldType} {As rest : List Value} {P : List Nat → (Nat → va_E) → Int64 → ZT → Prop} {k : Nat} {i : Int} {ci : Nat} {fs : List Value} {q1 : vw_C}
    (cv : CV y cc1 nL1 ret n) (hlk : Cond.methodLink own idx y ∈ TW) (hM : CM l D cys ad y cc1 nL1 ret fr lo mc ms (.ref (ad k i) :: As) L g X Z (PGV L g X Z P)) (hd : decode cc pc = .ok (.invokevirtual idx, 3))
    (hR : fr + 1 ≤ R.frames ∧ 8 + (nL1 + 11) + lo ≤ R.locals) (hcs : cells + mc ≤ R.cells ∧ slots + ms ≤ R.slots) (hst : st = As.reverse ++ .ref (ad k i) :: rest) (hn : As.length = n) (hrest : (rest.map fun v => v.category).sum ≤ 8)
    (hv : vd k i) (hc : cC cys ad k i X (Z k i) = .inr (ci, fs)) (hq1 : vwCl[ci]? = some q1) (hq2 : q1.1 = y.cls) (kk : ∀ (L1 : List Nat) (g1 : Nat → va_E) (X1 : Int64) (Z1 : ZT), P L1 g1 X1 Z1 → JJ p l e R s m args below meth c D cys ad A Q nL (cells + mc) (slots + ms) L1 g1 X1 Z1 (pc + 3) vs rest) : JJ p l e R s m args below meth c D cys ad A Q nL cells slots L g X Z pc vs st := by
  refine j_callV G cv hlk hM hd hR hcs hst hn hrest hv hc hq1 hq2 (fun v L1 g1 X1 Z1 h => ?_)
  obtain ⟨rfl, h2⟩ := h
  exact kk _ _ _ _ h2
theorem j_cSGA (G : GG p l s m args meth c D cys ad A cc own nL) {y : MethodName} {cc1 : ByteArray} {nL1 n fr lo mc ms idx : Nat} {ret : Option FieldType} {As rest : List Value} {P : Nat → List Nat → (Nat → va_E) → Int64 → ZT → Prop}
    (cv : CS y cc1 nL1 ret n) (hlk : Cond.methodLink own idx y ∈ TW) (hown : y.cls = own) (hM : CM l D cys ad y cc1 nL1 ret fr lo mc ms As L g X Z (PGA L g X Z P)) (hd : decode cc pc = .ok (.invokestatic idx, 3))
    (hR : fr + 1 ≤ R.frames ∧ 8 + (nL1 + 11) + lo ≤ R.locals) (hcs : cells + mc ≤ R.cells ∧ slots + ms ≤ R.slots) (hst : st = As.reverse ++ rest) (hn : As.length = n) (hrest : (rest.map fun v => v.category).sum ≤ 8) (kk : ∀ (r : Nat) (L1 : List Nat) (g1 : Nat → va_E) (X1 : Int64) (Z1 : ZT), P r L1 g1 X1 Z1 → JJ p l e R s m args below meth c D cys ad A Q nL (cells + mc) (slots + ms) L1 g1 X1 Z1 (pc + 3) vs (.ref r :: rest)) : JJ p l e R s m args below meth c D cys ad A Q nL cells slots L g X Z pc vs st := by
  refine j_callS G cv hlk hown hM hd hR hcs hst hn hrest (fun v L1 g1 X1 Z1 h => ?_)
  obtain ⟨r, rfl, h2⟩ := h
  exact kk r _ _ _ _ h2
variable {L0 : List Nat} {g0 : Nat → va_E} {X0 : Int64} {Z0 : ZT} {mc ms : Nat}
theorem jr_GI (G : GG p l s m args meth c D cys ad A cc own nL) {P : Int → List Nat → (Nat → va_E) → Int64 → ZT → Prop} {r : Int} (hQ : ∀ t, MQ below (Qm D cys ad A (PGI L0 g0 X0 Z0 P)) args s mc ms A t → Q t) (hr : meth.sig.returnType = some .int) (hd : decode cc pc = .ok (.ireturn, 1)) (hc : cells ≤ mc) (hs : slots ≤ ms) (hp : P r L g X Z) : JJ p l e R s m args below meth c D cys ad A Q nL cells slots L g X Z pc vs [.int (iI r)] :=
  j_mono hQ (jr_int G hr rfl hd hc hs ⟨r, rfl, hp⟩)
theorem jr_GB (G : GG p l s m args meth c D cys ad A cc own nL) {P : Int → List Nat → (Nat → va_E) → Int64 → ZT → Prop} {r : Int} (hQ : ∀ t, MQ below (Qm D cys ad A (PGI L0 g0 X0 Z0 P)) args s mc ms A t → Q t) (hr : meth.sig.returnType = some .boolean) (hd : decode cc pc = .ok (.ireturn, 1)) (hc : cells ≤ mc) (hs : slots ≤ ms) (hb : r = 0 ∨ r = 1) (hp : P r L g X Z) : JJ p l e R s m args below meth c D cys ad A Q nL cells slots L g X Z pc vs [.int (iI r)] :=
  j_mono hQ (jr_int G hr (by rcases hb with rfl | rfl <;> decide +kernel) hd hc hs ⟨r, rfl, hp⟩)
theorem jr_GA (G : GG p l s m args meth c D cys ad A cc own nL) {P : Nat → List Nat → (Nat → va_E) → Int64 → ZT → Prop} {r : Nat} (hQ : ∀ t, MQ below (Qm D cys ad A (PGA L0 g0 X0 Z0 P)) args s mc ms A t → Q t) {ty : FieldType} (hr : meth.sig.returnType = some ty) (hty : (∃ n, ty = .object n) ∨ ∃ t, ty = .array t) (hd : decode cc pc = .ok (.areturn, 1)) (hc : cells ≤ mc) (hs : slots ≤ ms) (hp : P r L g X Z) : JJ p l e R s m args below meth c D cys ad A Q nL cells slots L g X Z pc vs [.ref r] :=
  j_mono hQ (jr_ref G hr hty hd hc hs ⟨r, rfl, hp⟩)
theorem jr_GV (G : GG p l s m args meth c D cys ad A cc own nL) {P : List Nat → (Nat → va_E) → Int64 → ZT → Prop} (hQ : ∀ t, MQ below (Qm D cys ad A (PGV L0 g0 X0 Z0 P)) args s mc ms A t → Q t) (hr : meth.sig.returnType = none) (hd : decode cc pc = .ok (.return_, 1)) (hc : cells ≤ mc) (hs : slots ≤ ms) (hp : P L g X Z) : JJ p l e R s m args below meth c D cys ad A Q nL cells slots L g X Z pc vs [] :=
  j_mono hQ (jr_void G hr hd hc hs ⟨rfl, hp⟩)
theorem jr_GJ (G : GG p l s m args meth c D cys ad A cc own nL) {P : Int64 → List Nat → (Nat → va_E) → Int64 → ZT → Prop} {r : Int64} (hQ : ∀ t, MQ below (Qm D cys ad A (PGJ L0 g0 X0 Z0 P)) args s mc ms A t → Q t) (hr : meth.sig.returnType = some .long) (hd : decode cc pc = .ok (.lreturn, 1)) (hc : cells ≤ mc) (hs : slots ≤ ms) (hp : P r L g X Z) : JJ p l e R s m args below meth c D cys ad A Q nL cells slots L g X Z pc vs [.long r] :=
  j_mono hQ (jr_long G hr hd hc hs ⟨r, rfl, hp⟩)
end DYN2
section LIBS
variable {p : Program} {l : Launch} {e : Env} {R : Room} {s : State} {m : MethodId} {args : Array Value} {below : List Frame} {meth : Method} {c : Code} {Q : State → Prop}
variable {D : va_G} {cys : Nat → ClassId} {ad : Nat → Int → Nat} {A : Nat → Prop} {cc : ByteArray} {own : String} {nL : Nat} {cells slots : Nat} {L : List Nat} {g : Nat → va_E} {X : Int64} {Z : ZT} {pc : Nat} {vs : List (Nat × Value)} {st : List Value}
theorem nm_int (G : GG p l s m args meth c D cys ad A cc own nL) : s.vm.findClass "[I" = some (cys 0) := by
  have h : s.vm.findClass ("[" ++ (FieldType.int).toString) = some (cys 0) := (G.K.2 0 (cys 0, .int) rfl).2
  have e : "[" ++ FieldType.int.toString = "[I" := by decide +kernel
  rw [← e]
  exact h
theorem j_min (G : GG p l s m args meth c D cys ad A cc own nL) {a b : Int} {idx : Nat} (hlink : Cond.methodLink own idx Lib.Math.min.name ∈ TW) (h1 : Cond.static Lib.Math.min.name ∈ TW) (h2 : Cond.initialized "java/lang/Math" ∈ TW) (h3 : Cond.code Lib.Math.min.name Lib.Math.min.code 2 (some .int) ∈ TW) (hd : decode cc pc = .ok (.invokestatic idx, 3)) (hf : 1 ≤ R.frames) (hlo : (st.map fun v => v.category).sum + 13 ≤ R.locals) (hc : cells ≤ R.cells) (hs : slots ≤ R.slots) (ha : inR a) (hb : inR b)
    (kk : JJ p l e R s m args below meth c D cys ad A Q nL cells slots L g X Z (pc + 3) vs (.int (iI (if b < a then b else a)) :: st)) : JJ p l e R s m args below meth c D cys ad A Q nL cells slots L g X Z pc vs (.int (iI b) :: .int (iI a) :: st) := by
  intro H locs ls hL hP hD hS hl
  refine va_mmin G.x G.b (by rw [G.ml]; exact hl.1.symm) G.ow (G.ts _ hlink) (G.ts _ h1) (G.ts _ h2) (G.ts _ h3) hf hlo hc hs hd ?_
  have e : (if iI b < iI a then iI b else iI a) = iI (if b < a then b else a) := by
    by_cases h : b < a
    · rw [if_pos ((iI_lt hb ha).mpr h), if_pos h]
    · rw [if_neg (fun z => h ((iI_lt hb ha).mp z)), if_neg h]
  rw [e]
  exact kk H locs ls hL hP hD hS hl
end LIBS
section LIBT
variable {p : Program} {l : Launch} {e : Env} {R : Room} {s : State} {m : MethodId} {args : Array Value} {below : List Frame} {meth : Method} {c : Code} {Q : State → Prop}
variable {D : va_G} {cys : Nat → ClassId} {ad : Nat → Int → Nat} {A : Nat → Prop} {cc : ByteArray} {own : String} {nL : Nat} {cells slots : Nat} {L : List Nat} {g : Nat → va_E} {X : Int64} {Z : ZT} {pc : Nat} {vs : List (Nat × Value)} {st : List Value}
/-- a static call of another class -/
theorem j_callT (G : GG p l s m args meth c D cys ad A cc own nL) {y : MethodName} {cc1 : ByteArray} {nL1 n fr lo mc ms idx : Nat} {ret : Option FieldType} {As rest : List Value} {post : PT}
    (cv : CS y cc1 nL1 ret n) (hlk : Cond.methodLink own idx y ∈ TW) (hM : CM l D cys ad y cc1 nL1 ret fr lo mc ms As L g X Z post) (hd : decode cc pc = .ok (.invokestatic idx, 3))
    (hR : fr + 1 ≤ R.frames ∧ 8 + (nL1 + 11) + lo ≤ R.locals) (hcs : cells + mc ≤ R.cells ∧ slots + ms ≤ R.slots) (hst : st = As.reverse ++ rest) (hn : As.length = n) (hrest : (rest.map fun v => v.category).sum ≤ 8)
    (kk : ∀ (v : Option Value) (L1 : List Nat) (g1 : Nat → va_E) (X1 : Int64) (Z1 : ZT), post v L1 g1 X1 Z1 → JJ p l e R s m args below meth c D cys ad A Q nL (cells + mc) (slots + ms) L1 g1 X1 Z1 (pc + 3) vs (v.toList ++ rest)) :
    JJ p l e R s m args below meth c D cys ad A Q nL cells slots L g X Z pc vs st := by
  intro H locs ls hL hP hD hS hl
  obtain ⟨c1, c3, c4, c5, c6, c7⟩ := cv
  have hG : GoodIn TW (va_wsS own idx y (.code y cc1 nL1 ret :: TW)) := TW_sub (fun w hw => by
    rcases List.mem_append.mp hw with h | h
    · simp only [List.mem_cons, List.not_mem_nil, or_false] at h
      rcases h with rfl | rfl | rfl <;> assumption
    · rcases List.mem_cons.mp h with rfl | h
      · exact c4
      · exact h)
  exact j_run G hL hD hS hl (va_runS (As := As) (rest := rest) ⟨G.x, G.b, G.ml, G.ow, G.ts⟩ (hM H.size) (va_cwS (bytes := cc1) (maxL := nL1) (ret := ret) (ws' := TW) n G.ts hG rfl rfl rfl ⟨c5, c6, c7⟩ hR) ⟨WU.blind, fun U hU hW => ⟨rfl, wu_call G hL hP hD hS hU hW⟩⟩ rfl hn hl.1 hst (lv_room hrest) hd hcs) kk
theorem j_cTGA (G : GG p l s m args meth c D cys ad A cc own nL) {y : MethodName} {cc1 : ByteArray} {nL1 n fr lo mc ms idx : Nat} {ret : Option FieldType} {As rest : List Value} {P : Nat → List Nat → (Nat → va_E) → Int64 → ZT → Prop}
    (cv : CS y cc1 nL1 ret n) (hlk : Cond.methodLink own idx y ∈ TW) (hM : CM l D cys ad y cc1 nL1 ret fr lo mc ms As L g X Z (PGA L g X Z P)) (hd : decode cc pc = .ok (.invokestatic idx, 3))
    (hR : fr + 1 ≤ R.frames ∧ 8 + (nL1 + 11) + lo ≤ R.locals) (hcs : cells + mc ≤ R.cells ∧ slots + ms ≤ R.slots) (hst : st = As.reverse ++ rest) (hn : As.length = n) (hrest : (rest.map fun v => v.category).sum ≤ 8) (kk : ∀ (r : Nat) (L1 : List Nat) (g1 : Nat → va_E) (X1 : Int64) (Z1 : ZT), P r L1 g1 X1 Z1 → JJ p l e R s m args below meth c D cys ad A Q nL (cells + mc) (slots + ms) L1 g1 X1 Z1 (pc + 3) vs (.ref r :: rest)) : JJ p l e R s m args below meth c D cys ad A Q nL cells slots L g X Z pc vs st := by
  refine j_callT G cv hlk hM hd hR hcs hst hn hrest (fun v L1 g1 X1 Z1 h => ?_)
  obtain ⟨r, rfl, h2⟩ := h
  exact kk r _ _ _ _ h2
theorem j_cTVZ (G : GG p l s m args meth c D cys ad A cc own nL) {y : MethodName} {cc1 : ByteArray} {nL1 n fr lo idx : Nat} {ret : Option FieldType} {As rest : List Value} {P : ZT → Prop}
    (cv : CS y cc1 nL1 ret n) (hlk : Cond.methodLink own idx y ∈ TW) (hM : CM l D cys ad y cc1 nL1 ret fr lo 0 0 As L g X Z (PVZ L g X Z P)) (hd : decode cc pc = .ok (.invokestatic idx, 3))
    (hR : fr + 1 ≤ R.frames ∧ 8 + (nL1 + 11) + lo ≤ R.locals) (hcs : cells ≤ R.cells ∧ slots ≤ R.slots) (hst : st = As.reverse ++ rest) (hn : As.length = n) (hrest : (rest.map fun v => v.category).sum ≤ 8) (kk : ∀ Z1 : ZT, P Z1 → JJ p l e R s m args below meth c D cys ad A Q nL cells slots L g X Z1 (pc + 3) vs rest) : JJ p l e R s m args below meth c D cys ad A Q nL cells slots L g X Z pc vs st := by
  refine j_callT G cv hlk hM hd hR hcs hst hn hrest (fun v L1 g1 X1 Z1 h => ?_)
  obtain ⟨rfl, h2, rfl, rfl, rfl⟩ := h
  exact kk _ h2
end LIBT
section AAS
variable {p : Program} {l : Launch} {e : Env} {R : Room} {s : State} {m : MethodId} {args : Array Value} {below : List Frame} {meth : Method} {c : Code} {Q : State → Prop}
variable {D : va_G} {cys : Nat → ClassId} {ad : Nat → Int → Nat} {A : Nat → Prop} {cc : ByteArray} {own : String} {nL : Nat} {cells slots : Nat} {L : List Nat} {g : Nat → va_E} {X : Int64} {Z : ZT} {pc : Nat} {vs : List (Nat × Value)} {st : List Value}
theorem j_aastI (G : GG p l s m args meth c D cys ad A cc own nL) (hk4 : ∃ kA : Class, s.vm.classes[cys 4]? = some kA ∧ kA.kind = .array (cys 0) (.array .int)) {a b : Nat} {V : List Int} {N : Nat} {f : Nat → Option Nat} {j : Int} (hd : decode cc pc = .ok (.aastore, 1)) (ha : a ∈ L) (hs : ¬ isS ad a) (hg : g a = eQ (cys 4) N f) (hB : AR cys ad L g b V) (hN : N < 2 ^ 31) (h0 : 0 ≤ j) (h1 : j < N)
    (kk : JJ p l e R s m args below meth c D cys ad A Q nL cells slots L (va_up g a (eQ (cys 4) N (va_up f j.toNat (some b)))) X Z (pc + 1) vs st) : JJ p l e R s m args below meth c D cys ad A Q nL cells slots L g X Z pc vs (.ref b :: .int (iI j) :: .ref a :: st) := by
  intro H locs ls hL hP hD hS hl
  obtain ⟨q, hq⟩ := mw_dyn (cys := cys) (g := g) (X := X) (Z := Z) ha hs
  obtain ⟨q1, hq1⟩ := mw_dyn (cys := cys) (g := g) (X := X) (Z := Z) hB.1 hB.2.1
  have hq0 := hq
  rw [hg] at hq
  rw [hB.2.2] at hq1
  have hin : vp_in (iI j) N := iI_in h0 h1 hN
  have hlt : (iI j).toNatClampNeg < N := Nat.not_le.mp fun q => hin (Or.inr q)
  have h00 : ¬ iI j < 0 := fun q => hin (Or.inl q)
  have ej : (iI j).toNatClampNeg = j.toNat := iI_clamp h0 (by omega)
  obtain ⟨kA, k1, k2⟩ := hk4
  have k3 := nm_int G
  obtain ⟨kE, hkE, -⟩ := Vm.findClass_spec k3
  have g1 : H[b]? = some (vp_cell (cys 0) (V.length, .inl (fun q => iI (V.getD q 0)))) := hP q1 _ hq1
  refine W.aast G.x G.b (hP q _ hq) (fun q h => by cases h) (fun h => by cases h) k1 k2 rfl hkE ⟨h00, by show _ < (arrV _ _ _).slots.size; rw [arrV_size]; exact hlt⟩ g1 (fun q h => by cases h) hkE (va_asg _ _) rfl rfl hd fun H1 e9 z oq => ?_
  have hP1 := hP.set (e := eQ (cys 4) N (va_up f j.toNat (some b))) hD hq (by
    show H1[a]? = some (vp_cell _ _)
    rw [e9]
    show some _ = some (vp_cell _ (N, .inr (.inr (.inr (.inr _)))))
    rw [vp_cell_q, vp_cell_q, arrV_store, ej]
    congr 2
    funext q
    by_cases hq : q = j.toNat
    · subst hq
      simp [updV, va_up, va_rf]
    · simp [updV, va_up, hq]) oq
  have hD1 := hD.set hq (e := eQ (cys 4) N (va_up f j.toNat (some b)))
  rw [mw_up hD ha hs hq0] at hP1 hD1
  exact kk H1 _ ls hL hP1 hD1 (hS.put z oq (hD.2 q _ hq)) hl
end AAS
