/-! a row of numbers copied into the row of a fixed place -/
section CPS
variable {p : Program} {l : Launch} {e : Env} {R : Room} {s : State} {m : MethodId} {args : Array Value} {below : List Frame} {meth : Method} {c : Code} {Q : State → Prop}
variable {D : va_G} {cys : Nat → ClassId} {ad : Nat → Int → Nat} {A : Nat → Prop} {cc : ByteArray} {own : String} {nL : Nat} {cells slots : Nat} {L : List Nat} {g : Nat → va_E} {X : Int64} {Z : ZT} {pc : Nat} {vs : List (Nat × Value)} {st : List Value}
theorem j_copyS (G : GG p l s m args meth c D cys ad A cc own nL) (k : Nat) (i : Int) {a idx N : Nat} {W : List Int} (hlk : Cond.methodLink own idx arraycopyName ∈ TW) (hd : decode cc pc = .ok (.invokestatic idx, 3)) (hA : AR cys ad L g a W) (hcc : ∀ z, cC cys ad k i X z = eI (cys 0) N z) (h : vd k i) (hW : W.length = N) (hn : N ≤ 1000)
    (hlo : 1 ≤ R.frames ∧ (st.map fun v => v.category).sum + (nativeFrameWords "java/lang/System" "arraycopy" 5 + 11) ≤ R.locals)
    (kk : ∀ Z1 : ZT, (∀ k' i', ¬ (k' = k ∧ i' = i) → Z1 k' i' = Z k' i') → (∀ j : Int, 0 ≤ j → j < N → Z1 k i j = W.getD j.toNat 0) → JJ p l e R s m args below meth c D cys ad A Q nL cells slots L g X Z1 (pc + 3) vs st) : JJ p l e R s m args below meth c D cys ad A Q nL cells slots L g X Z pc vs (.int (iI N) :: .int (iI 0) :: .ref (ad k i) :: .int (iI 0) :: .ref a :: st) := by
  intro H locs ls hL hP hD hS hl
  obtain ⟨q, hq⟩ := mw_dyn (cys := cys) (g := g) (X := X) (Z := Z) hA.1 hA.2.1
  obtain ⟨q1, hq1⟩ := mw_get G.inj hL h (hcc (Z k i))
  rw [hA.2.2] at hq
  have en : (iI N).toNatClampNeg = N := by rw [iI_clamp (by omega) (by omega)]; omega
  have e0 : (iI 0).toNatClampNeg = 0 := by rw [iI_clamp (by omega) (by omega)]; rfl
  have z0 : ¬ iI 0 < 0 := by rw [← iI_0, iI_lt (by omega) (by omega)]; omega
  have zn : ¬ iI N < 0 := by rw [← iI_0, iI_lt (by omega) (by omega)]; omega
  refine va_copyi (D := D) (cl := vwCl) (tys := tysC cys) G.x G.b (by rw [G.ml]; exact hl.1.symm) G.ow (G.ts _ hlk) (G.ts _ (TW_of 1117 (by decide +kernel) (by decide +kernel))) (G.ts _ (TW_of 1116 (by decide +kernel) (by decide +kernel))) (G.ts _ (TW_of 88 (by decide +kernel) (by decide +kernel))) G.K hP hD hS q q1 0 0 hq hq1 rfl rfl rfl z0 z0 zn (by rw [en, e0]; omega) (by rw [en, e0]; omega) (fun _ _ => rfl) hlo.1 hlo.2 hd (fun H1 locs1 hP1 hD1 hS1 => ?_)
  have ex : (Sum.inl (cys 0, N, Sum.inl (va_cpy (fun q => iI (W.getD q 0)) (fun q => iI (Z k i q)) (iI 0).toNatClampNeg (iI 0).toNatClampNeg (iI N).toNatClampNeg)) : va_E) = cC cys ad k i X (fun j => if 0 ≤ j ∧ j < N then W.getD j.toNat 0 else Z k i j) := by
    rw [hcc]
    refine congrArg (fun f => Sum.inl (cys 0, N, Sum.inl f)) (funext fun j => ?_)
    rw [en, e0]
    unfold va_cpy
    dsimp only
    by_cases hj : j < N
    · rw [if_pos ⟨by omega, by omega⟩, if_pos ⟨by omega, by omega⟩, show 0 + (j - 0) = j by omega, Int.toNat_natCast]
    · rw [if_neg (by omega), if_neg (by omega)]
  rw [ex, mw_set G.inj hL h (hcc (Z k i)) hq1 hD] at hP1 hD1
  refine kk _ (fun k' i' hne => ?_) (fun j j0 j1 => ?_) H1 locs1 ls hL hP1 hD1 hS1 hl
  · unfold zR
    rw [if_neg hne]
  · rw [zR_at, if_pos ⟨j0, j1⟩]
end CPS
theorem RML.axes {cys : Nat → ClassId} {ad : Nat → Int → Nat} {S : ZT} {L : List Nat} {g : Nat → va_E} {q ql w wl : Int} (h : RML cys ad S L g) : RML cys ad (axSt S q ql w wl) L g := by
  unfold RML at *
  simp only [axSt_0, axSt_k S q ql w wl (k := 6) (by decide) (by decide), axSt_k S q ql w wl (k := 8) (by decide) (by decide), show ((5 : Int) = 7) = False by simp, if_false]
  exact h
theorem RMZ.axes {S Z Y : ZT} {q ql w wl : Int} (h : RMZ S Z) (hu : ∀ k' i', ¬ (k' = 35 ∧ i' = 0) → Y k' i' = zS Z 24 0 0 0 k' i') (x0 : Y 35 0 0 = q) (x1 : Y 35 0 1 = ql) (x2 : Y 35 0 2 = w) (x3 : Y 35 0 3 = wl) : RMZ (axSt S q ql w wl) (zS Y 24 0 11 1) := by
  have hk : ∀ k : Nat, k ≠ 35 → k ≠ 24 → Y k = Z k := fun k h1 h2 => funext fun i => by rw [hu k i (fun z => h1 z.1), zS_k h2]
  have e24 : ∀ j, j ≠ 0 → Y 24 0 j = Z 24 0 j := fun j hj => by rw [hu 24 0 (by decide), zS_v, if_neg hj]
  have e15 := axSt_15 S q ql w wl
  unfold RMZ at *
  simp only [axSt_0, axSt_k S q ql w wl (k := 2) (by decide) (by decide), axSt_k S q ql w wl (k := 3) (by decide) (by decide), axSt_k S q ql w wl (k := 5) (by decide) (by decide), axSt_k S q ql w wl (k := 6) (by decide) (by decide), axSt_k S q ql w wl (k := 9) (by decide) (by decide), axSt_k S q ql w wl (k := 11) (by decide) (by decide), axSt_k S q ql w wl (k := 12) (by decide) (by decide), axSt_k S q ql w wl (k := 13) (by decide) (by decide), axSt_k S q ql w wl (k := 14) (by decide) (by decide),
    zS_k (show (25 : Nat) ≠ 24 by decide), zS_k (show (26 : Nat) ≠ 24 by decide), zS_k (show (31 : Nat) ≠ 24 by decide), zS_k (show (32 : Nat) ≠ 24 by decide), zS_k (show (28 : Nat) ≠ 24 by decide), zS_k (show (30 : Nat) ≠ 24 by decide), zS_k (show (34 : Nat) ≠ 24 by decide), zS_k (show (35 : Nat) ≠ 24 by decide), zS_k (show (36 : Nat) ≠ 24 by decide), zS_k (show (37 : Nat) ≠ 24 by decide), zS_k (show (38 : Nat) ≠ 24 by decide),
    hk 25 (by decide) (by decide), hk 26 (by decide) (by decide), hk 31 (by decide) (by decide), hk 32 (by decide) (by decide), hk 28 (by decide) (by decide), hk 30 (by decide) (by decide), hk 34 (by decide) (by decide), hk 36 (by decide) (by decide), hk 37 (by decide) (by decide), hk 38 (by decide) (by decide), x0, x1, x2, x3, e15.1, e15.2.1, e15.2.2.1, e15.2.2.2, zS_v, show ((5 : Int) = 7) = False by simp, show ((6 : Int) = 7) = False by simp, show ((8 : Int) = 7) = False by simp, show ((1 : Int) = 11) = False by simp, show ((8 : Int) = 11) = False by simp, show ((13 : Int) = 11) = False by simp, show ((14 : Int) = 11) = False by simp, if_false, if_true, and_self, and_true, true_and]
  have h1 := h.1
  rw [e24 1 (by decide), e24 8 (by decide), e24 13 (by decide), e24 14 (by decide)]
  exact ⟨⟨h1.1, h1.2.1, h1.2.2.2.1, h1.2.2.2.2⟩, h.2.1, h.2.2.1, h.2.2.2.1, h.2.2.2.2.1, h.2.2.2.2.2.2⟩
