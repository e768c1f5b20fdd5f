/-! how long the row of a fixed place is -/
section SLN
variable {p : Program} {l : Launch} {e : Env} {R : Room} {s : State} {m : MethodId} {args : Array Value} {below : List Frame} {meth : Method} {c : Code} {Q : State → Prop}
variable {D : va_G} {cys : Nat → ClassId} {ad : Nat → Int → Nat} {A : Nat → Prop} {cc : ByteArray} {own : String} {nL : Nat} {cells slots : Nat} {L : List Nat} {g : Nat → va_E} {X : Int64} {Z : ZT} {pc : Nat} {vs : List (Nat × Value)} {st : List Value}
theorem j_slenZ (G : GG p l s m args meth c D cys ad A cc own nL) (k : Nat) (i : Int) {N : Nat} (hd : decode cc pc = .ok (.arraylength, 1)) (hc : ∀ z, cC cys ad k i X z = eI (cys 1) N z) (h : vd k i) (kk : JJ p l e R s m args below meth c D cys ad A Q nL cells slots L g X Z (pc + 1) vs (.int (iI N) :: st)) : JJ p l e R s m args below meth c D cys ad A Q nL cells slots L g X Z pc vs (.ref (ad k i) :: st) := by
  intro H locs ls hL hP hD hS hl
  obtain ⟨q, hq⟩ := mw_get G.inj hL h (hc (Z k i))
  exact va_alen (D := D) G.x G.b G.K hP q 1 hq rfl (v := iI N) (iI_nat _).symm hd (kk H locs ls hL hP hD hS hl)
theorem j_slenQ (G : GG p l s m args meth c D cys ad A cc own nL) (k : Nat) (i : Int) (t0 : Nat) {N : Nat} {cA : ClassId} {f : Nat → Option Nat} {ty : FieldType} (hd : decode cc pc = .ok (.arraylength, 1)) (hc : cC cys ad k i X (Z k i) = eQ cA N f) (ht : (tysC cys)[t0]? = some (cA, ty)) (h : vd k i) (kk : JJ p l e R s m args below meth c D cys ad A Q nL cells slots L g X Z (pc + 1) vs (.int (iI N) :: st)) : JJ p l e R s m args below meth c D cys ad A Q nL cells slots L g X Z pc vs (.ref (ad k i) :: st) := by
  intro H locs ls hL hP hD hS hl
  obtain ⟨q, hq⟩ := mw_get G.inj hL h hc
  exact va_alen (D := D) G.x G.b G.K hP q t0 hq ht (v := iI N) (iI_nat _).symm hd (kk H locs ls hL hP hD hS hl)
end SLN
theorem zS_ki {Z : ZT} {k k' : Nat} {i i' j v : Int} (h : ¬ (k' = k ∧ i' = i)) : zS Z k i j v k' i' = Z k' i' := by
  by_cases e : k' = k
  · subst e
    exact zS_o (fun q => h ⟨rfl, q.2⟩)
  · rw [zS_k e]
