/-! a row of numbers put into a row of rows -/
theorem ao_arr {args : Array Value} {first s : State} {o : Option Outcome} {idx : List Nat} {t : FieldType} (h : (Cond.arrayOver (.array t)).holds args first o s idx = true) :
    ∃ comp c k, s.vm.findClass (FieldType.array t).toString = some comp ∧ s.vm.classes[c]? = some k ∧ k.kind = .array comp (.array t) ∧ s.vm.findClass ("[" ++ (FieldType.array t).toString) = some c := by
  simp only [Cond.holds, Cond.value, beq_iff_eq] at h
  cases hc : s.vm.findClass (FieldType.array t).toString with
  | none => simp [hc] at h
  | some comp =>
    simp only [hc, Option.bind_some, Option.bind_eq_some_iff, Option.map_eq_some_iff] at h
    obtain ⟨c, hi, k, hk, hb⟩ := h
    obtain ⟨hlt, hp, -⟩ := Array.findIdx?_eq_some_iff_getElem.mp hi
    have hkk : s.vm.classes[c] = k := (Array.getElem?_eq_some_iff.mp hk).2
    rw [hkk] at hp
    cases hkind : k.kind with
    | array component ty =>
      rw [hkind] at hb hp
      simp at hb hp
      exact ⟨comp, c, k, rfl, hk, by rw [hkind, hp, hb.1], hb.2⟩
    | _ => rw [hkind] at hb; simp at hb
section AAS
variable {p : Program} {l : Launch} {e : Env} {R : Room} {s : State} {m : MethodId} {args : Array Value} {below : List Frame} {meth : Method} {c : Code} {Q : State → Prop}
variable {D : va_G} {cys : Nat → ClassId} {ad : Nat → Int → Nat} {A : Nat → Prop} {cc : ByteArray} {own : String} {nL : Nat} {cells slots : Nat} {L : List Nat} {g : Nat → va_E} {X : Int64} {Z : ZT} {pc : Nat} {vs : List (Nat × Value)} {st : List Value}
theorem j_aastI (G : GG p l s m args meth c D cys ad A cc own nL) (hk4 : ∃ kA : Class, s.vm.classes[cys 4]? = some kA ∧ kA.kind = .array (cys 0) (.array .int)) {a b : Nat} {V : List Int} {N : Nat} {f : Nat → Option Nat} {j : Int} (hd : decode cc pc = .ok (.aastore, 1)) (ha : a ∈ L) (hs : ¬ isS ad a) (hg : g a = eQ (cys 4) N f) (hB : AR cys ad L g b V) (hN : N < 2 ^ 31) (h0 : 0 ≤ j) (h1 : j < N)
    (kk : JJ p l e R s m args below meth c D cys ad A Q nL cells slots L (va_up g a (eQ (cys 4) N (va_up f j.toNat (some b)))) X Z (pc + 1) vs st) : JJ p l e R s m args below meth c D cys ad A Q nL cells slots L g X Z pc vs (.ref b :: .int (iI j) :: .ref a :: st) := by
  intro H locs ls hL hP hD hS hl
  obtain ⟨q, hq⟩ := mw_dyn (cys := cys) (g := g) (X := X) (Z := Z) ha hs
  obtain ⟨q1, hq1⟩ := mw_dyn (cys := cys) (g := g) (X := X) (Z := Z) hB.1 hB.2.1
  have hq0 := hq
  rw [hg] at hq
  rw [hB.2.2] at hq1
  have hin : vp_in (iI j) N := iI_in h0 h1 hN
  have hlt : (iI j).toNatClampNeg < N := Nat.not_le.mp fun q => hin (Or.inr q)
  have h00 : ¬ iI j < 0 := fun q => hin (Or.inl q)
  have ej : (iI j).toNatClampNeg = j.toNat := iI_clamp h0 (by omega)
  obtain ⟨kA, k1, k2⟩ := hk4
  have k3 := nm_int G
  obtain ⟨kE, hkE, -⟩ := Vm.findClass_spec k3
  have g1 : H[b]? = some (vp_cell (cys 0) (V.length, .inl (fun q => iI (V.getD q 0)))) := hP q1 _ hq1
  refine W.aast G.x G.b (hP q _ hq) (fun q h => by cases h) (fun h => by cases h) k1 k2 rfl hkE ⟨h00, by show _ < (arrV _ _ _).slots.size; rw [arrV_size]; exact hlt⟩ g1 (fun q h => by cases h) hkE (va_asg _ _) rfl rfl hd fun H1 e9 z oq => ?_
  have hP1 := hP.set (e := eQ (cys 4) N (va_up f j.toNat (some b))) hD hq (by
    show H1[a]? = some (vp_cell _ _)
    rw [e9]
    show some _ = some (vp_cell _ (N, .inr (.inr (.inr (.inr _)))))
    rw [vp_cell_q, vp_cell_q, arrV_store, ej]
    congr 2
    funext q
    by_cases hq : q = j.toNat
    · subst hq
      simp [updV, va_up, va_rf]
    · simp [updV, va_up, hq]) oq
  have hD1 := hD.set hq (e := eQ (cys 4) N (va_up f j.toNat (some b)))
  rw [mw_up hD ha hs hq0] at hP1 hD1
  exact kk H1 _ ls hL hP1 hD1 (hS.put z oq (hD.2 q _ hq)) hl
end AAS
