/-! rows for the law's own walk -/
theorem r1c : room_1.cells = 601024 := rfl
theorem r1s : room_1.slots = 7293034 := rfl
def sv (xs : Nat → Int32) (j : Int) : Int := (xs j.toNat).toInt
theorem sv_in (xs : Nat → Int32) (j : Int) : inR (sv xs j) := inR_of _
theorem bl_01 (a : Int) : (if a = 0 then (0 : Int) else 1) = 0 ∨ (if a = 0 then (0 : Int) else 1) = 1 := by
  by_cases h : a = 0
  · rw [if_pos h]; exact Or.inl rfl
  · rw [if_neg h]; exact Or.inr rfl
abbrev LV5 (b : Nat) (ad : Nat → Int → Nat) (ao : Nat) (i : Int) : List (Nat × Value) := [(0, .ref b), (1, .ref (ad 0 0)), (2, .ref (ad 24 0)), (3, .ref ao), (4, .int (iI i))]
def INV (cys : Nat → ClassId) (ad : Nat → Int → Nat) (ao : Nat) (L : List Nat) (g : Nat → va_E) (Z : ZT) : Prop := GOOD Z ∧ RML cys ad Z L g ∧ (ao ∈ L ∧ ¬ isS ad ao ∧ ao ≠ ad 33 0) ∧ ∃ v, g ao = OUT cys v
theorem RML.out {cys : Nat → ClassId} {ad : Nat → Int → Nat} {S : ZT} {L : List Nat} {g : Nat → va_E} {ao : Nat} {v0 : Int64} (h : RML cys ad S L g) (h33 : ao ≠ ad 33 0) (hgo : g ao = OUT cys v0) (v : Int64) : RML cys ad S L (va_up g ao (OUT cys v)) := by
  obtain ⟨h1, lf, h2, h3⟩ := h
  refine ⟨h1, lf, by rw [va_up_ne _ _ (Ne.symm h33)]; exact h2, fun k k0 k1 => ?_⟩
  obtain ⟨a, W, q1, ⟨q2, q3, q4, q5, q6⟩, q7⟩ := h3 k k0 k1
  have hne : a ≠ ao := by
    rintro rfl
    rw [q4] at hgo
    unfold dA OUT at hgo
    have := congrArg (fun z : va_E => match z with | .inl (_, _, .inl _) => true | _ => false) hgo
    cases this
  exact ⟨a, W, q1, ⟨q2, q3, by rw [va_up_ne _ _ hne]; exact q4, q5, q6⟩, q7⟩
section LRW
variable {p : Program} {l : Launch} {e : Env} {R : Room} {s : State} {m : MethodId} {args : Array Value} {below : List Frame} {meth : Method} {c : Code} {Q : State → Prop}
variable {D : va_G} {cys : Nat → ClassId} {ad : Nat → Int → Nat} {A : Nat → Prop} {cc : ByteArray} {own : String} {nL : Nat} {cells slots : Nat} {L : List Nat} {g : Nat → va_E} {X : Int64} {Z : ZT} {pc : Nat} {vs : List (Nat × Value)} {st : List Value}
theorem j_sld (G : GG p l s m args meth c D cys ad A cc own nL) {b Ls : Nat} {xs : Nat → Int32} {j : Int} (hX : va_X b Ls xs s s.heap) (hbl : b < s.heap.size) (hbA : ¬ A b) (hd : decode cc pc = .ok (.iaload, 1)) (h0 : 0 ≤ j) (h1 : j < Ls) (hL : Ls ≤ 2560)
    (kk : JJ p l e R s m args below meth c D cys ad A Q nL cells slots L g X Z (pc + 1) vs (.int (iI (sv xs j)) :: st)) : JJ p l e R s m args below meth c D cys ad A Q nL cells slots L g X Z pc vs (.int (iI j) :: .ref b :: st) := by
  intro H locs ls hSL hP hD hS hl
  refine va_sld G.x G.b hX hbl hbA hS (iI_in h0 h1 (by omega)) hd ?_
  rw [show (iI j).toNatClampNeg = j.toNat from iI_clamp h0 (by omega), ← iI_of (xs j.toNat)]
  exact kk H locs ls hSL hP hD hS hl
theorem j_slenS (G : GG p l s m args meth c D cys ad A cc own nL) {b Ls : Nat} {xs : Nat → Int32} (hX : va_X b Ls xs s s.heap) (hbl : b < s.heap.size) (hbA : ¬ A b) (hd : decode cc pc = .ok (.arraylength, 1))
    (kk : JJ p l e R s m args below meth c D cys ad A Q nL cells slots L g X Z (pc + 1) vs (.int (iI Ls) :: st)) : JJ p l e R s m args below meth c D cys ad A Q nL cells slots L g X Z pc vs (.ref b :: st) := by
  intro H locs ls hSL hP hD hS hl
  refine va_slen G.x G.b hX hbl hbA hS hd ?_
  have e1 : Int32.ofNat Ls = iI Ls := (iI_nat Ls).symm
  rw [e1]
  exact kk H locs ls hSL hP hD hS hl
theorem j_bool (G : GG p l s m args meth c D cys ad A cc own nL) {a : Int} (ha : inR a) (d1 : decode cc pc = .ok (.ifCond .eq 7, 3)) (d2 : decode cc (pc + 3) = .ok (.iconst 1, 1)) (d3 : decode cc (pc + 4) = .ok (.goto 4, 3)) (d4 : decode cc (pc + 7) = .ok (.iconst 0, 1))
    (kk : JJ p l e R s m args below meth c D cys ad A Q nL cells slots L g X Z (pc + 8) vs (.int (iI (if a = 0 then 0 else 1)) :: st)) : JJ p l e R s m args below meth c D cys ad A Q nL cells slots L g X Z pc vs (.int (iI a) :: st) := by
  refine j_if_eq G (pc + 7) d1 (by omega) ha (fun h => ?_) (fun h => ?_)
  · refine j_iconst G d4 ?_
    rw [if_pos h] at kk
    exact kk
  · refine j_iconst G d2 ?_
    refine j_goto G (pc + 8) d3 (by omega) ?_
    rw [if_neg h] at kk
    exact kk
theorem j_boolL (G : GG p l s m args meth c D cys ad A cc own nL) {a : Int} (ha : inR a) (d1 : decode cc pc = .ok (.ifCond .eq 7, 3)) (d2 : decode cc (pc + 3) = .ok (.lconst 1, 1)) (d3 : decode cc (pc + 4) = .ok (.goto 4, 3)) (d4 : decode cc (pc + 7) = .ok (.lconst 0, 1))
    (kk : JJ p l e R s m args below meth c D cys ad A Q nL cells slots L g X Z (pc + 8) vs (.long (if a = 0 then 0 else 1) :: st)) : JJ p l e R s m args below meth c D cys ad A Q nL cells slots L g X Z pc vs (.int (iI a) :: st) := by
  refine j_if_eq G (pc + 7) d1 (by omega) ha (fun h => ?_) (fun h => ?_)
  · refine j_lconst G d4 (v := 0) rfl ?_
    rw [if_pos h] at kk
    exact kk
  · refine j_lconst G d2 (v := 1) rfl ?_
    refine j_goto G (pc + 8) d3 (by omega) ?_
    rw [if_neg h] at kk
    exact kk
theorem j_icmpS (G : GG p l s m args meth c D cys ad A cc own nL) {a b off : Int} (tgt : Nat) (hd : decode cc pc = .ok (.if_icmp .eq off, 3)) (ht : (pc : Int) + off = (tgt : Int)) (hab : a = b) (kt : JJ p l e R s m args below meth c D cys ad A Q nL cells slots L g X Z tgt vs st) : JJ p l e R s m args below meth c D cys ad A Q nL cells slots L g X Z pc vs (.int (iI b) :: .int (iI a) :: st) := by
  subst hab
  intro H locs ls hSL hP hD hS hl
  exact lv_icmp_eq G.x G.b hd ht (fun _ => kt H locs ls hSL hP hD hS hl) (fun h => absurd rfl h)
theorem j_lcmpS (G : GG p l s m args meth c D cys ad A cc own nL) {x y : Int64} (hd : decode cc pc = .ok (.lcmp, 1)) (hxy : x = y) (kk : JJ p l e R s m args below meth c D cys ad A Q nL cells slots L g X Z (pc + 1) vs (.int (iI 0) :: st)) : JJ p l e R s m args below meth c D cys ad A Q nL cells slots L g X Z pc vs (.long y :: .long x :: st) := by
  subst hxy
  intro H locs ls hSL hP hD hS hl
  refine W.lcmp G.x G.b hd ?_
  have e1 : lg_cmp x x = iI 0 := by
    rw [iI_0]
    unfold lg_cmp
    rw [if_neg (Int64.lt_irrefl), if_pos rfl]
  rw [e1]
  exact kk H locs ls hSL hP hD hS hl
theorem j_dstore (G : GG p l s m args meth c D cys ad A cc own nL) {k : Nat} {x : UInt64} (hd : decode cc pc = .ok (.dstore k, 2)) (hn : k + 1 < nL) (h2 : no2 vs k = true) (kk : JJ p l e R s m args below meth c D cys ad A Q nL cells slots L g X Z (pc + 2) (sto2 vs k (.double x)) st) : JJ p l e R s m args below meth c D cys ad A Q nL cells slots L g X Z pc vs (.double x :: st) :=
  fun H locs ls hSL hP hD hS hl => lv_dstore G.x G.b hd hl hn rfl (fun ls' hl' => kk H locs ls' hSL hP hD hS (sto2_has hl' h2))
theorem j_dload (G : GG p l s m args meth c D cys ad A cc own nL) {k : Nat} {x : UInt64} (hd : decode cc pc = .ok (.dload k, 2)) (hk : lkp vs k = some (.double x)) (kk : JJ p l e R s m args below meth c D cys ad A Q nL cells slots L g X Z (pc + 2) vs (.double x :: st)) : JJ p l e R s m args below meth c D cys ad A Q nL cells slots L g X Z pc vs st :=
  fun H locs ls hSL hP hD hS hl => lv_dload G.x G.b hd (lv_lk hl hk) (kk H locs ls hSL hP hD hS hl)
theorem j_dcmpS (G : GG p l s m args meth c D cys ad A cc own nL) {x : UInt64} {op : CmpOp} (hd : decode cc pc = .ok (.dcmp op, 1)) (hx : FP.Core.dIsNaN x = false) (kk : JJ p l e R s m args below meth c D cys ad A Q nL cells slots L g X Z (pc + 1) vs (.int (iI 0) :: st)) : JJ p l e R s m args below meth c D cys ad A Q nL cells slots L g X Z pc vs (.double x :: .double x :: st) := by
  intro H locs ls hSL hP hD hS hl
  refine lv_dcmp G.x G.b hd ?_
  have e1 : FP.dcmp x x = some .eq := FP.Core.dcmp_refl hx
  rw [e1]
  have e2 : Op.cmpValue (some .eq) op = iI 0 := by
    rw [iI_0]
    cases op <;> rfl
  rw [e2]
  exact kk H locs ls hSL hP hD hS hl
end LRW
theorem mu_setBare {Z Z1 Z2 : ZT} {b : Int} (hG : GOOD Z) (hb : b = 0 ∨ b = 1) (hP : Z1 = zS Z 0 0 8 b) (hB : Z2 = zS (zS Z1 24 0 0 0) 24 0 13 b) : GOOD Z2 ∧ KEEPL Z Z2 := by
  subst hP
  have hM : M_0 Z 8 b (zS Z 0 0 8 b) := ⟨FRM.st (FRM.of (SP.rf Z) [0]) (by decide) (by decide) 0 8 b, fun j => zS_v⟩
  have h1 := hG.2.hi (HI.fr hM.1 (by decide))
  have hl : LO (zS Z 0 0 8 b) Z2 := fun k hk => by rw [hB, zS_k (by omega), zS_k (by omega)]
  refine ⟨GOOD.of (hG.1.bare hM hb) (by rw [hB]; exact RMZ.bare h1 hM) hl, KEEPL.tr (KEEPL.of ?_ ?_ ?_) (KEEPL.lo hl)⟩
  · rw [zS_v, if_neg (by decide)]
  · rw [zS_k (by decide)]
  · rw [zS_k (by decide)]
theorem mu_advise {Z Z1 Z2 : ZT} (hG : GOOD Z) (hS : SP (zS Z 0 0 6 (adF Z 256).2) Z1) (hu : ∀ k' i', ¬ (k' = 32 ∧ i' = 0) → Z2 k' i' = zS Z1 24 0 0 0 k' i') (h32 : ∀ d, Z2 32 0 d = if 0 ≤ d ∧ d < Z 0 0 5 then dg (Z 0 0 5) (adM Z 256).2 d else Z1 32 0 d) : GOOD Z2 ∧ KEEPL Z Z2 := by
  have hM : M_0 Z 6 (adF Z 256).2 (zS Z 0 0 6 (adF Z 256).2) := ⟨FRM.st (FRM.of (SP.rf Z) [0]) (by decide) (by decide) 0 6 _, fun j => zS_v⟩
  have h1 := hG.2.hi ((HI.fr hM.1 (by decide)).tr (HI.sp hS))
  have hl : LO Z1 Z2 := fun k hk => by
    funext i
    rw [hu k i (by omega), zS_k (by omega)]
  have hW := hG.1.levels hM (adF_in hG.1.1 256 (by decide)).2.2
  refine ⟨GOOD.of (hW.sp hS) (RMZ.advise h1 hG.1.1 hS hu h32) hl, KEEPL.tr (KEEPL.tr (KEEPL.of ?_ ?_ ?_) (KEEPL.sp hS)) (KEEPL.lo hl)⟩
  · rw [zS_v, if_neg (by decide)]
  · rw [zS_k (by decide)]
  · rw [zS_k (by decide)]
