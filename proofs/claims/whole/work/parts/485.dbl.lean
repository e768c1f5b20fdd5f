/-! doubles: the mean -/
def PDZ (L : List Nat) (g : Nat → va_E) (X : Int64) (_Z : ZT) (P : UInt64 → ZT → Prop) : PT := fun v L9 g9 X9 Z9 => ∃ r : UInt64, v = some (.double r) ∧ P r Z9 ∧ L9 = L ∧ g9 = g ∧ X9 = X
noncomputable def MEAN (S : ZT) : UInt64 := if CNT S = 0 then FP.dconst0 else FP.ddiv (FP.i2d (iI (SUM S))) (FP.i2d (iI (CNT S)))
theorem CNT_in {S : ZT} (hW : WF S) : 0 ≤ CNT S ∧ CNT S ≤ 80 := by
  have h := sumTo_iv (fun k => seen S k) (S 6 0 3).toNat
  have hf := hW.f
  unfold CNT
  omega
theorem div_nn {a b : Int32} (hb : b ≠ 0) : FP.Core.dIsNaN (FP.Core.ddiv (FP.Core.i2d a) (FP.Core.i2d b)) = false := by
  refine FP.Core.ddiv_out ((FP.Core.notNaN_iff _).mpr (FP.Core.i2d_fin a).ne_nan) (FP.Core.i2d_fin b) (fun h => ?_)
  exact FP.Core.i2d_ne_zero hb ((FP.Core.zero_bits2 _).mp h)
theorem n64_of {r : UInt64} (h : FP.Core.dIsNaN r = false) : vf_n64 r := by
  unfold vf_n64
  have h1 : ¬ 9218868437227405312 < r.toNat % 2 ^ 63 := fun q => by
    have := (FP.Core.isNaN_bits r).mpr q
    rw [h] at this; cases this
  rw [UInt64.le_iff_toNat_le, UInt64.toNat_and]
  have e : (0x7fffffffffffffff : UInt64).toNat = 2 ^ 63 - 1 := by decide +kernel
  rw [e, Nat.and_two_pow_sub_one_eq_mod]
  have e2 : (0x7ff0000000000000 : UInt64).toNat = 9218868437227405312 := by decide +kernel
  rw [e2]
  omega
theorem MEAN_nn {S : ZT} (hW : WF S) : FP.Core.dIsNaN (MEAN S) = false := by
  have hc := CNT_in hW
  unfold MEAN
  split
  · decide +kernel
  · rename_i h
    refine div_nn (fun z => h ?_)
    exact (iI_eq (by omega) (by omega)).mp (by rw [z, iI_0])
section DBL
variable {p : Program} {l : Launch} {e : Env} {R : Room} {s : State} {m : MethodId} {args : Array Value} {below : List Frame} {meth : Method} {c : Code} {Q : State → Prop}
variable {D : va_G} {cys : Nat → ClassId} {ad : Nat → Int → Nat} {A : Nat → Prop} {cc : ByteArray} {own : String} {nL : Nat} {cells slots : Nat} {L : List Nat} {g : Nat → va_E} {X : Int64} {Z : ZT} {pc : Nat} {vs : List (Nat × Value)} {st : List Value}
theorem j_i2d (G : GG p l s m args meth c D cys ad A cc own nL) {x : Int32} (hd : decode cc pc = .ok (.i2d, 1)) (kk : JJ p l e R s m args below meth c D cys ad A Q nL cells slots L g X Z (pc + 1) vs (.double (FP.i2d x) :: st)) : JJ p l e R s m args below meth c D cys ad A Q nL cells slots L g X Z pc vs (.int x :: st) :=
  fun H locs ls hL hP hD hS hl => lv_i2d G.x G.b hd (kk H locs ls hL hP hD hS hl)
theorem j_ddiv (G : GG p l s m args meth c D cys ad A cc own nL) {x y : UInt64} (hd : decode cc pc = .ok (.ddiv, 1)) (hne : vf_n64 (FP.ddiv x y)) (kk : JJ p l e R s m args below meth c D cys ad A Q nL cells slots L g X Z (pc + 1) vs (.double (FP.ddiv x y) :: st)) : JJ p l e R s m args below meth c D cys ad A Q nL cells slots L g X Z pc vs (.double y :: .double x :: st) :=
  fun H locs ls hL hP hD hS hl => lv_ddiv G.x G.b hd hne (kk H locs ls hL hP hD hS hl)
theorem j_dconst0 (G : GG p l s m args meth c D cys ad A cc own nL) (hd : decode cc pc = .ok (.dconst 0, 1)) (kk : JJ p l e R s m args below meth c D cys ad A Q nL cells slots L g X Z (pc + 1) vs (.double FP.dconst0 :: st)) : JJ p l e R s m args below meth c D cys ad A Q nL cells slots L g X Z pc vs st :=
  fun H locs ls hL hP hD hS hl => lv_dconst0 G.x G.b hd (kk H locs ls hL hP hD hS hl)
theorem jr_dbl (G : GG p l s m args meth c D cys ad A cc own nL) {x : UInt64} {post : PT} {mc ms : Nat} (hr : meth.sig.returnType = some .double) (hd : decode cc pc = .ok (.dreturn, 1)) (hc : cells ≤ mc) (hs : slots ≤ ms) (hp : post (some (.double x)) L g X Z) :
    JJ p l e R s m args below meth c D cys ad A (MQ below (Qm D cys ad A post) args s mc ms A) nL cells slots L g X Z pc vs [.double x] :=
  fun H locs ls hL hP hD hS hl => by
    have hlk := G.lk
    exact W.widen hc hs (W.dret G.x G.b hr (fun t ht hW => ⟨⟨_, L, g, X, Z, rfl, hp, hL, by rw [ht]; exact hP, hD⟩, hS.F ht⟩) hS.2.2 hd hlk)
variable {Z0 : ZT} {mc ms : Nat}
theorem jr_DZ (G : GG p l s m args meth c D cys ad A cc own nL) {P : UInt64 → ZT → Prop} {r : UInt64} (hQ : ∀ t, MQ below (Qm D cys ad A (PDZ L g X Z0 P)) args s mc ms A t → Q t) (hr : meth.sig.returnType = some .double) (hd : decode cc pc = .ok (.dreturn, 1)) (hc : cells ≤ mc) (hs : slots ≤ ms) (hp : P r Z) : JJ p l e R s m args below meth c D cys ad A Q nL cells slots L g X Z pc vs [.double r] :=
  j_mono hQ (jr_dbl G hr hd hc hs ⟨r, rfl, hp, rfl, rfl, rfl⟩)
theorem j_cVDZ (G : GG p l s m args meth c D cys ad A cc own nL) {y : MethodName} {cc1 : ByteArray} {nL1 n fr lo idx : Nat} {ret : Option FieldType} {As rest : List Value} {P : UInt64 → ZT → Prop} {k : Nat} {i : Int} {ci : Nat} {fs : List Value} {q1 : vw_C}
    (cv : CV y cc1 nL1 ret n) (hlk : Cond.methodLink own idx y ∈ TW) (hM : CM l D cys ad y cc1 nL1 ret fr lo 0 0 (.ref (ad k i) :: As) L g X Z (PDZ L g X Z P)) (hd : decode cc pc = .ok (.invokevirtual idx, 3))
    (hR : fr + 1 ≤ R.frames ∧ 8 + (nL1 + 11) + lo ≤ R.locals) (hcs : cells ≤ R.cells ∧ slots ≤ R.slots) (hst : st = As.reverse ++ .ref (ad k i) :: rest) (hn : As.length = n) (hrest : (rest.map fun v => v.category).sum ≤ 8)
    (hv : vd k i) (hc : cC cys ad k i X (Z k i) = .inr (ci, fs)) (hq1 : vwCl[ci]? = some q1) (hq2 : q1.1 = y.cls) (kk : ∀ (r : UInt64) (Z1 : ZT), P r Z1 → JJ p l e R s m args below meth c D cys ad A Q nL cells slots L g X Z1 (pc + 3) vs (.double r :: rest)) : JJ p l e R s m args below meth c D cys ad A Q nL cells slots L g X Z pc vs st := by
  refine j_callV G cv hlk hM hd hR hcs hst hn hrest hv hc hq1 hq2 (fun v L1 g1 X1 Z1 h => ?_)
  obtain ⟨r, rfl, h2, rfl, rfl, rfl⟩ := h
  exact kk r _ h2
end DBL
