/-! constructors: the memory is a list of cells; what stood before stays -/
/-- what the tables say of classes and arrays -/
def SF (D : va_G) (cys : Nat → ClassId) (U : State) : Prop := va_K D vwCl (tysC cys) U ∧ va_AO "EbbTable$Tree" U ∧ va_AOA .int U ∧ va_AOA .boolean U ∧ NNS U
theorem SF.warm {D : va_G} {cys : Nat → ClassId} {u U : State} (hW : u.WarmedH U.vm) (h : SF D cys u) : SF D cys U := ⟨va_K.moved hW.alike h.1, h.2.1.moved hW.alike, h.2.2.1.moved hW.alike, h.2.2.2.1.moved hW.alike, h.2.2.2.2.warm hW⟩
theorem SF.same {D : va_G} {cys : Nat → ClassId} {u U : State} (hv : U.vm = u.vm) (h : SF D cys u) : SF D cys U := by
  have hal : u.vm.Alike U.vm := by rw [hv]; exact Vm.Alike.refl _
  exact ⟨va_K.moved hal h.1, h.2.1.moved hal, h.2.2.1.moved hal, h.2.2.2.1.moved hal, h.2.2.2.2.same hv⟩
abbrev I0 (c : ClassId) (n : Nat) : va_E := .inl (c, n, .inl (fun _ => 0))
abbrev QQ (c : ClassId) (n : Nat) (f : Nat → Option Nat) : va_E := .inl (c, n, .inr (.inr (.inr (.inr f))))
abbrev J0 (c : ClassId) (n : Nat) : va_E := .inl (c, n, .inr (.inl (fun _ => 0)))
section KKS
variable {p : Program} {l : Launch} {e : Env} {R : Room} {s : State} {m : MethodId} {args : Array Value} {below : List Frame} {meth : Method} {c : Code} {Q : State → Prop}
variable {D : va_G} {cys : Nat → ClassId} {A : Nat → Prop} {cc : ByteArray} {own : String} {nL : Nat} {cells slots : Nat} {ws0 tl : va_W} {pc : Nat} {vs : List (Nat × Value)} {st : List Value}
def KK (p : Program) (l : Launch) (e : Env) (R : Room) (s : State) (m : MethodId) (args : Array Value) (below : List Frame) (meth : Method) (c : Code) (D : va_G) (A : Nat → Prop) (Q : State → Prop) (nL : Nat) (cells slots : Nat) (ws0 tl : va_W) (pc : Nat) (vs : List (Nat × Value)) (st : List Value) : Prop :=
  ∀ (H : Heap) (locs : List Loc) (ls : Array Slot), va_P D vwCl (ws0 ++ tl) H → va_D A (ws0 ++ tl) → va_S A s.heap H locs → lv_has ls nL vs → W p l e R s m args below meth c H locs cells slots Q (F0 m pc ls st)
def GK (p : Program) (l : Launch) (s : State) (m : MethodId) (args : Array Value) (meth : Method) (c : Code) (D : va_G) (cys : Nat → ClassId) (A : Nat → Prop) (cc : ByteArray) (own : String) (nL : Nat) : Prop :=
  p.tables.exec = Jvm.exec ∧ c.code = cc ∧ c.maxLocals = nL ∧ s.vm.findClass own = some m.cls ∧ (∀ w ∈ TW, w.before args s = true) ∧ SF D cys s ∧ meth.locks = false ∧ (∀ q, s.heap.size ≤ q → A q)
theorem GK.x (h : GK p l s m args meth c D cys A cc own nL) : p.tables.exec = Jvm.exec := h.1
theorem GK.b (h : GK p l s m args meth c D cys A cc own nL) : c.code = cc := h.2.1
theorem GK.ml (h : GK p l s m args meth c D cys A cc own nL) : c.maxLocals = nL := h.2.2.1
theorem GK.ow (h : GK p l s m args meth c D cys A cc own nL) : s.vm.findClass own = some m.cls := h.2.2.2.1
theorem GK.ts (h : GK p l s m args meth c D cys A cc own nL) : ∀ w ∈ TW, w.before args s = true := h.2.2.2.2.1
theorem GK.sf (h : GK p l s m args meth c D cys A cc own nL) : SF D cys s := h.2.2.2.2.2.1
theorem GK.K (h : GK p l s m args meth c D cys A cc own nL) : va_K D vwCl (tysC cys) s := h.sf.1
theorem GK.lk (h : GK p l s m args meth c D cys A cc own nL) : meth.locks = false := h.2.2.2.2.2.2.1
theorem GK.fr (h : GK p l s m args meth c D cys A cc own nL) : ∀ q, s.heap.size ≤ q → A q := h.2.2.2.2.2.2.2
theorem at_tl {k : Nat} {x : Nat × va_E} (h : tl[k]? = some x) : (ws0 ++ tl)[ws0.length + k]? = some x := by
  rw [List.getElem?_append_right (by omega), show ws0.length + k - ws0.length = k by omega]
  exact h
theorem set_tl {k : Nat} {x : Nat × va_E} : (ws0 ++ tl).set (ws0.length + k) x = ws0 ++ tl.set k x := by
  rw [List.set_append_right _ _ (by omega), show ws0.length + k - ws0.length = k by omega]
theorem k_eq {tl' : va_W} (h : tl = tl') (kk : KK p l e R s m args below meth c D A Q nL cells slots ws0 tl' pc vs st) : KK p l e R s m args below meth c D A Q nL cells slots ws0 tl pc vs st := by subst h; exact kk
theorem k_aload_n (G : GK p l s m args meth c D cys A cc own nL) {k : Fin 4} {x : Nat} (hd : decode cc pc = .ok (.aload_n k, 1)) (hk : lkp vs k = some (.ref x)) (kk : KK p l e R s m args below meth c D A Q nL cells slots ws0 tl (pc + 1) vs (.ref x :: st)) : KK p l e R s m args below meth c D A Q nL cells slots ws0 tl pc vs st :=
  fun H locs ls hP hD hS hl => lv_aload_n G.x G.b hd rfl (lv_lk hl hk) (kk H locs ls hP hD hS hl)
theorem k_iload_n (G : GK p l s m args meth c D cys A cc own nL) {k : Fin 4} {x : Int32} (hd : decode cc pc = .ok (.iload_n k, 1)) (hk : lkp vs k = some (.int x)) (kk : KK p l e R s m args below meth c D A Q nL cells slots ws0 tl (pc + 1) vs (.int x :: st)) : KK p l e R s m args below meth c D A Q nL cells slots ws0 tl pc vs st :=
  fun H locs ls hP hD hS hl => lv_iload_n G.x G.b hd rfl (lv_lk hl hk) (kk H locs ls hP hD hS hl)
theorem k_istore_n (G : GK p l s m args meth c D cys A cc own nL) {k : Fin 4} {x : Int32} (hd : decode cc pc = .ok (.istore_n k, 1)) (hn : (k : Nat) < nL) (h2 : no2 vs k = true) (kk : KK p l e R s m args below meth c D A Q nL cells slots ws0 tl (pc + 1) (sto vs k (.int x)) st) : KK p l e R s m args below meth c D A Q nL cells slots ws0 tl pc vs (.int x :: st) :=
  fun H locs ls hP hD hS hl => lv_istore_n G.x G.b hd rfl hl hn rfl (fun ls' hl' => kk H locs ls' hP hD hS (sto_has hl' h2))
theorem k_istore (G : GK p l s m args meth c D cys A cc own nL) {k : Nat} {x : Int32} (hd : decode cc pc = .ok (.istore k, 2)) (hn : k < nL) (h2 : no2 vs k = true) (kk : KK p l e R s m args below meth c D A Q nL cells slots ws0 tl (pc + 2) (sto vs k (.int x)) st) : KK p l e R s m args below meth c D A Q nL cells slots ws0 tl pc vs (.int x :: st) :=
  fun H locs ls hP hD hS hl => lv_istore G.x G.b hd hl hn rfl (fun ls' hl' => kk H locs ls' hP hD hS (sto_has hl' h2))
theorem k_astore_n (G : GK p l s m args meth c D cys A cc own nL) {k : Fin 4} {x : Nat} (hd : decode cc pc = .ok (.astore_n k, 1)) (hn : (k : Nat) < nL) (h2 : no2 vs k = true) (kk : KK p l e R s m args below meth c D A Q nL cells slots ws0 tl (pc + 1) (sto vs k (.ref x)) st) : KK p l e R s m args below meth c D A Q nL cells slots ws0 tl pc vs (.ref x :: st) :=
  fun H locs ls hP hD hS hl => lv_astore_n G.x G.b hd rfl hl hn rfl (fun ls' hl' => kk H locs ls' hP hD hS (sto_has hl' h2))
theorem k_iconst (G : GK p l s m args meth c D cys A cc own nL) {n : Int} (hd : decode cc pc = .ok (.iconst n, 1)) (kk : KK p l e R s m args below meth c D A Q nL cells slots ws0 tl (pc + 1) vs (.int (iI n) :: st)) : KK p l e R s m args below meth c D A Q nL cells slots ws0 tl pc vs st :=
  fun H locs ls hP hD hS hl => lv_iconst G.x G.b hd rfl (kk H locs ls hP hD hS hl)
theorem k_bipush (G : GK p l s m args meth c D cys A cc own nL) {n : Int} (hd : decode cc pc = .ok (.bipush n, 2)) (hv : (Int8.ofInt n).toInt32 = iI n) (kk : KK p l e R s m args below meth c D A Q nL cells slots ws0 tl (pc + 2) vs (.int (iI n) :: st)) : KK p l e R s m args below meth c D A Q nL cells slots ws0 tl pc vs st :=
  fun H locs ls hP hD hS hl => lv_bipush G.x G.b hd hv (kk H locs ls hP hD hS hl)
theorem k_dup (G : GK p l s m args meth c D cys A cc own nL) {v : Value} (hd : decode cc pc = .ok (.dup, 1)) (hv : v.category = 1) (kk : KK p l e R s m args below meth c D A Q nL cells slots ws0 tl (pc + 1) vs (v :: v :: st)) : KK p l e R s m args below meth c D A Q nL cells slots ws0 tl pc vs (v :: st) :=
  fun H locs ls hP hD hS hl => lv_dup G.x G.b hd hv (kk H locs ls hP hD hS hl)
theorem k_goto (G : GK p l s m args meth c D cys A cc own nL) {off : Int} (tgt : Nat) (hd : decode cc pc = .ok (.goto off, 3)) (ht : (pc : Int) + off = (tgt : Int)) (kk : KK p l e R s m args below meth c D A Q nL cells slots ws0 tl tgt vs st) : KK p l e R s m args below meth c D A Q nL cells slots ws0 tl pc vs st :=
  fun H locs ls hP hD hS hl => lv_goto G.x G.b hd ht (kk H locs ls hP hD hS hl)
theorem k_iinc (G : GK p l s m args meth c D cys A cc own nL) {k : Nat} {n a : Int} (hd : decode cc pc = .ok (.iinc k n, 3)) (hk : lkp vs k = some (.int (iI a))) (hn : k < nL) (h2 : no2 vs k = true) (kk : KK p l e R s m args below meth c D A Q nL cells slots ws0 tl (pc + 3) (sto vs k (.int (iI (a + n)))) st) : KK p l e R s m args below meth c D A Q nL cells slots ws0 tl pc vs st := by
  intro H locs ls hP hD hS hl
  obtain ⟨q, hq⟩ := List.getElem?_of_mem (lkp_mem hk)
  refine lv_iinc (v := iI (a + n)) G.x G.b hd hl (k := q) hq (by rw [← iI_add]; rfl) hn rfl (fun ls' hl' => ?_)
  exact kk H locs ls' hP hD hS (sto_has hl' h2)
theorem k_icmp_ge (G : GK p l s m args meth c D cys A cc own nL) {a b off : Int} (tgt : Nat) (hd : decode cc pc = .ok (.if_icmp .ge off, 3)) (ht : (pc : Int) + off = (tgt : Int)) (ha : inR a) (hb : inR b) (kt : b ≤ a → KK p l e R s m args below meth c D A Q nL cells slots ws0 tl tgt vs st) (kf : a < b → KK p l e R s m args below meth c D A Q nL cells slots ws0 tl (pc + 3) vs st) : KK p l e R s m args below meth c D A Q nL cells slots ws0 tl pc vs (.int (iI b) :: .int (iI a) :: st) :=
  fun H locs ls hP hD hS hl => lv_icmp_ge G.x G.b hd ht (fun h => kt ((iI_le hb ha).mp h) H locs ls hP hD hS hl) (fun h => kf (by have := mt (iI_le hb ha).mpr h; omega) H locs ls hP hD hS hl)
theorem k_objInit (G : GK p l s m args meth c D cys A cc own nL) {a idx : Nat} (hlk : Cond.methodLink own idx Lib.objectInit ∈ TW) (hd : decode cc pc = .ok (.invokespecial idx, 3)) (hf : 1 ≤ R.frames) (hlo : (st.map fun v => v.category).sum + 12 ≤ R.locals) (kk : KK p l e R s m args below meth c D A Q nL cells slots ws0 tl (pc + 3) vs st) : KK p l e R s m args below meth c D A Q nL cells slots ws0 tl pc vs (.ref a :: st) := by
  intro H locs ls hP hD hS hl
  refine W.objInit G.x G.b G.ow (G.ts _ hlk) (G.ts _ (TW_of 68 (by decide +kernel) (by decide +kernel))) (G.ts _ (TW_of 69 (by decide +kernel) (by decide +kernel))) rfl (by rw [G.ml]; exact hl.1) rfl hd hf ?_ ?_
  · show 2 * 0 + _ + 12 ≤ _
    omega
  · exact W.eq (g2 := F0 m (pc + 3) ls st) rfl (kk H locs ls hP hD hS hl)
theorem cyK (h : va_K D vwCl (tysC cys) s) {k : Nat} {cA cB : ClassId} {ty : FieldType} (ht : (tysC cys)[k]? = some (cB, ty)) (hK : va_K D vwCl (tysC cys ++ [(cA, ty)]) s) : cA = cB := by
  have e1 := (hK.2 6 (cA, ty) rfl).2
  have e2 := (h.2 k (cB, ty) ht).2
  cases ty with
  | object C =>
    obtain ⟨-, -, -, -, -, h4⟩ := e1
    obtain ⟨-, -, -, -, -, g4⟩ := e2
    exact Option.some.inj (h4.symm.trans g4)
  | _ => exact Option.some.inj (Eq.trans (Eq.symm e1) e2)
theorem k_newI (G : GK p l s m args meth c D cys A cc own nL) {x : Int32} (N : Nat) (hd : decode cc pc = .ok (.newarray .int, 2)) (h0 : ¬ x < 0) (hN : x.toNatClampNeg = N) (h1 : N ≤ 1000) (hc : cells + 1 ≤ R.cells ∧ slots + N ≤ R.slots)
    (kk : ∀ q : Nat, KK p l e R s m args below meth c D A Q nL (cells + 1) (slots + N) ws0 (tl ++ [(q, I0 (cys 0) N)]) (pc + 2) vs (.ref q :: st)) : KK p l e R s m args below meth c D A Q nL cells slots ws0 tl pc vs (.int x :: st) := by
  intro H locs ls hP hD hS hl
  refine va_newa (D := D) G.x G.b (atype := .int) (G.ts _ (TW_of 97 (by decide +kernel) (by decide +kernel))) rfl G.K hP hD hS G.fr (N' := N) (a0 := (N, .inl (fun _ => 0))) (fun cA => rfl) h0 hN (by show N * 4 ≤ 536870912; omega) hc.1 hc.2 hd (fun q cA H1 hK1 hP1 hD1 hS1 => ?_)
  have ec := cyK G.K (k := 0) rfl hK1
  subst ec
  rw [List.append_assoc] at hP1 hD1
  exact kk q H1 locs ls hP1 hD1 hS1 hl
theorem k_newZ (G : GK p l s m args meth c D cys A cc own nL) {x : Int32} (N : Nat) (hd : decode cc pc = .ok (.newarray .boolean, 2)) (h0 : ¬ x < 0) (hN : x.toNatClampNeg = N) (h1 : N ≤ 1000) (hc : cells + 1 ≤ R.cells ∧ slots + N ≤ R.slots)
    (kk : ∀ q : Nat, KK p l e R s m args below meth c D A Q nL (cells + 1) (slots + N) ws0 (tl ++ [(q, I0 (cys 1) N)]) (pc + 2) vs (.ref q :: st)) : KK p l e R s m args below meth c D A Q nL cells slots ws0 tl pc vs (.int x :: st) := by
  intro H locs ls hP hD hS hl
  refine va_newa (D := D) G.x G.b (atype := .boolean) (G.ts _ (TW_of 121 (by decide +kernel) (by decide +kernel))) rfl G.K hP hD hS G.fr (N' := N) (a0 := (N, .inl (fun _ => 0))) (fun cA => rfl) h0 hN (by show N * 1 ≤ 536870912; omega) hc.1 hc.2 hd (fun q cA H1 hK1 hP1 hD1 hS1 => ?_)
  have ec := cyK G.K (k := 1) rfl hK1
  subst ec
  rw [List.append_assoc] at hP1 hD1
  exact kk q H1 locs ls hP1 hD1 hS1 hl
theorem k_newT (G : GK p l s m args meth c D cys A cc own nL) {x : Int32} {idx : Nat} (N : Nat) (hlk : Cond.classLink own idx "EbbTable$Tree" ∈ TW) (hd : decode cc pc = .ok (.anewarray idx, 3)) (h0 : ¬ x < 0) (hN : x.toNatClampNeg = N) (h1 : N ≤ 1000) (hc : cells + 1 ≤ R.cells ∧ slots + N ≤ R.slots)
    (kk : ∀ q : Nat, KK p l e R s m args below meth c D A Q nL (cells + 1) (slots + N) ws0 (tl ++ [(q, QQ (cys 3) N (fun _ => none))]) (pc + 3) vs (.ref q :: st)) : KK p l e R s m args below meth c D A Q nL cells slots ws0 tl pc vs (.int x :: st) := by
  intro H locs ls hP hD hS hl
  refine va_newq (D := D) G.x G.b G.ow (G.ts _ hlk) G.sf.2.1 G.K hP hD hS G.fr (N' := N) h0 hN (by omega) hc.1 hc.2 hd (fun q cA H1 hK1 hP1 hD1 hS1 => ?_)
  have ec := cyK G.K (k := 3) rfl hK1
  subst ec
  rw [List.append_assoc] at hP1 hD1
  exact kk q H1 locs ls hP1 hD1 hS1 hl
/-- new int[N][] -/
theorem k_newA (G : GK p l s m args meth c D cys A cc own nL) {x : Int32} {idx : Nat} (N : Nat) (hlk : Cond.classLink own idx "[I" ∈ TW) (hd : decode cc pc = .ok (.anewarray idx, 3)) (h0 : ¬ x < 0) (hN : x.toNatClampNeg = N) (h1 : N ≤ 1000) (hc : cells + 1 ≤ R.cells ∧ slots + N ≤ R.slots)
    (kk : ∀ q : Nat, KK p l e R s m args below meth c D A Q nL (cells + 1) (slots + N) ws0 (tl ++ [(q, QQ (cys 4) N (fun _ => none))]) (pc + 3) vs (.ref q :: st)) : KK p l e R s m args below meth c D A Q nL cells slots ws0 tl pc vs (.int x :: st) := by
  intro H locs ls hP hD hS hl
  subst hN
  have hlk' : (Cond.classLink own idx (FieldType.array .int).toString).before args s = true := by
    have e9 : (FieldType.array .int).toString = "[I" := by decide +kernel
    rw [e9]
    exact G.ts _ hlk
  refine W.anewA (t := .int) G.x G.b G.ow hlk' (va_AOA.use G.sf.2.2.1) rfl hd rfl h0 (by omega) hc.1 hc.2 (fun cA kA comp f1 f2 f3 f4 => ?_)
  have e4 : s.vm.findClass ("[" ++ (FieldType.array .int).toString) = some (cys 4) := (G.K.2 4 (cys 4, .array .int) rfl).2
  have ec : cA = cys 4 := Option.some.inj (f1.symm.trans e4)
  subst ec
  generalize hH1 : H.push ({ cls := cys 4, slots := Array.replicate x.toNatClampNeg .null, vm := .none } : Cell) = H1
  have z1 : H1.size = H.size + 1 := by rw [← hH1, Array.size_push]
  have e1 : H1[H.size]? = some (arrV (cys 4) x.toNatClampNeg (fun _ => .null)) := by rw [← hH1, Array.getElem?_push_size, ← arrV_new]
  have o1 : ∀ q : Nat, q < H.size → H1[q]? = H[q]? := fun q hq => by rw [← hH1, Array.getElem?_push, if_neg (Nat.ne_of_lt hq)]
  have hk : ∀ (k : Nat) (y : Nat × va_E), (ws0 ++ tl)[k]? = some y → H1[y.1]? = H[y.1]? := fun k y hx => o1 y.1 ((hP k y hx).lt)
  have hD2 := hD.push (e := QQ (cys 4) x.toNatClampNeg (fun _ => none)) hP rfl (G.fr _ hS.1)
  have hP2 : va_P D vwCl ((ws0 ++ tl) ++ [(H.size, QQ (cys 4) x.toNatClampNeg (fun _ => none))]) H1 := (hP.kept hk).app (fun k y hx => by
    have hz : k < 1 := (List.getElem?_eq_some_iff.mp hx).1
    rw [show k = 0 by omega] at hx
    cases hx
    show H1[H.size]? = some (vp_cell _ _)
    rw [vp_cell_q]
    exact e1)
  rw [List.append_assoc] at hP2 hD2
  exact kk H.size H1 locs ls hP2 hD2 ⟨Nat.le_trans hS.1 (by omega), fun y g1 g2 => (o1 y (Nat.lt_of_lt_of_le g1 hS.1)).trans (hS.2.1 y g1 g2), hS.2.2⟩ hl
/-- new int[N][M], new boolean[N][M] -/
theorem k_mna (G : GK p l s m args meth c D cys A cc own nL) {x y : Int32} {idx : Nat} {ty : FieldType} {nm : String} {kO kI : Nat} {cO cI : ClassId} (N M : Nat) (hlk : Cond.classLink own idx nm ∈ TW) (hnm : "[" ++ (FieldType.array ty).toString = nm) (hAO : va_AOA ty s) (harr : Cond.arrayClass ty ∈ TW) (htO : (tysC cys)[kO]? = some (cO, .array ty)) (htI : (tysC cys)[kI]? = some (cI, ty)) (hpt : ∀ cA : ClassId, va_RA s cA ty = (s.vm.findClass ("[" ++ ty.toString) = some cA)) (hst : "[" ++ ty.toString = (FieldType.array ty).toString) (hz : ∀ c : ClassId, Jvm.Free.Multi.innerC c M (defaultValue ty) = vp_cell c (M, .inl (fun _ => 0))) (hdf : fits ty (defaultValue ty) = true) (hdd : (defaultValue ty).isDefault = true) (hcb : componentBytes ty ≤ 8) (hd : decode cc pc = .ok (.multianewarray idx 2, 4)) (h0 : ¬ x < 0) (h1 : ¬ y < 0) (hN : x.toNatClampNeg = N) (hM : y.toNatClampNeg = M) (hN1 : N ≤ 1000) (hM1 : M ≤ 1000) (hc : cells + (1 + N) ≤ R.cells ∧ slots + (N + N * M) ≤ R.slots)
    (kk : ∀ (q : Nat) (r : Nat → Nat), KK p l e R s m args below meth c D A Q nL (cells + 1 + N) (slots + N + N * M) ws0 (tl ++ ((q, QQ cO N (fun i => if i < N then some (r i) else none)) :: (List.range N).map (fun i => (r i, I0 cI M)))) (pc + 4) vs (.ref q :: st)) : KK p l e R s m args below meth c D A Q nL cells slots ws0 tl pc vs (.int y :: .int x :: st) := by
  intro H locs ls hP hD hS hl
  have hcy : s.vm.findClass (FieldType.array ty).toString = some cI := by
    have h9 := (G.K.2 kI (cI, ty) htI).2
    rw [hpt] at h9
    rw [← hst]
    exact h9
  have e0 : (ws0 ++ tl) ++ va_pl [] (fun _ => I0 cI 0) = ws0 ++ tl := by simp [va_pl]
  refine va_mna (D := D) (cl := vwCl) (X := ws0 ++ tl) (L := []) (f := fun _ => I0 cI 0) G.x G.b G.ow (by rw [hnm]; exact G.ts _ hlk) hAO (G.ts _ harr) hcy G.K (by rw [e0]; exact hP) (by rw [e0]; exact hD) hS G.fr (z := (M, .inl (fun _ => 0))) h0 h1 hN hM (by omega) (Nat.le_trans (Nat.mul_le_mul hM1 hcb) (by decide)) (by omega) hdf hdd hc.1 hc.2 hz hd (fun q r cA H1 hr1 hr2 hK1 hP1 hD1 hS1 => ?_)
  have ec := cyK G.K htO hK1
  subst ec
  have e1 : va_pl ([] ++ (List.range N).map r) (vr_up (fun _ => I0 cI 0) ((List.range N).map r) (.inl (cI, (M, .inl (fun _ => 0))))) = (List.range N).map (fun i => (r i, I0 cI M)) := by
    show ((List.range N).map r).map _ = _
    rw [List.map_map]
    refine List.map_congr_left (fun i hi => ?_)
    show (r i, vr_up _ _ _ (r i)) = _
    rw [vr_up_in (List.mem_map.mpr ⟨i, hi, rfl⟩)]
  rw [e1, List.append_assoc, List.append_assoc] at hP1 hD1
  exact kk q r H1 locs ls hP1 hD1 hS1 hl
theorem k_new (G : GK p l s m args meth c D cys A cc own nL) {C : String} {T : u_T} {N ci idx : Nat} {ty : Nat → FieldType} {fs : List Value} (hcl : vwCl[ci]? = some (C, T, N)) (hin : ∀ w ∈ u_ws C T N, w ∈ TW) (hty : ∀ k, k < N → parseFieldDescriptor (T k).2.2.1 = some (ty k)) (hfs : ∀ j, j < N → defaultValue (ty j) = vp_V fs j) (hlk : Cond.classLink own idx C ∈ TW) (hinst : Cond.instantiable C N ∈ TW) (hini : Cond.initialized C ∈ TW) (hd : decode cc pc = .ok (.new idx, 3)) (hc : cells + 1 ≤ R.cells ∧ slots + N ≤ R.slots)
    (kk : ∀ q : Nat, KK p l e R s m args below meth c D A Q nL (cells + 1) (slots + N) ws0 (tl ++ [(q, .inr (ci, fs))]) (pc + 3) vs (.ref q :: st)) : KK p l e R s m args below meth c D A Q nL cells slots ws0 tl pc vs st := by
  intro H locs ls hP hD hS hl
  refine va_new (D := D) G.x G.b G.ts hin ty hty G.ow (G.ts _ hlk) (G.ts _ hinst) (G.ts _ hini) G.K hP hD hS G.fr hcl hfs hc.1 hc.2 hd (fun q H1 hP1 hD1 hS1 => ?_)
  rw [List.append_assoc] at hP1 hD1
  exact kk q H1 locs ls hP1 hD1 hS1 hl
theorem k_putF (G : GK p l s m args meth c D cys A cc own nL) (hini : meth.name = "<init>") {C : String} {T : u_T} {N ci idx a : Nat} {ty0 : Nat → FieldType} {ty : FieldType} {fs : List Value} {v : Value} (q0 k : Nat) (hq : tl[q0]? = some (a, .inr (ci, fs))) (hcl : vwCl[ci]? = some (C, T, N)) (hin : ∀ w ∈ u_ws C T N, w ∈ TW) (hty : ∀ k, k < N → parseFieldDescriptor (T k).2.2.1 = some (ty0 k)) (hnm : ∀ a, a < N → ∀ b, b < N → a ≠ b → (T a).2.1 ≠ (T b).2.1) (hk : k < N) (hlink : Cond.fieldLink own idx C (T k).2.1 (T k).2.2.1 ∈ TW) (hTC : (T k).1 = C) (hfin : (T k).2.2.2 = true) (hdecl : C = own) (hpd : parseFieldDescriptor (T k).2.2.1 = some ty) (hnar : narrow ty v = v) (hfit : fits ty v = true) (hl2 : k < fs.length) (hd : decode cc pc = .ok (.putfield idx, 3))
    (kk : KK p l e R s m args below meth c D A Q nL cells slots ws0 (tl.set q0 (a, .inr (ci, fs.set k v))) (pc + 3) vs st) : KK p l e R s m args below meth c D A Q nL cells slots ws0 tl pc vs (v :: .ref a :: st) := by
  intro H locs ls hP hD hS hl
  refine va_putF (D := D) (ref := C) G.x G.b G.ts hin ty0 hty hnm G.ow G.K hP hD hS (ws0.length + q0) (at_tl hq) hcl k hk (G.ts _ hlink) (fun _ h9 => by rw [hTC] at h9; exact h9) hfin hini (by rw [hTC]; exact hdecl) hpd hnar hfit hl2 hd (fun H1 locs1 hP1 hD1 hS1 => ?_)
  rw [set_tl] at hP1 hD1
  exact kk H1 locs1 ls hP1 hD1 hS1 hl
theorem k_put (G : GK p l s m args meth c D cys A cc own nL) {C : String} {T : u_T} {N ci idx a : Nat} {ty0 : Nat → FieldType} {ty : FieldType} {fs : List Value} {v : Value} (q0 k : Nat) (hq : tl[q0]? = some (a, .inr (ci, fs))) (hcl : vwCl[ci]? = some (C, T, N)) (hin : ∀ w ∈ u_ws C T N, w ∈ TW) (hty : ∀ k, k < N → parseFieldDescriptor (T k).2.2.1 = some (ty0 k)) (hnm : ∀ a, a < N → ∀ b, b < N → a ≠ b → (T a).2.1 ≠ (T b).2.1) (hk : k < N) (hlink : Cond.fieldLink own idx C (T k).2.1 (T k).2.2.1 ∈ TW) (hTC : (T k).1 = C) (hfin : (T k).2.2.2 = false) (hpd : parseFieldDescriptor (T k).2.2.1 = some ty) (hnar : narrow ty v = v) (hfit : fits ty v = true) (hl2 : k < fs.length) (hd : decode cc pc = .ok (.putfield idx, 3))
    (kk : KK p l e R s m args below meth c D A Q nL cells slots ws0 (tl.set q0 (a, .inr (ci, fs.set k v))) (pc + 3) vs st) : KK p l e R s m args below meth c D A Q nL cells slots ws0 tl pc vs (v :: .ref a :: st) := by
  intro H locs ls hP hD hS hl
  refine va_put (D := D) (ref := C) G.x G.b G.ts hin ty0 hty hnm G.ow G.K hP hD hS (ws0.length + q0) (at_tl hq) hcl k hk (G.ts _ hlink) (fun _ h9 => by rw [hTC] at h9; exact h9) hfin hpd hnar hfit hl2 hd (fun H1 locs1 hP1 hD1 hS1 => ?_)
  rw [set_tl] at hP1 hD1
  exact kk H1 locs1 ls hP1 hD1 hS1 hl
theorem k_get (G : GK p l s m args meth c D cys A cc own nL) {C : String} {T : u_T} {N ci idx a : Nat} {fs : List Value} {v : Value} (q0 k : Nat) (hq : tl[q0]? = some (a, .inr (ci, fs))) (hcl : vwCl[ci]? = some (C, T, N)) (hin : ∀ w ∈ u_ws C T N, w ∈ TW) (hk : k < N) (hlink : Cond.fieldLink own idx C (T k).2.1 (T k).2.2.1 ∈ TW) (hTC : (T k).1 = C) (hf : fs[k]? = some v) (hd : decode cc pc = .ok (.getfield idx, 3))
    (kk : KK p l e R s m args below meth c D A Q nL cells slots ws0 tl (pc + 3) vs (v :: st)) : KK p l e R s m args below meth c D A Q nL cells slots ws0 tl pc vs (.ref a :: st) := by
  intro H locs ls hP hD hS hl
  exact va_get (D := D) (ci := ci) (v := v) (C := C) (T := T) (N := N) G.x G.b G.ts hin G.ow G.K hP (ws0.length + q0) (at_tl hq) hcl k hk (G.ts _ hlink) (fun _ h9 => by rw [hTC] at h9; exact h9) hf hd (kk H locs ls hP hD hS hl)
theorem k_aastT (G : GK p l s m args meth c D cys A cc own nL) {a v N : Nat} {f : Nat → Option Nat} {fs : List Value} {x : Int32} (q0 q1 : Nat) (j : Nat) (hq : tl[q0]? = some (a, QQ (cys 3) N f)) (hq1 : tl[q1]? = some (v, .inr (4, fs))) (hx : x.toNatClampNeg = j) (hin : vp_in x N) (hd : decode cc pc = .ok (.aastore, 1))
    (kk : KK p l e R s m args below meth c D A Q nL cells slots ws0 (tl.set q0 (a, QQ (cys 3) N (va_up f j (some v)))) (pc + 1) vs st) : KK p l e R s m args below meth c D A Q nL cells slots ws0 tl pc vs (.ref v :: .int x :: .ref a :: st) := by
  intro H locs ls hP hD hS hl
  subst hx
  refine va_astq (D := D) (r := (RX4, TX4, 6)) G.x G.b G.K hP hD hS (ws0.length + q0) 3 (ws0.length + q1) 4 (at_tl hq) rfl (at_tl hq1) rfl hin hd (fun H1 locs1 hP1 hD1 hS1 => ?_)
  rw [set_tl] at hP1 hD1
  exact kk H1 locs1 ls hP1 hD1 hS1 hl
/-- a constructor's contract -/
def QK (D : va_G) (A : Nat → Prop) (ws0 : va_W) (post : va_W → Prop) : Array Value → State → Outcome → State → Prop := fun _ st oc t =>
  (∃ tl : va_W, oc = .returned none ∧ post tl ∧ va_P D vwCl (ws0 ++ tl) t.heap ∧ va_D A (ws0 ++ tl)) ∧ va_F A st t
def WK (D : va_G) (cys : Nat → ClassId) (ws : va_W) (sz : Nat) (U : State) : Prop := U.heap.size = sz ∧ va_P D vwCl ws U.heap ∧ SF D cys U ∧ va_D (fun _ => True) ws
def CK (l : Launch) (D : va_G) (cys : Nat → ClassId) (y : MethodName) (cc : ByteArray) (nL fr lo mc ms : Nat) (a ci : Nat) (fs : List Value) (ws0 : va_W) (post : va_W → Prop) : Prop :=
  ∀ sz : Nat, Met l y (.code y cc nL none :: TW) ({ frames := fr, cells := mc, slots := ms, locals := lo }) (va_Pc [.ref a] (WK D cys (ws0 ++ [(a, .inr (ci, fs))]) sz)) (QK D (va_A (ws0 ++ [(a, .inr (ci, fs))]) sz) ws0 post) mc ms (va_A (ws0 ++ [(a, .inr (ci, fs))]) sz)
theorem WK.blind {ws : va_W} {sz : Nat} {av : List Value} : FrameBlind (va_Pc av (WK D cys ws sz)) := by
  intro a U f mk h
  obtain ⟨h0, h1, h2, h3, h4⟩ := h
  exact ⟨h0, h1, h2, SF.same (u := U) (U := U.calling f mk a) rfl h3, h4⟩
theorem ck_start {y : MethodName} {fr lo mc ms a ci : Nat} {fs : List Value} {post : va_W → Prop} (hy : plainName y.cls = true) (hy1 : y.name = "<init>") (hn : (lg_sl [.ref a]).length ≤ nL)
    (body : ∀ (p : Program) (e : Env) (s : State) (m : MethodId) (args : Array Value) (below : List Frame) (meth : Method) (c : Code) (A : Nat → Prop), GK p l s m args meth c D cys A cc y.cls nL → meth.sig.returnType = none → meth.name = "<init>" →
      KK p l e { frames := fr, cells := mc, slots := ms, locals := lo } s m args below meth c D A (MQ below (QK D A ws0 post) args s mc ms A) nL 0 0 ws0 [(a, .inr (ci, fs))] 0 (lv_args 0 [.ref a]) []) : CK l D cys y cc nL fr lo mc ms a ci fs ws0 post := by
  intro sz
  refine Met.ofW (cc := cc) (maxL := nL) (ret := none) hy rfl ?_
  intro p e s m args below meth c s₁ B hml hv
  obtain ⟨rfl, hsz, hP, hSF, hD0⟩ := hv
  subst hsz
  have hts := atoms_spec (ws := Cond.code y cc nL none :: TW) B.pre
  have hown : s.vm.findClass y.cls = some m.cls := findClass_of_methodNamed B.named
  have hD := hD0.self (sz := s.heap.size)
  rw [lg_entry_eq]
  exact body p e s m _ below meth c _ ⟨B.exec, B.bytes, hml, hown, fun w hw => hts w (List.mem_cons_of_mem _ hw), hSF, B.notSynchronized, fun q h => Or.inr h⟩ B.returns (by rw [← hy1]; exact (name_of_methodNamed B.named B.method).1)
    s.heap [] _ hP hD va_S.rf (lv_entry _ hn)
theorem k_ret (G : GK p l s m args meth c D cys A cc own nL) {post : va_W → Prop} {mc ms : Nat} (hr : meth.sig.returnType = none) (hd : decode cc pc = .ok (.return_, 1)) (hc : cells ≤ mc) (hs : slots ≤ ms) (hp : post tl) :
    KK p l e R s m args below meth c D A (MQ below (QK D A ws0 post) args s mc ms A) nL cells slots ws0 tl pc vs [] :=
  fun H locs ls hP hD hS hl => by
    have hlk := G.lk
    exact W.widen hc hs (W.vret G.x G.b hr (fun t ht hW => ⟨⟨tl, rfl, hp, by rw [ht]; exact hP, hD⟩, hS.F ht⟩) hS.2.2 hd hlk)
theorem k_call (G : GK p l s m args meth c D cys A cc own nL) {y : MethodName} {cc1 : ByteArray} {nL1 fr lo mc ms idx a ci : Nat} {fs : List Value} {post : va_W → Prop} (c1 : Cond.instanceMethod y ∈ TW) (c2 : Cond.initialized y.cls ∈ TW) (c3 : Cond.code y cc1 nL1 none ∈ TW) (c4 : y.cls ≠ "java/lang/invoke/MethodHandle" ∧ y.cls ≠ "java/lang/invoke/VarHandle" ∧ (parseMethodDescriptor y.desc).map (fun d => d.parameters.length) = some 0) (c5 : y.name = "<init>") (hlk : Cond.methodLink own idx y ∈ TW)
    (hM : CK l D cys y cc1 nL1 fr lo mc ms a ci fs (ws0 ++ tl) post) (hd : decode cc pc = .ok (.invokespecial idx, 3)) (hR : fr + 1 ≤ R.frames ∧ 8 + (nL1 + 11) + lo ≤ R.locals) (hcs : cells + mc ≤ R.cells ∧ slots + ms ≤ R.slots) (hrest : (st.map fun v => v.category).sum ≤ 8)
    (kk : ∀ tl2 : va_W, post tl2 → KK p l e R s m args below meth c D A Q nL (cells + mc) (slots + ms) ws0 (tl ++ tl2) (pc + 3) vs st) : KK p l e R s m args below meth c D A Q nL cells slots ws0 (tl ++ [(a, .inr (ci, fs))]) pc vs (.ref a :: st) := by
  intro H locs ls hP hD hS hl
  rw [← List.append_assoc] at hP hD
  have hG : GoodIn TW (.code y cc1 nL1 none :: TW) := TW_sub (fun w hw => by
    rcases List.mem_cons.mp hw with rfl | h
    · exact c3
    · exact h)
  have hAA : ∀ q, va_A (ws0 ++ tl ++ [(a, .inr (ci, fs))]) H.size q → A q := by
    intro q hq
    rcases hq with ⟨k, x, hk⟩ | hq
    · exact hD.2 k (q, x) hk
    · exact G.fr q (Nat.le_trans hS.1 hq)
  have hr := va_runI (p := p) (l := l) (e := e) (R := R) (s := s) (m := m) (args := args) (below := below) (meth := meth) (c := c) (H := H) (locs := locs) (cells := cells) (slots := slots) (b := a) (As := []) (rest := st) (g := F0 m pc ls (.ref a :: st)) ⟨G.x, G.b, G.ml, G.ow, G.ts⟩ (hM H.size) (cwI (bytes := cc1) (maxL := nL1) (ws' := TW) 0 G.ts hG rfl rfl rfl (G.ts _ c2) (G.ts _ hlk) (G.ts _ c1) c5 c4 hR) ⟨WK.blind, fun U hU hW => ⟨rfl, by rw [hU], by rw [hU]; exact hP, SF.warm hW G.sf, hD.weaken (fun _ _ _ _ => trivial)⟩⟩ rfl rfl hl.1 rfl (lv_room hrest) hd hcs
  intro T hT Xs
  obtain ⟨v, st₀, t, T', L0, h0, X', hL0, e1, e2, ⟨⟨tl2, hv, hp, hP1, hD1⟩, hz, hk⟩, stp⟩ := hr T hT Xs
  cases hv
  rw [h0] at hz hk
  rw [List.append_assoc] at hP1
  have hD2 : va_D (va_A (ws0 ++ tl ++ [(a, .inr (ci, fs))]) H.size) (ws0 ++ (tl ++ tl2)) := by rw [← List.append_assoc ws0 tl tl2]; exact hD1
  obtain ⟨t2, a1, b1⟩ := kk tl2 hp T'.heap (locs ++ L0) ls (by rw [e1]; exact hP1) (hD2.weaken (fun _ _ _ h => hAA _ h))
    ⟨Nat.le_trans hS.1 (by rw [e1]; exact hz), fun q h1 h2 => by rw [e1, hk q (Nat.lt_of_lt_of_le h1 hS.1) (fun z => h2 (hAA q z))]; exact hS.2.1 q h1 h2, fun q hq => by
      rcases List.mem_append.mp hq with h | h
      · exact hS.2.2 q h
      · exact hAA _ (hL0 q h)⟩ hl T' rfl X'
  exact ⟨t2, stp t2 a1, b1⟩
theorem k_callN (G : GK p l s m args meth c D cys A cc own nL) {y : MethodName} {cc1 : ByteArray} {nL1 fr lo mc ms idx a ci : Nat} {fs : List Value} {post : va_W → Prop} (c1 : Cond.instanceMethod y ∈ TW) (c2 : Cond.initialized y.cls ∈ TW) (c3 : Cond.code y cc1 nL1 none ∈ TW) (c4 : y.cls ≠ "java/lang/invoke/MethodHandle" ∧ y.cls ≠ "java/lang/invoke/VarHandle" ∧ (parseMethodDescriptor y.desc).map (fun d => d.parameters.length) = some 0) (c5 : y.name = "<init>") {host : String} (hlk : (own, idx, y, host) ∈ NNL)
    (hM : CK l D cys y cc1 nL1 fr lo mc ms a ci fs (ws0 ++ tl) post) (hd : decode cc pc = .ok (.invokespecial idx, 3)) (hR : fr + 1 ≤ R.frames ∧ 8 + (nL1 + 11) + lo ≤ R.locals) (hcs : cells + mc ≤ R.cells ∧ slots + ms ≤ R.slots) (hrest : (st.map fun v => v.category).sum ≤ 8)
    (kk : ∀ tl2 : va_W, post tl2 → KK p l e R s m args below meth c D A Q nL (cells + mc) (slots + ms) ws0 (tl ++ tl2) (pc + 3) vs st) : KK p l e R s m args below meth c D A Q nL cells slots ws0 (tl ++ [(a, .inr (ci, fs))]) pc vs (.ref a :: st) := by
  intro H locs ls hP hD hS hl
  rw [← List.append_assoc] at hP hD
  have hG : GoodIn TW (.code y cc1 nL1 none :: TW) := TW_sub (fun w hw => by
    rcases List.mem_cons.mp hw with rfl | h
    · exact c3
    · exact h)
  have hAA : ∀ q, va_A (ws0 ++ tl ++ [(a, .inr (ci, fs))]) H.size q → A q := by
    intro q hq
    rcases hq with ⟨k, x, hk⟩ | hq
    · exact hD.2 k (q, x) hk
    · exact G.fr q (Nat.le_trans hS.1 hq)
  have hr := va_runIN (p := p) (l := l) (e := e) (R := R) (s := s) (m := m) (args := args) (below := below) (meth := meth) (c := c) (H := H) (locs := locs) (cells := cells) (slots := slots) (b := a) (As := []) (rest := st) (g := F0 m pc ls (.ref a :: st)) ⟨G.x, G.b, G.ml, G.ow, G.ts⟩ (hM H.size) ⟨va_cnB (host := host) (bytes := cc1) (maxL := nL1) (ws' := TW) 0 G.ts hG rfl rfl rfl (G.sf.2.2.2.2 _ hlk) (G.ts _ c2) c4 hR, c5, G.ts _ c1⟩ ⟨WK.blind, fun U hU hW => ⟨rfl, by rw [hU], by rw [hU]; exact hP, SF.warm hW G.sf, hD.weaken (fun _ _ _ _ => trivial)⟩⟩ rfl rfl hl.1 rfl (lv_room hrest) hd hcs
  intro T hT Xs
  obtain ⟨v, st₀, t, T', L0, h0, X', hL0, e1, e2, ⟨⟨tl2, hv, hp, hP1, hD1⟩, hz, hk⟩, stp⟩ := hr T hT Xs
  cases hv
  rw [h0] at hz hk
  rw [List.append_assoc] at hP1
  have hD2 : va_D (va_A (ws0 ++ tl ++ [(a, .inr (ci, fs))]) H.size) (ws0 ++ (tl ++ tl2)) := by rw [← List.append_assoc ws0 tl tl2]; exact hD1
  obtain ⟨t2, a1, b1⟩ := kk tl2 hp T'.heap (locs ++ L0) ls (by rw [e1]; exact hP1) (hD2.weaken (fun _ _ _ h => hAA _ h))
    ⟨Nat.le_trans hS.1 (by rw [e1]; exact hz), fun q h1 h2 => by rw [e1, hk q (Nat.lt_of_lt_of_le h1 hS.1) (fun z => h2 (hAA q z))]; exact hS.2.1 q h1 h2, fun q hq => by
      rcases List.mem_append.mp hq with h | h
      · exact hS.2.2 q h
      · exact hAA _ (hL0 q h)⟩ hl T' rfl X'
  exact ⟨t2, stp t2 a1, b1⟩
theorem gk_of {ad : Nat → Int → Nat} (G : GG p l s m args meth c D cys ad A cc own nL) : GK p l s m args meth c D cys A cc own nL := ⟨G.x, G.b, G.ml, G.ow, G.ts, ⟨G.K, G.amx.2.2.2.2.2.2.2.2.2.2.1, G.amx.2.2.2.2.2.1, G.amx.2.2.2.2.2.2.1, G.amx.2.2.2.2.2.2.2.2.2.2.2⟩, G.lk, G.fr⟩
end KKS
/-! a list of cells joins the memory -/
def upL (g : Nat → va_E) : va_W → Nat → va_E
  | [] => g
  | q :: r => upL (va_up g q.1 q.2) r
theorem upL_out {tl : va_W} : ∀ {g : Nat → va_E} {a : Nat}, a ∉ tl.map (·.1) → upL g tl a = g a := by
  induction tl with
  | nil => intro g a _; rfl
  | cons q r ih =>
    intro g a h
    have h1 : a ≠ q.1 := fun e => h (by rw [e]; exact List.mem_cons_self)
    show upL (va_up g q.1 q.2) r a = g a
    rw [ih (fun z => h (List.mem_cons_of_mem _ z)), va_up_ne _ _ h1]
theorem upL_at {tl : va_W} : ∀ {g : Nat → va_E} {k : Nat} {q : Nat × va_E}, (tl.map (·.1)).Nodup → tl[k]? = some q → upL g tl q.1 = q.2 := by
  induction tl with
  | nil => intro g k q _ h; simp at h
  | cons x r ih =>
    intro g k q hn h
    have hc := List.nodup_cons.mp hn
    cases k with
    | zero =>
      simp only [List.getElem?_cons_zero] at h
      cases h
      show upL (va_up g x.1 x.2) r x.1 = x.2
      rw [upL_out hc.1, va_up_self]
    | succ k =>
      simp only [List.getElem?_cons_succ] at h
      exact ih hc.2 h
theorem va_D_nodup {A : Nat → Prop} {X tl : va_W} (h : va_D A (X ++ tl)) : (tl.map (·.1)).Nodup := by
  unfold List.Nodup
  rw [List.pairwise_map]
  refine List.pairwise_iff_getElem.mpr (fun i j hi hj hij e => ?_)
  have h1 := h.1 (X.length + i) (X.length + j) tl[i] tl[j] (by rw [List.getElem?_append_right (by omega), show X.length + i - X.length = i by omega]; exact List.getElem?_eq_getElem hi) (by rw [List.getElem?_append_right (by omega), show X.length + j - X.length = j by omega]; exact List.getElem?_eq_getElem hj) e
  omega
theorem mw_app {cys : Nat → ClassId} {ad : Nat → Int → Nat} {X : Int64} {Z : ZT} {A : Nat → Prop} {tl : va_W} : ∀ {L : List Nat} {g : Nat → va_E}, SL ad L → va_D A (MW cys ad L g X Z ++ tl) → MW cys ad L g X Z ++ tl = MW cys ad (L ++ tl.map (·.1)) (upL g tl) X Z ∧ SL ad (L ++ tl.map (·.1)) ∧ ∀ a ∈ tl.map (·.1), a ∉ L ∧ ¬ isS ad a := by
  induction tl with
  | nil =>
    intro L g hL hD
    refine ⟨by simp [upL], by simpa using hL, fun a h => by simp at h⟩
  | cons q r ih =>
    intro L g hL hD
    have e0 : MW cys ad L g X Z ++ q :: r = (MW cys ad L g X Z ++ [q]) ++ r := by simp
    have hD1 : va_D A (MW cys ad L g X Z ++ [q]) := by
      rw [e0] at hD
      exact ⟨fun i j p p' h1 h2 => hD.1 i j p p' (List.getElem?_append_left (List.getElem?_eq_some_iff.mp h1).1 ▸ h1) (List.getElem?_append_left (List.getElem?_eq_some_iff.mp h2).1 ▸ h2), fun k p h1 => hD.2 k p (List.getElem?_append_left (List.getElem?_eq_some_iff.mp h1).1 ▸ h1)⟩
    have hq : q.1 ∉ L := va_pl_fresh2 (X := []) (L := L) (q := q.1) (e := q.2) (f := ov cys ad g X Z) hD1
    have hs := nS_of hL hq
    have hp := mw_push (cys := cys) (ad := ad) (L := L) (g := g) (X := X) (Z := Z) (a := q.1) (x := q.2) hq hs
    have hL1 : SL ad (L ++ [q.1]) := fun k i h => List.mem_append_left _ (hL k i h)
    rw [e0, show (MW cys ad L g X Z ++ [q]) = MW cys ad (L ++ [q.1]) (va_up g q.1 q.2) X Z from hp] at hD
    obtain ⟨i1, i2, i3⟩ := ih hL1 hD
    refine ⟨?_, ?_, fun a ha => ?_⟩
    · rw [e0, show (MW cys ad L g X Z ++ [q]) = MW cys ad (L ++ [q.1]) (va_up g q.1 q.2) X Z from hp, i1]
      simp [upL, List.append_assoc]
    · simpa [List.append_assoc] using i2
    · rcases List.mem_cons.mp ha with e | ha
      · rw [e]; exact ⟨hq, hs⟩
      · have := i3 a ha
        exact ⟨fun z => this.1 (List.mem_append_left _ z), this.2⟩
