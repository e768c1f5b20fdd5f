/-! the judgement JJ: the machine stands in a method's frame, the memory is (L, g, X, Z) -/
def tysC (cys : Nat → ClassId) : List (ClassId × FieldType) := [(cys 0, .int), (cys 1, .boolean), (cys 2, .object "java/lang/Object"), (cys 3, .object "EbbTable$Tree"), (cys 4, .array .int), (cys 5, .array .boolean)]
def SL (ad : Nat → Int → Nat) (L : List Nat) : Prop := ∀ (k : Nat) (i : Int), vd k i → ad k i ∈ L
/-- words that the tables hold, but that no call's words may carry -/
def NGL : List Cond := [.castable "java/lang/IndexOutOfBoundsException" "java/lang/IndexOutOfBoundsException", .castable "java/lang/IllegalArgumentException" "java/lang/IllegalArgumentException", .castable "java/lang/IllegalStateException" "java/lang/IllegalStateException", .castable "java/lang/Integer" "java/lang/Object", .declares ⟨"java/lang/RuntimeException", "<init>", "()V"⟩, .declares ⟨"java/lang/RuntimeException", "<init>", "(Ljava/lang/String;)V"⟩, .declares ⟨"java/lang/Exception", "<init>", "()V"⟩, .declares ⟨"java/lang/Exception", "<init>", "(Ljava/lang/String;)V"⟩, .declares ⟨"java/lang/Throwable", "<init>", "()V"⟩, .declares ⟨"java/lang/Throwable", "<init>", "(Ljava/lang/String;)V"⟩, .declares ⟨"java/lang/Object", "getClass", "()Ljava/lang/Class;"⟩]
def STRL : List (String × Nat × String) := [("EbbTable", 318, "no such dimension"), ("EbbTable", 325, "no such level"), ("EbbTable", 61, "levels is not 1 to 3"), ("EbbTable", 72, "there are 4 dimensions"), ("EbbTable", 320, "no such member"), ("EbbTable", 90, "the parent is a leaf"), ("EbbTable", 96, "the dimension has 24 members"), ("EbbTable", 153, "value is not -10000 to 10000"), ("EbbTable", 158, "the point is not one of leaves"), ("EbbTable", 161, "there are 80 facts"), ("EbbTable", 107, "no such parent"), ("EbbTable", 110, "the root has no parent"), ("EbbTable", 116, "the parent is on another level than the one before"), ("EbbTable", 170, "no such fact"), ("EbbTable", 214, "both dimensions are the same"), ("EbbTable", 262, "there are 6 views"), ("EbbTable", 387, "no such view"), ("EbbTable", 340, "not so many children"), ("EbbTable", 202, "part is not 1 to 1000"), ("EbbTable", 342, "there are no axes"), ("EbbTable", 347, "no such row or column")]
def NGS (U : State) : Prop := (∀ w ∈ NGL, va_Nw w U) ∧ ∀ q ∈ STRL, ∃ a, vk_R q.1 q.2.1 q.2.2 a U
theorem NGL_is {w : Cond} (h : w ∈ NGL) : (∃ a b, w = .castable a b) ∨ ∃ y, w = .declares y := by
  simp only [NGL, List.mem_cons, List.not_mem_nil, or_false] at h
  rcases h with rfl | rfl | rfl | rfl | rfl | rfl | rfl | rfl | rfl | rfl | rfl <;> first | exact Or.inl ⟨_, _, rfl⟩ | exact Or.inr ⟨_, rfl⟩
theorem NGS.warm {s U : State} (hW : s.WarmedH U.vm) (h : NGS s) : NGS U := by
  refine ⟨fun w hw => ?_, fun q hq => ?_⟩
  · rcases NGL_is hw with ⟨a, b, rfl⟩ | ⟨y, rfl⟩
    · exact va_Nw.warmC hW (h.1 _ hw)
    · exact va_Nw.warmD hW (h.1 _ hw)
  · obtain ⟨a, ha⟩ := h.2 q hq
    exact ⟨a, vk_R.warm hW ha⟩
theorem NGS.same {u U : State} (hv : U.vm = u.vm) (h : NGS u) : NGS U := by
  refine ⟨fun w hw => ?_, fun q hq => ?_⟩
  · rcases NGL_is hw with ⟨a, b, rfl⟩ | ⟨y, rfl⟩ <;> exact va_Nw.same rfl hv.symm (h.1 _ hw)
  · obtain ⟨a, ha⟩ := h.2 q hq
    exact ⟨a, vk_R.same hv ha⟩
def Amb (A : Nat → Prop) (U : State) (H : Heap) : Prop := vx_Zq Bundle.tN "UNASSIGNED_STACK" Bundle.steD A U H ∧ vx_Zq Bundle.tN "SUPPRESSED_SENTINEL" Bundle.listD A U H ∧ NGS U
/-! what stands beside the memory: the script, the small Integers, ArrayList's empty array, what the tables say of arrays and of catches -/
def scX (ad : Nat → Int → Nat) : Nat → Int32 := fun j => Int32.ofNat (ad 43 j)
def SCR (ad : Nat → Int → Nat) (A : Nat → Prop) (U : State) (H : Heap) : Prop := va_X (ad 40 0) (ad 40 1) (scX ad) U H ∧ ad 40 0 < H.size ∧ ¬ A (ad 40 0)
abbrev icC : String := "java/lang/Integer$IntegerCache"
abbrev alC : String := "java/util/ArrayList"
abbrev alE : String := "DEFAULTCAPACITY_EMPTY_ELEMENTDATA"
abbrev obA : String := "[Ljava/lang/Object;"
def ICH (ad : Nat → Int → Nat) (A : Nat → Prop) (U : State) (H : Heap) : Prop := vb_C (fun k => ad 41 k) A U H ∧ va_Z icC "high" "I" (.int 127) A U H ∧ va_Z icC "cache" "[Ljava/lang/Integer;" (.ref (ad 42 0)) A U H ∧ va_T (.object "java/lang/Integer") (ad 42 0) 256 (fun k => .ref (ad 41 k)) A U H
def ALE (ad : Nat → Int → Nat) (A : Nat → Prop) (U : State) (H : Heap) : Prop := va_Z alC alE obA (.ref (ad 42 1)) A U H ∧ va_T (.object "java/lang/Object") (ad 42 1) 0 (fun _ => .null) A U H ∧ va_O obA (ad 42 1) A U H
theorem va_AOA.moved {t : FieldType} {u U : State} (hvm : u.vm.Alike U.vm) (h : va_AOA t u) : va_AOA t U := by
  obtain ⟨comp, c, k, h1, h2, h3, h4, h5⟩ := arrayOverA_spec (args := #[]) h
  obtain ⟨k', hk', he⟩ := hvm.2.2 _ _ h3
  have hi := (hvm.findIdx?_eq _ (fun _ => rfl)).trans h2
  have hkind : k'.kind = .array comp (.array t) := by rw [he]; exact h4
  have f1 : U.vm.findClass (FieldType.array t).toString = some comp := by rw [hvm.findClass]; exact h1
  have f2 : U.vm.findClass ("[" ++ (FieldType.array t).toString) = some c := by rw [hvm.findClass]; exact h5
  unfold va_AOA Cond.before Cond.holds
  simp only [Cond.value]
  rw [f1, Option.bind_some]
  refine (congrArg (fun o : Option Nat => (o.bind (fun c => (U.vm.classes[c]?).map fun (k : Class) => match k.kind with | .array _ ty => decide (ty = FieldType.array t) && decide (U.vm.findClass ("[" ++ (FieldType.array t).toString) = some c) | _ => false) == some true)) hi).trans ?_
  simp [hk', hkind, f2]
def NCL : List (String × String) := [("java/lang/IllegalStateException", "java/lang/IllegalArgumentException"), ("java/lang/IndexOutOfBoundsException", "java/lang/IllegalArgumentException"), ("java/lang/IllegalArgumentException", "java/lang/IllegalStateException"), ("java/lang/IndexOutOfBoundsException", "java/lang/IllegalStateException"), ("java/lang/IllegalArgumentException", "java/lang/IndexOutOfBoundsException"), ("java/lang/IllegalStateException", "java/lang/IndexOutOfBoundsException")]
def NCS (U : State) : Prop := ∀ q ∈ NCL, va_Nc q.1 q.2 U
theorem NCS.moved {u U : State} (hal : u.vm.Alike U.vm) (h : NCS u) : NCS U := fun q hq => (h q hq).moved hal
/-- the law's links to private members: methods, fields -/
def NML : List (String × Nat × MethodName × String) := [("EbbTableLaw$World", 40, yL_cell, "EbbTableLaw"), ("EbbTableLaw$World", 46, yL_below, "EbbTableLaw")]
def NFL : List (String × Nat × String × String × String × String) := [("EbbTableLaw", 62, "EbbTableLaw$World", "dimensions", "I", "EbbTableLaw"), ("EbbTableLaw", 66, "EbbTableLaw$World", "deepest", "[I", "EbbTableLaw")]
def NMS (U : State) : Prop := (∀ q ∈ NML, va_Nw (.methodLinkNest q.1 q.2.1 q.2.2.1 q.2.2.2) U) ∧ ∀ q ∈ NFL, va_Nw (.fieldLinkNest q.1 q.2.1 q.2.2.1 q.2.2.2.1 q.2.2.2.2.1 q.2.2.2.2.2) U
theorem NMS.warm {s U : State} (hW : s.WarmedH U.vm) (h : NMS s) : NMS U := ⟨fun q hq => va_Nw.warmM hW (h.1 q hq), fun q hq => va_Nw.warmF hW (h.2 q hq)⟩
theorem NMS.same {u U : State} (hv : U.vm = u.vm) (h : NMS u) : NMS U := ⟨fun q hq => va_Nw.same rfl hv.symm (h.1 q hq), fun q hq => va_Nw.same rfl hv.symm (h.2 q hq)⟩
/-- the links to private constructors -/
def NNL : List (String × Nat × MethodName × String) := [("EbbTable", 17, yX1_init, "EbbTable"), ("EbbTable", 24, yX5_init, "EbbTable"), ("EbbTable", 31, yX0_init, "EbbTable"), ("EbbTable$Axis", 11, yX3_init, "EbbTable"), ("EbbTable", 41, yX3_init, "EbbTable"), ("EbbTable", 48, yX2_init, "EbbTable"), ("EbbTable$Lineup", 11, yX3_init, "EbbTable"), ("EbbTable", 58, yX4_init, "EbbTable")]
def NNS (U : State) : Prop := ∀ q ∈ NNL, va_Nw (.methodLinkNest q.1 q.2.1 q.2.2.1 q.2.2.2) U
theorem NNS.warm {s U : State} (hW : s.WarmedH U.vm) (h : NNS s) : NNS U := fun q hq => va_Nw.warmM hW (h q hq)
theorem NNS.same {u U : State} (hv : U.vm = u.vm) (h : NNS u) : NNS U := fun q hq => va_Nw.same rfl hv.symm (h q hq)
abbrev yColl : MethodName := ⟨"java/util/Collection", "toArray", "()[Ljava/lang/Object;"⟩
def STF (ad : Nat → Int → Nat) (U : State) : Prop := va_Mi obA (ad 42 2) U ∧ va_AO "java/lang/Object" U ∧ va_AOA .int U ∧ va_AOA .boolean U ∧ va_Fw alC yColl yJx4a65c_toArray_d5877 U ∧ NCS U ∧ NMS U ∧ va_AO "EbbTable$Tree" U ∧ NNS U
theorem STF.warm {ad : Nat → Int → Nat} {s U : State} (hW : s.WarmedH U.vm) (h : STF ad s) : STF ad U := by
  obtain ⟨h1, h2, h3, h4, h5, h6, h7, h8, h9⟩ := h
  have hal := hW.alike
  exact ⟨h1.moved hal, h2.moved hal, h3.moved hal, h4.moved hal, h5.moved ⟨by decide +kernel, by decide +kernel⟩ hal, h6.moved hal, h7.warm hW, h8.moved hal, h9.warm hW⟩
theorem STF.same {ad : Nat → Int → Nat} {u U : State} (hv : U.vm = u.vm) (h : STF ad u) : STF ad U := by
  obtain ⟨h1, h2, h3, h4, h5, h6, h7, h8, h9⟩ := h
  have hal : u.vm.Alike U.vm := by rw [hv]; exact Vm.Alike.refl _
  exact ⟨h1.moved hal, h2.moved hal, h3.moved hal, h4.moved hal, h5.moved ⟨by decide +kernel, by decide +kernel⟩ hal, h6.moved hal, h7.same hv, h8.moved hal, h9.same hv⟩
theorem SCR.moved {ad : Nat → Int → Nat} {A : Nat → Prop} {u U : State} {H : Heap} (hvm : u.vm.Alike U.vm) (h : SCR ad A u H) : SCR ad A U H := ⟨h.1.moved hvm, h.2⟩
theorem SCR.kept {ad : Nat → Int → Nat} {A : Nat → Prop} {U : State} {H H1 : Heap} (h : SCR ad A U H) (hq : ∀ a : Nat, a < H.size → ¬ A a → H1[a]? = H[a]?) : SCR ad A U H1 := by
  have e := hq _ h.2.1 h.2.2
  refine ⟨h.1.kept e, ?_, h.2.2⟩
  obtain ⟨scr, hs, -⟩ := h.1
  rw [← e] at hs
  exact (Array.getElem?_eq_some_iff.mp hs).1
theorem SCR.narrow {ad : Nat → Int → Nat} {A B : Nat → Prop} {U : State} {H : Heap} (h : SCR ad A U H) (hAB : ∀ q, B q → A q) : SCR ad B U H := ⟨h.1, h.2.1, fun z => h.2.2 (hAB _ z)⟩
theorem ICH.moved {ad : Nat → Int → Nat} {A : Nat → Prop} {u U : State} {H : Heap} (hvm : u.vm.Alike U.vm) (h : ICH ad A u H) : ICH ad A U H := ⟨h.1.moved hvm, h.2.1.moved hvm, h.2.2.1.moved hvm, h.2.2.2.moved hvm⟩
theorem ICH.kept {ad : Nat → Int → Nat} {A : Nat → Prop} {U : State} {H H1 : Heap} (h : ICH ad A U H) (hq : ∀ a : Nat, a < H.size → ¬ A a → H1[a]? = H[a]?) : ICH ad A U H1 := ⟨h.1.kept hq, h.2.1.kept hq, h.2.2.1.kept hq, h.2.2.2.kept hq⟩
theorem ICH.narrow {ad : Nat → Int → Nat} {A B : Nat → Prop} {U : State} {H : Heap} (h : ICH ad A U H) (hAB : ∀ q, B q → A q) : ICH ad B U H := ⟨h.1.narrow hAB, h.2.1.narrow hAB, h.2.2.1.narrow hAB, h.2.2.2.narrow hAB⟩
theorem ALE.moved {ad : Nat → Int → Nat} {A : Nat → Prop} {u U : State} {H : Heap} (hvm : u.vm.Alike U.vm) (h : ALE ad A u H) : ALE ad A U H := ⟨h.1.moved hvm, h.2.1.moved hvm, h.2.2.moved hvm⟩
theorem ALE.kept {ad : Nat → Int → Nat} {A : Nat → Prop} {U : State} {H H1 : Heap} (h : ALE ad A U H) (hq : ∀ a : Nat, a < H.size → ¬ A a → H1[a]? = H[a]?) : ALE ad A U H1 := ⟨h.1.kept hq, h.2.1.kept hq, h.2.2.kept hq⟩
theorem ALE.narrow {ad : Nat → Int → Nat} {A B : Nat → Prop} {U : State} {H : Heap} (h : ALE ad A U H) (hAB : ∀ q, B q → A q) : ALE ad B U H := ⟨h.1.narrow hAB, h.2.1.narrow hAB, h.2.2.narrow hAB⟩
def AMX (ad : Nat → Int → Nat) (A : Nat → Prop) (U : State) (H : Heap) : Prop := SCR ad A U H ∧ ICH ad A U H ∧ ALE ad A U H ∧ STF ad U
def AmbX (ad : Nat → Int → Nat) (A : Nat → Prop) (U : State) (H : Heap) : Prop := Amb A U H ∧ AMX ad A U H
noncomputable abbrev MW (cys : Nat → ClassId) (ad : Nat → Int → Nat) (L : List Nat) (g : Nat → va_E) (X : Int64) (Z : ZT) : va_W := va_pl L (ov cys ad g X Z)
section JJS
variable {p : Program} {l : Launch} {e : Env} {R : Room} {s : State} {m : MethodId} {args : Array Value} {below : List Frame} {meth : Method} {c : Code} {Q : State → Prop}
variable {D : va_G} {cys : Nat → ClassId} {ad : Nat → Int → Nat} {A : Nat → Prop} {cc : ByteArray} {own : String} {nL : Nat} {cells slots : Nat} {L : List Nat} {g : Nat → va_E} {X : Int64} {Z : ZT} {pc : Nat} {vs : List (Nat × Value)} {st : List Value}
def JJ (p : Program) (l : Launch) (e : Env) (R : Room) (s : State) (m : MethodId) (args : Array Value) (below : List Frame) (meth : Method) (c : Code) (D : va_G) (cys : Nat → ClassId) (ad : Nat → Int → Nat) (A : Nat → Prop) (Q : State → Prop) (nL : Nat) (cells slots : Nat) (L : List Nat) (g : Nat → va_E) (X : Int64) (Z : ZT) (pc : Nat) (vs : List (Nat × Value)) (st : List Value) : Prop :=
  ∀ (H : Heap) (locs : List Loc) (ls : Array Slot), SL ad L → va_P D vwCl (MW cys ad L g X Z) H → va_D A (MW cys ad L g X Z) → va_S A s.heap H locs → lv_has ls nL vs → W p l e R s m args below meth c H locs cells slots Q (F0 m pc ls st)
/-- what does not change in a method's run -/
def GG (p : Program) (l : Launch) (s : State) (m : MethodId) (args : Array Value) (meth : Method) (c : Code) (D : va_G) (cys : Nat → ClassId) (ad : Nat → Int → Nat) (A : Nat → Prop) (cc : ByteArray) (own : String) (nL : Nat) : Prop :=
  p.tables.exec = Jvm.exec ∧ c.code = cc ∧ c.maxLocals = nL ∧ s.vm.findClass own = some m.cls ∧ (∀ w ∈ TW, w.before args s = true) ∧ va_K D vwCl (tysC cys) s ∧ meth.locks = false ∧ (∀ q, s.heap.size ≤ q → A q) ∧ injA ad ∧ AmbX ad A s s.heap
theorem GG.x (h : GG p l s m args meth c D cys ad A cc own nL) : p.tables.exec = Jvm.exec := h.1
theorem GG.b (h : GG p l s m args meth c D cys ad A cc own nL) : c.code = cc := h.2.1
theorem GG.ml (h : GG p l s m args meth c D cys ad A cc own nL) : c.maxLocals = nL := h.2.2.1
theorem GG.ow (h : GG p l s m args meth c D cys ad A cc own nL) : s.vm.findClass own = some m.cls := h.2.2.2.1
theorem GG.ts (h : GG p l s m args meth c D cys ad A cc own nL) : ∀ w ∈ TW, w.before args s = true := h.2.2.2.2.1
theorem GG.K (h : GG p l s m args meth c D cys ad A cc own nL) : va_K D vwCl (tysC cys) s := h.2.2.2.2.2.1
theorem GG.lk (h : GG p l s m args meth c D cys ad A cc own nL) : meth.locks = false := h.2.2.2.2.2.2.1
theorem GG.fr (h : GG p l s m args meth c D cys ad A cc own nL) : ∀ q, s.heap.size ≤ q → A q := h.2.2.2.2.2.2.2.1
theorem GG.inj (h : GG p l s m args meth c D cys ad A cc own nL) : injA ad := h.2.2.2.2.2.2.2.2.1
theorem GG.ambx (h : GG p l s m args meth c D cys ad A cc own nL) : AmbX ad A s s.heap := h.2.2.2.2.2.2.2.2.2
theorem GG.amb (h : GG p l s m args meth c D cys ad A cc own nL) : Amb A s s.heap := h.ambx.1
theorem GG.amx (h : GG p l s m args meth c D cys ad A cc own nL) : AMX ad A s s.heap := h.ambx.2
/-- a place of the world, found -/
theorem mw_get (hi : injA ad) (hL : SL ad L) {k : Nat} {i : Int} (h : vd k i) {x : va_E} (hx : cC cys ad k i X (Z k i) = x) : ∃ q : Nat, (MW cys ad L g X Z)[q]? = some (ad k i, x) := by
  obtain ⟨q, hq⟩ := va_pl_get (X := []) (f := ov cys ad g X Z) (hL k i h)
  refine ⟨q, ?_⟩
  rw [ov_at hi h, hx] at hq
  exact hq
theorem mw_set (hi : injA ad) (hL : SL ad L) {k : Nat} {i : Int} (h : vd k i) {x : va_E} (hx : cC cys ad k i X (Z k i) = x) {q : Nat} (hq : (MW cys ad L g X Z)[q]? = some (ad k i, x)) (hD : va_D A (MW cys ad L g X Z)) (z : Int → Int) : (MW cys ad L g X Z).set q (ad k i, cC cys ad k i X z) = MW cys ad L g X (zR Z k i z) := by
  have h1 : ([] ++ va_pl L (ov cys ad g X Z))[q]? = some (ad k i, ov cys ad g X Z (ad k i)) := by
    rw [ov_at hi h, hx]; exact hq
  have h2 := va_pl_set (X := []) (e := cC cys ad k i X z) hD (hL k i h) h1
  rw [ov_set hi h] at h2
  exact h2
/-! locals by their numbers -/
def lkp : List (Nat × Value) → Nat → Option Value
  | [], _ => none
  | (j, v) :: r, i => if j = i then some v else lkp r i
theorem lkp_mem {vs : List (Nat × Value)} {i : Nat} {v : Value} (h : lkp vs i = some v) : (i, v) ∈ vs := by
  induction vs with
  | nil => cases h
  | cons q r ih =>
    obtain ⟨j, w⟩ := q
    simp only [lkp] at h
    split at h
    · rename_i e
      cases h; subst e
      exact List.mem_cons_self
    · exact List.mem_cons_of_mem _ (ih h)
theorem lv_lk {ls : Array Slot} {vs : List (Nat × Value)} (h : lv_has ls nL vs) {i : Nat} {v : Value} (hv : lkp vs i = some v) : ls[i]? = some (.val v) := h.2.2 (i, v) (lkp_mem hv)
/-- a store: in its place, or at the end -/
def sto (vs : List (Nat × Value)) (i : Nat) (v : Value) : List (Nat × Value) := if vs.any (fun q => q.1 == i) then vs.map (fun q => if q.1 == i then (i, v) else q) else vs ++ [(i, v)]
def no2 (vs : List (Nat × Value)) (i : Nat) : Bool := vs.all (fun q => !(q.1 + 1 == i && q.2.category == 2))
theorem sto_has {ls : Array Slot} {vs : List (Nat × Value)} {i : Nat} {v : Value} (h : lv_has ls nL ((i, v) :: vs.filter (fun q => !(q.1 == i) && !(q.1 + 1 == i && q.2.category == 2)))) (h2 : no2 vs i = true) : lv_has ls nL (sto vs i v) := by
  refine ⟨h.1, h.2.1, fun q hq => h.2.2 q ?_⟩
  have key : ∀ q ∈ vs, ¬ (q.1 == i) = true → q ∈ (i, v) :: vs.filter (fun q => !(q.1 == i) && !(q.1 + 1 == i && q.2.category == 2)) := by
    intro q hm hne
    refine List.mem_cons_of_mem _ (List.mem_filter.mpr ⟨hm, ?_⟩)
    have := List.all_eq_true.mp h2 q hm
    rw [Bool.and_eq_true]
    exact ⟨by simpa using hne, this⟩
  unfold sto at hq
  split at hq
  · obtain ⟨q0, h0, rfl⟩ := List.mem_map.mp hq
    by_cases e : (q0.1 == i) = true
    · rw [if_pos e]; exact List.mem_cons_self
    · rw [if_neg e]; exact key q0 h0 e
  · rename_i hn
    rcases List.mem_append.mp hq with h0 | h0
    · refine key q h0 (fun e => hn (List.any_eq_true.mpr ⟨q, h0, e⟩))
    · rw [List.mem_singleton.mp h0]; exact List.mem_cons_self
theorem j_iload_n (G : GG p l s m args meth c D cys ad A cc own nL) {k : Fin 4} {x : Int32} (hd : decode cc pc = .ok (.iload_n k, 1)) (hk : lkp vs k = some (.int x)) (kk : JJ p l e R s m args below meth c D cys ad A Q nL cells slots L g X Z (pc + 1) vs (.int x :: st)) : JJ p l e R s m args below meth c D cys ad A Q nL cells slots L g X Z pc vs st :=
  fun H locs ls hL hP hD hS hl => lv_iload_n G.x G.b hd rfl (lv_lk hl hk) (kk H locs ls hL hP hD hS hl)
theorem j_iload (G : GG p l s m args meth c D cys ad A cc own nL) {k : Nat} {x : Int32} (hd : decode cc pc = .ok (.iload k, 2)) (hk : lkp vs k = some (.int x)) (kk : JJ p l e R s m args below meth c D cys ad A Q nL cells slots L g X Z (pc + 2) vs (.int x :: st)) : JJ p l e R s m args below meth c D cys ad A Q nL cells slots L g X Z pc vs st :=
  fun H locs ls hL hP hD hS hl => lv_iload G.x G.b hd (lv_lk hl hk) (kk H locs ls hL hP hD hS hl)
theorem j_lload_n (G : GG p l s m args meth c D cys ad A cc own nL) {k : Fin 4} {x : Int64} (hd : decode cc pc = .ok (.lload_n k, 1)) (hk : lkp vs k = some (.long x)) (kk : JJ p l e R s m args below meth c D cys ad A Q nL cells slots L g X Z (pc + 1) vs (.long x :: st)) : JJ p l e R s m args below meth c D cys ad A Q nL cells slots L g X Z pc vs st :=
  fun H locs ls hL hP hD hS hl => lv_lload_n G.x G.b hd rfl (lv_lk hl hk) (kk H locs ls hL hP hD hS hl)
theorem j_lload (G : GG p l s m args meth c D cys ad A cc own nL) {k : Nat} {x : Int64} (hd : decode cc pc = .ok (.lload k, 2)) (hk : lkp vs k = some (.long x)) (kk : JJ p l e R s m args below meth c D cys ad A Q nL cells slots L g X Z (pc + 2) vs (.long x :: st)) : JJ p l e R s m args below meth c D cys ad A Q nL cells slots L g X Z pc vs st :=
  fun H locs ls hL hP hD hS hl => lv_lload G.x G.b hd (lv_lk hl hk) (kk H locs ls hL hP hD hS hl)
theorem j_aload_n (G : GG p l s m args meth c D cys ad A cc own nL) {k : Fin 4} {x : Nat} (hd : decode cc pc = .ok (.aload_n k, 1)) (hk : lkp vs k = some (.ref x)) (kk : JJ p l e R s m args below meth c D cys ad A Q nL cells slots L g X Z (pc + 1) vs (.ref x :: st)) : JJ p l e R s m args below meth c D cys ad A Q nL cells slots L g X Z pc vs st :=
  fun H locs ls hL hP hD hS hl => lv_aload_n G.x G.b hd rfl (lv_lk hl hk) (kk H locs ls hL hP hD hS hl)
theorem j_aload (G : GG p l s m args meth c D cys ad A cc own nL) {k : Nat} {x : Nat} (hd : decode cc pc = .ok (.aload k, 2)) (hk : lkp vs k = some (.ref x)) (kk : JJ p l e R s m args below meth c D cys ad A Q nL cells slots L g X Z (pc + 2) vs (.ref x :: st)) : JJ p l e R s m args below meth c D cys ad A Q nL cells slots L g X Z pc vs st :=
  fun H locs ls hL hP hD hS hl => lv_aload G.x G.b hd (lv_lk hl hk) (kk H locs ls hL hP hD hS hl)
theorem j_istore_n (G : GG p l s m args meth c D cys ad A cc own nL) {k : Fin 4} {x : Int32} (hd : decode cc pc = .ok (.istore_n k, 1)) (hn : (k : Nat) < nL) (h2 : no2 vs k = true) (kk : JJ p l e R s m args below meth c D cys ad A Q nL cells slots L g X Z (pc + 1) (sto vs k (.int x)) st) : JJ p l e R s m args below meth c D cys ad A Q nL cells slots L g X Z pc vs (.int x :: st) :=
  fun H locs ls hL hP hD hS hl => lv_istore_n G.x G.b hd rfl hl hn rfl (fun ls' hl' => kk H locs ls' hL hP hD hS (sto_has hl' h2))
theorem j_istore (G : GG p l s m args meth c D cys ad A cc own nL) {k : Nat} {x : Int32} (hd : decode cc pc = .ok (.istore k, 2)) (hn : k < nL) (h2 : no2 vs k = true) (kk : JJ p l e R s m args below meth c D cys ad A Q nL cells slots L g X Z (pc + 2) (sto vs k (.int x)) st) : JJ p l e R s m args below meth c D cys ad A Q nL cells slots L g X Z pc vs (.int x :: st) :=
  fun H locs ls hL hP hD hS hl => lv_istore G.x G.b hd hl hn rfl (fun ls' hl' => kk H locs ls' hL hP hD hS (sto_has hl' h2))
theorem j_astore_n (G : GG p l s m args meth c D cys ad A cc own nL) {k : Fin 4} {x : Nat} (hd : decode cc pc = .ok (.astore_n k, 1)) (hn : (k : Nat) < nL) (h2 : no2 vs k = true) (kk : JJ p l e R s m args below meth c D cys ad A Q nL cells slots L g X Z (pc + 1) (sto vs k (.ref x)) st) : JJ p l e R s m args below meth c D cys ad A Q nL cells slots L g X Z pc vs (.ref x :: st) :=
  fun H locs ls hL hP hD hS hl => lv_astore_n G.x G.b hd rfl hl hn rfl (fun ls' hl' => kk H locs ls' hL hP hD hS (sto_has hl' h2))
theorem j_astore (G : GG p l s m args meth c D cys ad A cc own nL) {k : Nat} {x : Nat} (hd : decode cc pc = .ok (.astore k, 2)) (hn : k < nL) (h2 : no2 vs k = true) (kk : JJ p l e R s m args below meth c D cys ad A Q nL cells slots L g X Z (pc + 2) (sto vs k (.ref x)) st) : JJ p l e R s m args below meth c D cys ad A Q nL cells slots L g X Z pc vs (.ref x :: st) :=
  fun H locs ls hL hP hD hS hl => lv_astore G.x G.b hd hl hn rfl (fun ls' hl' => kk H locs ls' hL hP hD hS (sto_has hl' h2))
theorem j_iconst (G : GG p l s m args meth c D cys ad A cc own nL) {n : Int} (hd : decode cc pc = .ok (.iconst n, 1)) (kk : JJ p l e R s m args below meth c D cys ad A Q nL cells slots L g X Z (pc + 1) vs (.int (iI n) :: st)) : JJ p l e R s m args below meth c D cys ad A Q nL cells slots L g X Z pc vs st :=
  fun H locs ls hL hP hD hS hl => lv_iconst G.x G.b hd rfl (kk H locs ls hL hP hD hS hl)
theorem j_bipush (G : GG p l s m args meth c D cys ad A cc own nL) {n : Int} (hd : decode cc pc = .ok (.bipush n, 2)) (hv : (Int8.ofInt n).toInt32 = iI n) (kk : JJ p l e R s m args below meth c D cys ad A Q nL cells slots L g X Z (pc + 2) vs (.int (iI n) :: st)) : JJ p l e R s m args below meth c D cys ad A Q nL cells slots L g X Z pc vs st :=
  fun H locs ls hL hP hD hS hl => lv_bipush G.x G.b hd hv (kk H locs ls hL hP hD hS hl)
theorem j_sipush (G : GG p l s m args meth c D cys ad A cc own nL) {n : Int} (hd : decode cc pc = .ok (.sipush n, 3)) (hv : (Int16.ofInt n).toInt32 = iI n) (kk : JJ p l e R s m args below meth c D cys ad A Q nL cells slots L g X Z (pc + 3) vs (.int (iI n) :: st)) : JJ p l e R s m args below meth c D cys ad A Q nL cells slots L g X Z pc vs st :=
  fun H locs ls hL hP hD hS hl => lv_sipush G.x G.b hd hv (kk H locs ls hL hP hD hS hl)
theorem j_lconst (G : GG p l s m args meth c D cys ad A cc own nL) {n : Fin 2} {v : Int64} (hd : decode cc pc = .ok (.lconst n, 1)) (hv : Int64.ofNat n.val = v) (kk : JJ p l e R s m args below meth c D cys ad A Q nL cells slots L g X Z (pc + 1) vs (.long v :: st)) : JJ p l e R s m args below meth c D cys ad A Q nL cells slots L g X Z pc vs st :=
  fun H locs ls hL hP hD hS hl => lv_lconst G.x G.b hd (by first | exact hv | simpa using hv) (kk H locs ls hL hP hD hS hl)
theorem j_iadd (G : GG p l s m args meth c D cys ad A cc own nL) {a b : Int} (hd : decode cc pc = .ok (.iadd, 1)) (kk : JJ p l e R s m args below meth c D cys ad A Q nL cells slots L g X Z (pc + 1) vs (.int (iI (a + b)) :: st)) : JJ p l e R s m args below meth c D cys ad A Q nL cells slots L g X Z pc vs (.int (iI b) :: .int (iI a) :: st) :=
  fun H locs ls hL hP hD hS hl => lv_iadd G.x G.b hd (by rw [iI_add]; exact kk H locs ls hL hP hD hS hl)
theorem j_isub (G : GG p l s m args meth c D cys ad A cc own nL) {a b : Int} (hd : decode cc pc = .ok (.isub, 1)) (kk : JJ p l e R s m args below meth c D cys ad A Q nL cells slots L g X Z (pc + 1) vs (.int (iI (a - b)) :: st)) : JJ p l e R s m args below meth c D cys ad A Q nL cells slots L g X Z pc vs (.int (iI b) :: .int (iI a) :: st) :=
  fun H locs ls hL hP hD hS hl => lv_isub G.x G.b hd (by rw [iI_sub]; exact kk H locs ls hL hP hD hS hl)
theorem j_imul (G : GG p l s m args meth c D cys ad A cc own nL) {a b : Int} (hd : decode cc pc = .ok (.imul, 1)) (kk : JJ p l e R s m args below meth c D cys ad A Q nL cells slots L g X Z (pc + 1) vs (.int (iI (a * b)) :: st)) : JJ p l e R s m args below meth c D cys ad A Q nL cells slots L g X Z pc vs (.int (iI b) :: .int (iI a) :: st) :=
  fun H locs ls hL hP hD hS hl => lv_imul G.x G.b hd (by rw [iI_mul]; exact kk H locs ls hL hP hD hS hl)
theorem j_idiv (G : GG p l s m args meth c D cys ad A cc own nL) {x y z : Int32} (hd : decode cc pc = .ok (.idiv, 1)) (hne : ¬ y = 0) (hz : x / y = z) (kk : JJ p l e R s m args below meth c D cys ad A Q nL cells slots L g X Z (pc + 1) vs (.int z :: st)) : JJ p l e R s m args below meth c D cys ad A Q nL cells slots L g X Z pc vs (.int y :: .int x :: st) :=
  fun H locs ls hL hP hD hS hl => lv_idiv G.x G.b hd hne (by rw [hz]; exact kk H locs ls hL hP hD hS hl)
theorem j_iand (G : GG p l s m args meth c D cys ad A cc own nL) {x y z : Int32} (hd : decode cc pc = .ok (.iand, 1)) (hz : x &&& y = z) (kk : JJ p l e R s m args below meth c D cys ad A Q nL cells slots L g X Z (pc + 1) vs (.int z :: st)) : JJ p l e R s m args below meth c D cys ad A Q nL cells slots L g X Z pc vs (.int y :: .int x :: st) :=
  fun H locs ls hL hP hD hS hl => lv_iand G.x G.b hd (by rw [hz]; exact kk H locs ls hL hP hD hS hl)
theorem j_ior (G : GG p l s m args meth c D cys ad A cc own nL) {x y z : Int32} (hd : decode cc pc = .ok (.ior, 1)) (hz : x ||| y = z) (kk : JJ p l e R s m args below meth c D cys ad A Q nL cells slots L g X Z (pc + 1) vs (.int z :: st)) : JJ p l e R s m args below meth c D cys ad A Q nL cells slots L g X Z pc vs (.int y :: .int x :: st) :=
  fun H locs ls hL hP hD hS hl => lv_ior G.x G.b hd (by rw [hz]; exact kk H locs ls hL hP hD hS hl)
theorem j_ishl (G : GG p l s m args meth c D cys ad A cc own nL) {x y z : Int32} (hd : decode cc pc = .ok (.ishl, 1)) (hz : x <<< (y &&& 31) = z) (kk : JJ p l e R s m args below meth c D cys ad A Q nL cells slots L g X Z (pc + 1) vs (.int z :: st)) : JJ p l e R s m args below meth c D cys ad A Q nL cells slots L g X Z pc vs (.int y :: .int x :: st) :=
  fun H locs ls hL hP hD hS hl => lv_ishl G.x G.b hd (by rw [hz]; exact kk H locs ls hL hP hD hS hl)
theorem j_ishr (G : GG p l s m args meth c D cys ad A cc own nL) {x y z : Int32} (hd : decode cc pc = .ok (.ishr, 1)) (hz : x >>> (y &&& 31) = z) (kk : JJ p l e R s m args below meth c D cys ad A Q nL cells slots L g X Z (pc + 1) vs (.int z :: st)) : JJ p l e R s m args below meth c D cys ad A Q nL cells slots L g X Z pc vs (.int y :: .int x :: st) :=
  fun H locs ls hL hP hD hS hl => lv_ishr G.x G.b hd (by rw [hz]; exact kk H locs ls hL hP hD hS hl)
theorem j_ladd (G : GG p l s m args meth c D cys ad A cc own nL) {x y : Int64} (hd : decode cc pc = .ok (.ladd, 1)) (kk : JJ p l e R s m args below meth c D cys ad A Q nL cells slots L g X Z (pc + 1) vs (.long (x + y) :: st)) : JJ p l e R s m args below meth c D cys ad A Q nL cells slots L g X Z pc vs (.long y :: .long x :: st) :=
  fun H locs ls hL hP hD hS hl => lv_ladd G.x G.b hd (kk H locs ls hL hP hD hS hl)
theorem j_lmul (G : GG p l s m args meth c D cys ad A cc own nL) {x y : Int64} (hd : decode cc pc = .ok (.lmul, 1)) (kk : JJ p l e R s m args below meth c D cys ad A Q nL cells slots L g X Z (pc + 1) vs (.long (x * y) :: st)) : JJ p l e R s m args below meth c D cys ad A Q nL cells slots L g X Z pc vs (.long y :: .long x :: st) :=
  fun H locs ls hL hP hD hS hl => lv_lmul G.x G.b hd (kk H locs ls hL hP hD hS hl)
theorem j_i2l (G : GG p l s m args meth c D cys ad A cc own nL) {x : Int32} (hd : decode cc pc = .ok (.i2l, 1)) (kk : JJ p l e R s m args below meth c D cys ad A Q nL cells slots L g X Z (pc + 1) vs (.long x.toInt64 :: st)) : JJ p l e R s m args below meth c D cys ad A Q nL cells slots L g X Z pc vs (.int x :: st) :=
  fun H locs ls hL hP hD hS hl => lv_i2l G.x G.b hd rfl (kk H locs ls hL hP hD hS hl)
theorem j_dup (G : GG p l s m args meth c D cys ad A cc own nL) {v : Value} (hd : decode cc pc = .ok (.dup, 1)) (hv : v.category = 1) (kk : JJ p l e R s m args below meth c D cys ad A Q nL cells slots L g X Z (pc + 1) vs (v :: v :: st)) : JJ p l e R s m args below meth c D cys ad A Q nL cells slots L g X Z pc vs (v :: st) :=
  fun H locs ls hL hP hD hS hl => lv_dup G.x G.b hd hv (kk H locs ls hL hP hD hS hl)
theorem j_dup2 (G : GG p l s m args meth c D cys ad A cc own nL) {v w : Value} (hd : decode cc pc = .ok (.dup2, 1)) (hv : v.category = 1) (hw : w.category = 1) (kk : JJ p l e R s m args below meth c D cys ad A Q nL cells slots L g X Z (pc + 1) vs (v :: w :: v :: w :: st)) : JJ p l e R s m args below meth c D cys ad A Q nL cells slots L g X Z pc vs (v :: w :: st) :=
  fun H locs ls hL hP hD hS hl => lv_dup2_11 G.x G.b hd hv hw (kk H locs ls hL hP hD hS hl)
theorem j_pop (G : GG p l s m args meth c D cys ad A cc own nL) {v : Value} (hd : decode cc pc = .ok (.pop, 1)) (hv : v.category = 1) (kk : JJ p l e R s m args below meth c D cys ad A Q nL cells slots L g X Z (pc + 1) vs st) : JJ p l e R s m args below meth c D cys ad A Q nL cells slots L g X Z pc vs (v :: st) :=
  fun H locs ls hL hP hD hS hl => lv_pop G.x G.b hd hv (kk H locs ls hL hP hD hS hl)
theorem j_goto (G : GG p l s m args meth c D cys ad A cc own nL) {off : Int} (tgt : Nat) (hd : decode cc pc = .ok (.goto off, 3)) (ht : (pc : Int) + off = (tgt : Int)) (kk : JJ p l e R s m args below meth c D cys ad A Q nL cells slots L g X Z tgt vs st) : JJ p l e R s m args below meth c D cys ad A Q nL cells slots L g X Z pc vs st :=
  fun H locs ls hL hP hD hS hl => lv_goto G.x G.b hd ht (kk H locs ls hL hP hD hS hl)
theorem j_iinc (G : GG p l s m args meth c D cys ad A cc own nL) {k : Nat} {n a : Int} (hd : decode cc pc = .ok (.iinc k n, 3)) (hk : lkp vs k = some (.int (iI a))) (hn : k < nL) (h2 : no2 vs k = true) (kk : JJ p l e R s m args below meth c D cys ad A Q nL cells slots L g X Z (pc + 3) (sto vs k (.int (iI (a + n)))) st) : JJ p l e R s m args below meth c D cys ad A Q nL cells slots L g X Z pc vs st := by
  intro H locs ls hL hP hD hS hl
  obtain ⟨q, hq⟩ := List.getElem?_of_mem (lkp_mem hk)
  refine lv_iinc (v := iI (a + n)) G.x G.b hd hl (k := q) hq (by rw [← iI_add]; rfl) hn rfl (fun ls' hl' => ?_)
  exact kk H locs ls' hL hP hD hS (sto_has hl' h2)
theorem j_icmp_eq (G : GG p l s m args meth c D cys ad A cc own nL) {a b off : Int} (tgt : Nat) (hd : decode cc pc = .ok (.if_icmp .eq off, 3)) (ht : (pc : Int) + off = (tgt : Int)) (ha : inR a) (hb : inR b) (kt : a = b → JJ p l e R s m args below meth c D cys ad A Q nL cells slots L g X Z tgt vs st) (kf : a ≠ b → JJ p l e R s m args below meth c D cys ad A Q nL cells slots L g X Z (pc + 3) vs st) : JJ p l e R s m args below meth c D cys ad A Q nL cells slots L g X Z pc vs (.int (iI b) :: .int (iI a) :: st) :=
  fun H locs ls hL hP hD hS hl => lv_icmp_eq G.x G.b hd ht (fun h => kt ((iI_eq ha hb).mp h) H locs ls hL hP hD hS hl) (fun h => kf (fun z => h ((iI_eq ha hb).mpr z)) H locs ls hL hP hD hS hl)
theorem j_if_eq (G : GG p l s m args meth c D cys ad A cc own nL) {a off : Int} (tgt : Nat) (hd : decode cc pc = .ok (.ifCond .eq off, 3)) (ht : (pc : Int) + off = (tgt : Int)) (ha : inR a) (kt : a = 0 → JJ p l e R s m args below meth c D cys ad A Q nL cells slots L g X Z tgt vs st) (kf : a ≠ 0 → JJ p l e R s m args below meth c D cys ad A Q nL cells slots L g X Z (pc + 3) vs st) : JJ p l e R s m args below meth c D cys ad A Q nL cells slots L g X Z pc vs (.int (iI a) :: st) := by
  have h00 : inR 0 := ⟨by decide, by decide⟩
  intro H locs ls hL hP hD hS hl
  refine lv_if_eq G.x G.b hd ht (fun h => ?_) (fun h => ?_)
  · rw [← iI_0] at h
    exact kt ((iI_eq ha h00).mp h) H locs ls hL hP hD hS hl
  · rw [← iI_0] at h
    exact kf (fun z => h ((iI_eq ha h00).mpr z)) H locs ls hL hP hD hS hl
theorem j_icmp_ne (G : GG p l s m args meth c D cys ad A cc own nL) {a b off : Int} (tgt : Nat) (hd : decode cc pc = .ok (.if_icmp .ne off, 3)) (ht : (pc : Int) + off = (tgt : Int)) (ha : inR a) (hb : inR b) (kt : a ≠ b → JJ p l e R s m args below meth c D cys ad A Q nL cells slots L g X Z tgt vs st) (kf : a = b → JJ p l e R s m args below meth c D cys ad A Q nL cells slots L g X Z (pc + 3) vs st) : JJ p l e R s m args below meth c D cys ad A Q nL cells slots L g X Z pc vs (.int (iI b) :: .int (iI a) :: st) :=
  fun H locs ls hL hP hD hS hl => lv_icmp_ne G.x G.b hd ht (fun h => kt (fun z => h ((iI_eq ha hb).mpr z)) H locs ls hL hP hD hS hl) (fun h => kf ((iI_eq ha hb).mp h) H locs ls hL hP hD hS hl)
theorem j_if_ne (G : GG p l s m args meth c D cys ad A cc own nL) {a off : Int} (tgt : Nat) (hd : decode cc pc = .ok (.ifCond .ne off, 3)) (ht : (pc : Int) + off = (tgt : Int)) (ha : inR a) (kt : a ≠ 0 → JJ p l e R s m args below meth c D cys ad A Q nL cells slots L g X Z tgt vs st) (kf : a = 0 → JJ p l e R s m args below meth c D cys ad A Q nL cells slots L g X Z (pc + 3) vs st) : JJ p l e R s m args below meth c D cys ad A Q nL cells slots L g X Z pc vs (.int (iI a) :: st) := by
  have h00 : inR 0 := ⟨by decide, by decide⟩
  intro H locs ls hL hP hD hS hl
  refine lv_if_ne G.x G.b hd ht (fun h => ?_) (fun h => ?_)
  · rw [← iI_0] at h
    exact kt (fun z => h ((iI_eq ha h00).mpr z)) H locs ls hL hP hD hS hl
  · rw [← iI_0] at h
    exact kf ((iI_eq ha h00).mp h) H locs ls hL hP hD hS hl
theorem j_icmp_lt (G : GG p l s m args meth c D cys ad A cc own nL) {a b off : Int} (tgt : Nat) (hd : decode cc pc = .ok (.if_icmp .lt off, 3)) (ht : (pc : Int) + off = (tgt : Int)) (ha : inR a) (hb : inR b) (kt : a < b → JJ p l e R s m args below meth c D cys ad A Q nL cells slots L g X Z tgt vs st) (kf : b ≤ a → JJ p l e R s m args below meth c D cys ad A Q nL cells slots L g X Z (pc + 3) vs st) : JJ p l e R s m args below meth c D cys ad A Q nL cells slots L g X Z pc vs (.int (iI b) :: .int (iI a) :: st) :=
  fun H locs ls hL hP hD hS hl => lv_icmp_lt G.x G.b hd ht (fun h => kt ((iI_lt ha hb).mp h) H locs ls hL hP hD hS hl) (fun h => kf (by have := mt (iI_lt ha hb).mpr h; omega) H locs ls hL hP hD hS hl)
theorem j_if_lt (G : GG p l s m args meth c D cys ad A cc own nL) {a off : Int} (tgt : Nat) (hd : decode cc pc = .ok (.ifCond .lt off, 3)) (ht : (pc : Int) + off = (tgt : Int)) (ha : inR a) (kt : a < 0 → JJ p l e R s m args below meth c D cys ad A Q nL cells slots L g X Z tgt vs st) (kf : 0 ≤ a → JJ p l e R s m args below meth c D cys ad A Q nL cells slots L g X Z (pc + 3) vs st) : JJ p l e R s m args below meth c D cys ad A Q nL cells slots L g X Z pc vs (.int (iI a) :: st) := by
  have h00 : inR 0 := ⟨by decide, by decide⟩
  intro H locs ls hL hP hD hS hl
  refine lv_if_lt G.x G.b hd ht (fun h => ?_) (fun h => ?_)
  · rw [← iI_0] at h
    exact kt ((iI_lt ha h00).mp h) H locs ls hL hP hD hS hl
  · rw [← iI_0] at h
    exact kf (by have := mt (iI_lt ha h00).mpr h; omega) H locs ls hL hP hD hS hl
theorem j_icmp_ge (G : GG p l s m args meth c D cys ad A cc own nL) {a b off : Int} (tgt : Nat) (hd : decode cc pc = .ok (.if_icmp .ge off, 3)) (ht : (pc : Int) + off = (tgt : Int)) (ha : inR a) (hb : inR b) (kt : b ≤ a → JJ p l e R s m args below meth c D cys ad A Q nL cells slots L g X Z tgt vs st) (kf : a < b → JJ p l e R s m args below meth c D cys ad A Q nL cells slots L g X Z (pc + 3) vs st) : JJ p l e R s m args below meth c D cys ad A Q nL cells slots L g X Z pc vs (.int (iI b) :: .int (iI a) :: st) :=
  fun H locs ls hL hP hD hS hl => lv_icmp_ge G.x G.b hd ht (fun h => kt ((iI_le hb ha).mp h) H locs ls hL hP hD hS hl) (fun h => kf (by have := mt (iI_le hb ha).mpr h; omega) H locs ls hL hP hD hS hl)
theorem j_if_ge (G : GG p l s m args meth c D cys ad A cc own nL) {a off : Int} (tgt : Nat) (hd : decode cc pc = .ok (.ifCond .ge off, 3)) (ht : (pc : Int) + off = (tgt : Int)) (ha : inR a) (kt : 0 ≤ a → JJ p l e R s m args below meth c D cys ad A Q nL cells slots L g X Z tgt vs st) (kf : a < 0 → JJ p l e R s m args below meth c D cys ad A Q nL cells slots L g X Z (pc + 3) vs st) : JJ p l e R s m args below meth c D cys ad A Q nL cells slots L g X Z pc vs (.int (iI a) :: st) := by
  have h00 : inR 0 := ⟨by decide, by decide⟩
  intro H locs ls hL hP hD hS hl
  refine lv_if_ge G.x G.b hd ht (fun h => ?_) (fun h => ?_)
  · rw [← iI_0] at h
    exact kt ((iI_le h00 ha).mp h) H locs ls hL hP hD hS hl
  · rw [← iI_0] at h
    exact kf (by have := mt (iI_le h00 ha).mpr h; omega) H locs ls hL hP hD hS hl
theorem j_icmp_gt (G : GG p l s m args meth c D cys ad A cc own nL) {a b off : Int} (tgt : Nat) (hd : decode cc pc = .ok (.if_icmp .gt off, 3)) (ht : (pc : Int) + off = (tgt : Int)) (ha : inR a) (hb : inR b) (kt : b < a → JJ p l e R s m args below meth c D cys ad A Q nL cells slots L g X Z tgt vs st) (kf : a ≤ b → JJ p l e R s m args below meth c D cys ad A Q nL cells slots L g X Z (pc + 3) vs st) : JJ p l e R s m args below meth c D cys ad A Q nL cells slots L g X Z pc vs (.int (iI b) :: .int (iI a) :: st) :=
  fun H locs ls hL hP hD hS hl => lv_icmp_gt G.x G.b hd ht (fun h => kt ((iI_lt hb ha).mp h) H locs ls hL hP hD hS hl) (fun h => kf (by have := mt (iI_lt hb ha).mpr h; omega) H locs ls hL hP hD hS hl)
theorem j_if_gt (G : GG p l s m args meth c D cys ad A cc own nL) {a off : Int} (tgt : Nat) (hd : decode cc pc = .ok (.ifCond .gt off, 3)) (ht : (pc : Int) + off = (tgt : Int)) (ha : inR a) (kt : 0 < a → JJ p l e R s m args below meth c D cys ad A Q nL cells slots L g X Z tgt vs st) (kf : a ≤ 0 → JJ p l e R s m args below meth c D cys ad A Q nL cells slots L g X Z (pc + 3) vs st) : JJ p l e R s m args below meth c D cys ad A Q nL cells slots L g X Z pc vs (.int (iI a) :: st) := by
  have h00 : inR 0 := ⟨by decide, by decide⟩
  intro H locs ls hL hP hD hS hl
  refine lv_if_gt G.x G.b hd ht (fun h => ?_) (fun h => ?_)
  · rw [← iI_0] at h
    exact kt ((iI_lt h00 ha).mp h) H locs ls hL hP hD hS hl
  · rw [← iI_0] at h
    exact kf (by have := mt (iI_lt h00 ha).mpr h; omega) H locs ls hL hP hD hS hl
theorem j_icmp_le (G : GG p l s m args meth c D cys ad A cc own nL) {a b off : Int} (tgt : Nat) (hd : decode cc pc = .ok (.if_icmp .le off, 3)) (ht : (pc : Int) + off = (tgt : Int)) (ha : inR a) (hb : inR b) (kt : a ≤ b → JJ p l e R s m args below meth c D cys ad A Q nL cells slots L g X Z tgt vs st) (kf : b < a → JJ p l e R s m args below meth c D cys ad A Q nL cells slots L g X Z (pc + 3) vs st) : JJ p l e R s m args below meth c D cys ad A Q nL cells slots L g X Z pc vs (.int (iI b) :: .int (iI a) :: st) :=
  fun H locs ls hL hP hD hS hl => lv_icmp_le G.x G.b hd ht (fun h => kt ((iI_le ha hb).mp h) H locs ls hL hP hD hS hl) (fun h => kf (by have := mt (iI_le ha hb).mpr h; omega) H locs ls hL hP hD hS hl)
theorem j_if_le (G : GG p l s m args meth c D cys ad A cc own nL) {a off : Int} (tgt : Nat) (hd : decode cc pc = .ok (.ifCond .le off, 3)) (ht : (pc : Int) + off = (tgt : Int)) (ha : inR a) (kt : a ≤ 0 → JJ p l e R s m args below meth c D cys ad A Q nL cells slots L g X Z tgt vs st) (kf : 0 < a → JJ p l e R s m args below meth c D cys ad A Q nL cells slots L g X Z (pc + 3) vs st) : JJ p l e R s m args below meth c D cys ad A Q nL cells slots L g X Z pc vs (.int (iI a) :: st) := by
  have h00 : inR 0 := ⟨by decide, by decide⟩
  intro H locs ls hL hP hD hS hl
  refine lv_if_le G.x G.b hd ht (fun h => ?_) (fun h => ?_)
  · rw [← iI_0] at h
    exact kt ((iI_le ha h00).mp h) H locs ls hL hP hD hS hl
  · rw [← iI_0] at h
    exact kf (by have := mt (iI_le ha h00).mpr h; omega) H locs ls hL hP hD hS hl
theorem j_top  {x y : Int32} (h : x = y) (kk : JJ p l e R s m args below meth c D cys ad A Q nL cells slots L g X Z pc vs (.int y :: st)) : JJ p l e R s m args below meth c D cys ad A Q nL cells slots L g X Z pc vs (.int x :: st) := by subst h; exact kk
theorem j_get (G : GG p l s m args meth c D cys ad A cc own nL) (k : Nat) (i : Int) {ci N : Nat} {C : String} {T : u_T} {fs : List Value} {v : Value} {idx : Nat} (n : Nat) (hd : decode cc pc = .ok (.getfield idx, 3)) (hc : cC cys ad k i X (Z k i) = .inr (ci, fs)) (hcl : vwCl[ci]? = some (C, T, N)) (hf : fs[n]? = some v) (hn : n < N) (hlink : Cond.fieldLink own idx C (T n).2.1 (T n).2.2.1 ∈ TW) (hTC : (T n).1 = C) (hin : ∀ w ∈ u_ws C T N, w ∈ TW) (h : vd k i) (kk : JJ p l e R s m args below meth c D cys ad A Q nL cells slots L g X Z (pc + 3) vs (v :: st)) : JJ p l e R s m args below meth c D cys ad A Q nL cells slots L g X Z pc vs (.ref (ad k i) :: st) := by
  intro H locs ls hL hP hD hS hl
  obtain ⟨q, hq⟩ := mw_get G.inj hL h hc
  refine va_get (D := D) (ci := ci) (v := v) (C := C) (T := T) (N := N) G.x G.b G.ts hin G.ow G.K hP q hq hcl n hn (G.ts _ hlink) (fun _ h9 => by rw [hTC] at h9; exact h9) hf hd ?_
  exact kk H locs ls hL hP hD hS hl
theorem j_put (G : GG p l s m args meth c D cys ad A cc own nL) (k : Nat) (i : Int) {ci N : Nat} {C : String} {T : u_T} {ty0 : Nat → FieldType} {fs : List Value} {a : Int} {idx : Nat} (n : Nat) (ty : FieldType) (hd : decode cc pc = .ok (.putfield idx, 3)) (hc : cC cys ad k i X (Z k i) = .inr (ci, fs)) (hc2 : cC cys ad k i X (rS (Z k i) n a) = .inr (ci, fs.set n (.int (iI a)))) (hcl : vwCl[ci]? = some (C, T, N)) (hn : n < N) (hlen : n < fs.length) (hlink : Cond.fieldLink own idx C (T n).2.1 (T n).2.2.1 ∈ TW) (hTC : (T n).1 = C) (hfin : (T n).2.2.2 = false) (hin : ∀ w ∈ u_ws C T N, w ∈ TW) (hty : ∀ k, k < N → parseFieldDescriptor (T k).2.2.1 = some (ty0 k)) (hnm : ∀ a, a < N → ∀ b, b < N → a ≠ b → (T a).2.1 ≠ (T b).2.1) (hpd : parseFieldDescriptor (T n).2.2.1 = some ty) (hnar : narrow ty (.int (iI a)) = .int (iI a)) (hfit : fits ty (.int (iI a)) = true) (h : vd k i) (kk : JJ p l e R s m args below meth c D cys ad A Q nL cells slots L g X (zS Z k i n a) (pc + 3) vs st) : JJ p l e R s m args below meth c D cys ad A Q nL cells slots L g X Z pc vs (.int (iI a) :: .ref (ad k i) :: st) := by
  intro H locs ls hL hP hD hS hl
  obtain ⟨q, hq⟩ := mw_get G.inj hL h hc
  refine va_put (D := D) (ci := ci) (v := .int (iI a)) (ty := ty) (C := C) (T := T) (N := N) G.x G.b G.ts hin ty0 hty hnm G.ow G.K hP hD hS q hq hcl n hn (G.ts _ hlink) (fun _ h9 => by rw [hTC] at h9; exact h9) hfin hpd hnar hfit hlen hd (fun H1 locs1 hP1 hD1 hS1 => ?_)
  have e := mw_set (z := rS (Z k i) n a) G.inj hL h hc hq hD
  rw [hc2] at e
  rw [e] at hP1 hD1
  exact kk H1 locs1 ls hL hP1 hD1 hS1 hl
theorem j_iald (G : GG p l s m args meth c D cys ad A cc own nL) (k : Nat) (i : Int) {N : Nat} {j : Int} (hd : decode cc pc = .ok (.iaload, 1)) (hc : ∀ z, cC cys ad k i X z = eI (cys 0) N z) (hN : N < 2 ^ 31) (h : vd k i) (h0 : 0 ≤ j) (h1 : j < N) (kk : JJ p l e R s m args below meth c D cys ad A Q nL cells slots L g X Z (pc + 1) vs (.int (iI (Z k i j)) :: st)) : JJ p l e R s m args below meth c D cys ad A Q nL cells slots L g X Z pc vs (.int (iI j) :: .ref (ad k i) :: st) := by
  intro H locs ls hL hP hD hS hl
  obtain ⟨q, hq⟩ := mw_get G.inj hL h (hc (Z k i))
  refine va_iald (D := D) G.x G.b G.K hP q 0 hq rfl (iI_in h0 h1 hN) hd ?_
  have e : (((iI j).toNatClampNeg : Nat) : Int) = j := by rw [iI_clamp h0 (by omega)]; omega
  rw [e]
  exact kk H locs ls hL hP hD hS hl
theorem j_zald (G : GG p l s m args meth c D cys ad A cc own nL) (k : Nat) (i : Int) {N : Nat} {j : Int} (hd : decode cc pc = .ok (.baload, 1)) (hc : ∀ z, cC cys ad k i X z = eI (cys 1) N z) (hN : N < 2 ^ 31) (h : vd k i) (h0 : 0 ≤ j) (h1 : j < N) (kk : JJ p l e R s m args below meth c D cys ad A Q nL cells slots L g X Z (pc + 1) vs (.int (iI (Z k i j)) :: st)) : JJ p l e R s m args below meth c D cys ad A Q nL cells slots L g X Z pc vs (.int (iI j) :: .ref (ad k i) :: st) := by
  intro H locs ls hL hP hD hS hl
  obtain ⟨q, hq⟩ := mw_get G.inj hL h (hc (Z k i))
  refine va_zald (D := D) G.x G.b G.K hP q 1 hq rfl (iI_in h0 h1 hN) hd ?_
  have e : (((iI j).toNatClampNeg : Nat) : Int) = j := by rw [iI_clamp h0 (by omega)]; omega
  rw [e]
  exact kk H locs ls hL hP hD hS hl
theorem j_iast (G : GG p l s m args meth c D cys ad A cc own nL) (k : Nat) (i : Int) {N : Nat} {j a : Int} (hd : decode cc pc = .ok (.iastore, 1)) (hc : ∀ z, cC cys ad k i X z = eI (cys 0) N z) (hN : N < 2 ^ 31) (h : vd k i) (h0 : 0 ≤ j) (h1 : j < N) (kk : JJ p l e R s m args below meth c D cys ad A Q nL cells slots L g X (zS Z k i j a) (pc + 1) vs st) : JJ p l e R s m args below meth c D cys ad A Q nL cells slots L g X Z pc vs (.int (iI a) :: .int (iI j) :: .ref (ad k i) :: st) := by
  intro H locs ls hL hP hD hS hl
  obtain ⟨q, hq⟩ := mw_get G.inj hL h (hc (Z k i))
  refine va_iast (D := D) G.x G.b G.K hP hD hS q 0 hq rfl (iI_in h0 h1 hN) hd (fun H1 locs1 hP1 hD1 hS1 => ?_)
  have e := mw_set (z := rS (Z k i) j a) G.inj hL h (hc (Z k i)) hq hD
  have e2 : cC cys ad k i X (rS (Z k i) j a) = .inl (cys 0, N, .inl (upd (fun q => iI (Z k i q)) (iI j).toNatClampNeg (iI a))) := by
    rw [hc]
    refine congrArg (fun f => Sum.inl (cys 0, N, Sum.inl f)) (funext fun q => ?_)
    have ec : (iI j).toNatClampNeg = j.toNat := iI_clamp h0 (by omega)
    rw [ec]
    unfold rS upd
    by_cases hq : q = j.toNat
    · rw [if_pos (by omega), if_pos hq]
    · rw [if_neg (by omega), if_neg hq]
  rw [e2] at e
  rw [e] at hP1 hD1
  exact kk H1 locs1 ls hL hP1 hD1 hS1 hl
theorem j_zast (G : GG p l s m args meth c D cys ad A cc own nL) (k : Nat) (i : Int) {N : Nat} {j a : Int} (hd : decode cc pc = .ok (.bastore, 1)) (hc : ∀ z, cC cys ad k i X z = eI (cys 1) N z) (hN : N < 2 ^ 31) (h : vd k i) (h0 : 0 ≤ j) (h1 : j < N) (ha : a = 0 ∨ a = 1) (kk : JJ p l e R s m args below meth c D cys ad A Q nL cells slots L g X (zS Z k i j a) (pc + 1) vs st) : JJ p l e R s m args below meth c D cys ad A Q nL cells slots L g X Z pc vs (.int (iI a) :: .int (iI j) :: .ref (ad k i) :: st) := by
  intro H locs ls hL hP hD hS hl
  obtain ⟨q, hq⟩ := mw_get G.inj hL h (hc (Z k i))
  refine va_zast (D := D) G.x G.b G.K hP hD hS q 1 hq rfl (iI_in h0 h1 hN) hd (fun H1 locs1 hP1 hD1 hS1 => ?_)
  have e := mw_set (z := rS (Z k i) j a) G.inj hL h (hc (Z k i)) hq hD
  have e2 : cC cys ad k i X (rS (Z k i) j a) = .inl (cys 1, N, .inl (upd (fun q => iI (Z k i q)) (iI j).toNatClampNeg (vp_nar .boolean (iI a)))) := by
    rw [hc]
    refine congrArg (fun f => Sum.inl (cys 1, N, Sum.inl f)) (funext fun q => ?_)
    have ec : (iI j).toNatClampNeg = j.toNat := iI_clamp h0 (by omega)
    rw [ec]
    unfold rS upd
    by_cases hq : q = j.toNat
    · rw [if_pos (by omega), if_pos hq]
      rcases ha with rfl | rfl <;> decide +kernel
    · rw [if_neg (by omega), if_neg hq]
  rw [e2] at e
  rw [e] at hP1 hD1
  exact kk H1 locs1 ls hL hP1 hD1 hS1 hl
theorem j_aald (G : GG p l s m args meth c D cys ad A cc own nL) (k : Nat) (i : Int) (t0 : Nat) {N : Nat} {cA : ClassId} {f : Nat → Option Nat} {C : String} {j : Int} (hd : decode cc pc = .ok (.aaload, 1)) (hc : cC cys ad k i X (Z k i) = eQ cA N f) (ht : (tysC cys)[t0]? = some (cA, .object C)) (hN : N < 2 ^ 31) (h : vd k i) (h0 : 0 ≤ j) (h1 : j < N) {b : Nat} (hf : f j.toNat = some b) (kk : JJ p l e R s m args below meth c D cys ad A Q nL cells slots L g X Z (pc + 1) vs (.ref b :: st)) : JJ p l e R s m args below meth c D cys ad A Q nL cells slots L g X Z pc vs (.int (iI j) :: .ref (ad k i) :: st) := by
  intro H locs ls hL hP hD hS hl
  obtain ⟨q, hq⟩ := mw_get G.inj hL h hc
  refine va_aldq (D := D) G.x G.b G.K hP q t0 hq ht (iI_in h0 h1 hN) hd ?_
  rw [iI_clamp h0 (by omega), hf]
  exact kk H locs ls hL hP hD hS hl
theorem j_aaldA (G : GG p l s m args meth c D cys ad A cc own nL) (k : Nat) (i : Int) (t0 : Nat) {N : Nat} {cA : ClassId} {f : Nat → Option Nat} {t : FieldType} {j : Int} (hd : decode cc pc = .ok (.aaload, 1)) (hc : cC cys ad k i X (Z k i) = eQ cA N f) (ht : (tysC cys)[t0]? = some (cA, .array t)) (hN : N < 2 ^ 31) (h : vd k i) (h0 : 0 ≤ j) (h1 : j < N) {b : Nat} (hf : f j.toNat = some b) (kk : JJ p l e R s m args below meth c D cys ad A Q nL cells slots L g X Z (pc + 1) vs (.ref b :: st)) : JJ p l e R s m args below meth c D cys ad A Q nL cells slots L g X Z pc vs (.int (iI j) :: .ref (ad k i) :: st) := by
  intro H locs ls hL hP hD hS hl
  obtain ⟨q, hq⟩ := mw_get G.inj hL h hc
  have hin : vp_in (iI j) N := iI_in h0 h1 hN
  have hlt : (iI j).toNatClampNeg < N := Nat.not_le.mp fun q => hin (Or.inr q)
  refine W.aald (v := va_rf (f (iI j).toNatClampNeg)) (ty := .array t) G.x G.b (hP q _ hq) ((G.K.2 t0 _ ht).1 N (fun j => va_rf (f j))) rfl (fun q => by cases q) (by show ¬ (iI j < 0 ∨ (arrV _ _ _).slots.size ≤ _); rw [arrV_size]; exact hin) (by show (arrV _ _ _).slots[_]? = _; rw [arrV_read _ _ hlt]) rfl rfl hd ?_
  rw [iI_clamp h0 (by omega), hf]
  exact kk H locs ls hL hP hD hS hl
/-- fewer locals, by their numbers -/
def kep (vs : List (Nat × Value)) (ks : List Nat) : List (Nat × Value) := ks.filterMap (fun k => (lkp vs k).map (fun v => (k, v)))
theorem j_keep (ks : List Nat) (kk : JJ p l e R s m args below meth c D cys ad A Q nL cells slots L g X Z pc (kep vs ks) st) : JJ p l e R s m args below meth c D cys ad A Q nL cells slots L g X Z pc vs st := by
  intro H locs ls hL hP hD hS hl
  refine kk H locs ls hL hP hD hS ⟨hl.1, hl.2.1, fun q hq => ?_⟩
  obtain ⟨k, -, hk⟩ := List.mem_filterMap.mp hq
  cases hv : lkp vs k with
  | none => rw [hv] at hk; cases hk
  | some v =>
    rw [hv] at hk
    cases hk
    exact lv_lk hl hv
end JJS
