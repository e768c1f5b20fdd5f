/-! contracts -/
abbrev PT : Type := Option Value → List Nat → (Nat → va_E) → Int64 → ZT → Prop
/-- the world at a state -/
def WU (D : va_G) (cys : Nat → ClassId) (ad : Nat → Int → Nat) (L : List Nat) (g : Nat → va_E) (X : Int64) (Z : ZT) (sz : Nat) (U : State) : Prop :=
  U.heap.size = sz ∧ SL ad L ∧ va_P D vwCl (MW cys ad L g X Z) U.heap ∧ va_K D vwCl (tysC cys) U ∧ va_D (fun _ => True) (MW cys ad L g X Z) ∧ AmbX ad (va_A (MW cys ad L g X Z) sz) U U.heap
def Qm (D : va_G) (cys : Nat → ClassId) (ad : Nat → Int → Nat) (A : Nat → Prop) (post : PT) : Array Value → State → Outcome → State → Prop := fun _ st oc t =>
  (∃ (v : Option Value) (L : List Nat) (g : Nat → va_E) (X : Int64) (Z : ZT), oc = .returned v ∧ post v L g X Z ∧ SL ad L ∧ va_P D vwCl (MW cys ad L g X Z) t.heap ∧ va_D A (MW cys ad L g X Z)) ∧ va_F A st t
/-- a contract: from the memory (L, g, X, Z) the method returns, and post tells what and which memory -/
def CM (l : Launch) (D : va_G) (cys : Nat → ClassId) (ad : Nat → Int → Nat) (y : MethodName) (cc : ByteArray) (nL : Nat) (ret : Option FieldType) (fr lo mc ms : Nat) (av : List Value) (L : List Nat) (g : Nat → va_E) (X : Int64) (Z : ZT) (post : PT) : Prop :=
  ∀ sz : Nat, Met l y (.code y cc nL ret :: TW) ({ frames := fr, cells := mc, slots := ms, locals := lo }) (va_Pc av (WU D cys ad L g X Z sz)) (Qm D cys ad (va_A (MW cys ad L g X Z) sz) post) mc ms (va_A (MW cys ad L g X Z) sz)
theorem Amb.warm {A : Nat → Prop} {u U : State} {H : Heap} (hW : u.WarmedH U.vm) (h : Amb A u H) : Amb A U H := ⟨vx_Zq.moved hW.alike h.1, vx_Zq.moved hW.alike h.2.1, h.2.2.warm hW⟩
theorem Amb.same {A : Nat → Prop} {u U : State} {H : Heap} (hv : U.vm = u.vm) (h : Amb A u H) : Amb A U H := ⟨vx_Zq.moved (by rw [hv]; exact Vm.Alike.refl _) h.1, vx_Zq.moved (by rw [hv]; exact Vm.Alike.refl _) h.2.1, h.2.2.same hv⟩
theorem Amb.kept {A : Nat → Prop} {U : State} {H H1 : Heap} (h : Amb A U H) (hq : ∀ a : Nat, a < H.size → ¬ A a → H1[a]? = H[a]?) : Amb A U H1 := ⟨vx_Zq.kept h.1 hq, vx_Zq.kept h.2.1 hq, h.2.2⟩
theorem Amb.narrow {A B : Nat → Prop} {U : State} {H : Heap} (h : Amb A U H) (hAB : ∀ q, B q → A q) : Amb B U H := ⟨vx_Zq.narrow h.1 hAB, vx_Zq.narrow h.2.1 hAB, h.2.2⟩
theorem AMX.warm {ad : Nat → Int → Nat} {A : Nat → Prop} {u U : State} {H : Heap} (hW : u.WarmedH U.vm) (h : AMX ad A u H) : AMX ad A U H := ⟨h.1.moved hW.alike, h.2.1.moved hW.alike, h.2.2.1.moved hW.alike, h.2.2.2.warm hW⟩
theorem AMX.same {ad : Nat → Int → Nat} {A : Nat → Prop} {u U : State} {H : Heap} (hv : U.vm = u.vm) (h : AMX ad A u H) : AMX ad A U H := by
  have hal : u.vm.Alike U.vm := by rw [hv]; exact Vm.Alike.refl _
  exact ⟨h.1.moved hal, h.2.1.moved hal, h.2.2.1.moved hal, h.2.2.2.same hv⟩
theorem AMX.kept {ad : Nat → Int → Nat} {A : Nat → Prop} {U : State} {H H1 : Heap} (h : AMX ad A U H) (hq : ∀ a : Nat, a < H.size → ¬ A a → H1[a]? = H[a]?) : AMX ad A U H1 := ⟨h.1.kept hq, h.2.1.kept hq, h.2.2.1.kept hq, h.2.2.2⟩
theorem AMX.narrow {ad : Nat → Int → Nat} {A B : Nat → Prop} {U : State} {H : Heap} (h : AMX ad A U H) (hAB : ∀ q, B q → A q) : AMX ad B U H := ⟨h.1.narrow hAB, h.2.1.narrow hAB, h.2.2.1.narrow hAB, h.2.2.2⟩
theorem AmbX.warm {ad : Nat → Int → Nat} {A : Nat → Prop} {u U : State} {H : Heap} (hW : u.WarmedH U.vm) (h : AmbX ad A u H) : AmbX ad A U H := ⟨h.1.warm hW, h.2.warm hW⟩
theorem AmbX.same {ad : Nat → Int → Nat} {A : Nat → Prop} {u U : State} {H : Heap} (hv : U.vm = u.vm) (h : AmbX ad A u H) : AmbX ad A U H := ⟨h.1.same hv, h.2.same hv⟩
theorem AmbX.kept {ad : Nat → Int → Nat} {A : Nat → Prop} {U : State} {H H1 : Heap} (h : AmbX ad A U H) (hq : ∀ a : Nat, a < H.size → ¬ A a → H1[a]? = H[a]?) : AmbX ad A U H1 := ⟨h.1.kept hq, h.2.kept hq⟩
theorem AmbX.narrow {ad : Nat → Int → Nat} {A B : Nat → Prop} {U : State} {H : Heap} (h : AmbX ad A U H) (hAB : ∀ q, B q → A q) : AmbX ad B U H := ⟨h.1.narrow hAB, h.2.narrow hAB⟩
theorem WU.blind {D : va_G} {cys : Nat → ClassId} {ad : Nat → Int → Nat} {L : List Nat} {g : Nat → va_E} {X : Int64} {Z : ZT} {sz : Nat} {av : List Value} : FrameBlind (va_Pc av (WU D cys ad L g X Z sz)) := by
  intro a U f mk h
  obtain ⟨h0, h1, h2, h3, h4, h5, h6⟩ := h
  exact ⟨h0, h1, h2, h3, va_K.moved (u := U) (U := U.calling f mk a) (Vm.Alike.refl U.vm) h4, h5, AmbX.same (u := U) (U := U.calling f mk a) rfl h6⟩
section CTS
variable {p : Program} {l : Launch} {e : Env} {R : Room} {s : State} {m : MethodId} {args : Array Value} {below : List Frame} {meth : Method} {c : Code} {Q : State → Prop}
variable {D : va_G} {cys : Nat → ClassId} {ad : Nat → Int → Nat} {A : Nat → Prop} {cc : ByteArray} {own : String} {nL : Nat} {cells slots : Nat} {L : List Nat} {g : Nat → va_E} {X : Int64} {Z : ZT} {pc : Nat} {vs : List (Nat × Value)} {st : List Value}
/-- a method's proof begins here -/
theorem cm_start {y : MethodName} {ret : Option FieldType} {fr lo mc ms : Nat} {av : List Value} {post : PT} (hi : injA ad) (hy : plainName y.cls = true) (hn : (lg_sl av).length ≤ nL)
    (body : ∀ (p : Program) (e : Env) (s : State) (m : MethodId) (args : Array Value) (below : List Frame) (meth : Method) (c : Code) (A : Nat → Prop) (Q : State → Prop), (∀ t, MQ below (Qm D cys ad A post) args s mc ms A t → Q t) → GG p l s m args meth c D cys ad A cc y.cls nL → meth.sig.returnType = ret → (y.name = "<init>" → meth.name = "<init>") →
      JJ p l e { frames := fr, cells := mc, slots := ms, locals := lo } s m args below meth c D cys ad A Q nL 0 0 L g X Z 0 (lv_args 0 av) []) : CM l D cys ad y cc nL ret fr lo mc ms av L g X Z post := by
  intro sz
  refine Met.ofW (cc := cc) (maxL := nL) (ret := ret) hy rfl ?_
  intro p e s m args below meth c s₁ B hml hv
  obtain ⟨rfl, hsz, hSL, hP, hK, hD0, hA0⟩ := hv
  subst hsz
  have hts := atoms_spec (ws := Cond.code y cc nL ret :: TW) B.pre
  have hown : s.vm.findClass y.cls = some m.cls := findClass_of_methodNamed B.named
  have hD := hD0.self (sz := s.heap.size)
  rw [lg_entry_eq]
  exact body p e s m _ below meth c _ _ (fun _ h => h) ⟨B.exec, B.bytes, hml, hown, fun w hw => hts w (List.mem_cons_of_mem _ hw), hK, B.notSynchronized, fun q h => Or.inr h, hi, hA0⟩ B.returns (fun h => by rw [← h]; exact (name_of_methodNamed B.named B.method).1)
    s.heap [] _ hSL hP hD va_S.rf (lv_entry av hn)
/-- returning -/
theorem jr_int (G : GG p l s m args meth c D cys ad A cc own nL) {ty : FieldType} {x : Int32} {post : PT} {mc ms : Nat} (hr : meth.sig.returnType = some ty) (hnar : narrow ty (.int x) = .int x) (hd : decode cc pc = .ok (.ireturn, 1)) (hc : cells ≤ mc) (hs : slots ≤ ms) (hp : post (some (.int x)) L g X Z) :
    JJ p l e R s m args below meth c D cys ad A (MQ below (Qm D cys ad A post) args s mc ms A) nL cells slots L g X Z pc vs [.int x] :=
  fun H locs ls hL hP hD hS hl => W.widen hc hs (W.zret G.x G.b hr hnar (fun t ht hW => ⟨⟨_, L, g, X, Z, rfl, hp, hL, by rw [ht]; exact hP, hD⟩, hS.F ht⟩) hS.2.2 hd G.lk)
theorem jr_void (G : GG p l s m args meth c D cys ad A cc own nL) {post : PT} {mc ms : Nat} (hr : meth.sig.returnType = none) (hd : decode cc pc = .ok (.return_, 1)) (hc : cells ≤ mc) (hs : slots ≤ ms) (hp : post none L g X Z) :
    JJ p l e R s m args below meth c D cys ad A (MQ below (Qm D cys ad A post) args s mc ms A) nL cells slots L g X Z pc vs [] :=
  fun H locs ls hL hP hD hS hl => W.widen hc hs (W.vret G.x G.b hr (fun t ht hW => ⟨⟨_, L, g, X, Z, rfl, hp, hL, by rw [ht]; exact hP, hD⟩, hS.F ht⟩) hS.2.2 hd G.lk)
theorem jr_long (G : GG p l s m args meth c D cys ad A cc own nL) {x : Int64} {post : PT} {mc ms : Nat} (hr : meth.sig.returnType = some .long) (hd : decode cc pc = .ok (.lreturn, 1)) (hc : cells ≤ mc) (hs : slots ≤ ms) (hp : post (some (.long x)) L g X Z) :
    JJ p l e R s m args below meth c D cys ad A (MQ below (Qm D cys ad A post) args s mc ms A) nL cells slots L g X Z pc vs [.long x] :=
  fun H locs ls hL hP hD hS hl => W.widen hc hs (W.lret G.x G.b hr (fun t ht hW => ⟨⟨_, L, g, X, Z, rfl, hp, hL, by rw [ht]; exact hP, hD⟩, hS.F ht⟩) hS.2.2 hd G.lk)
theorem jr_ref (G : GG p l s m args meth c D cys ad A cc own nL) {a : Nat} {ty : FieldType} {post : PT} {mc ms : Nat} (hr : meth.sig.returnType = some ty) (hty : (∃ n, ty = .object n) ∨ ∃ t, ty = .array t) (hd : decode cc pc = .ok (.areturn, 1)) (hc : cells ≤ mc) (hs : slots ≤ ms) (hp : post (some (.ref a)) L g X Z) :
    JJ p l e R s m args below meth c D cys ad A (MQ below (Qm D cys ad A post) args s mc ms A) nL cells slots L g X Z pc vs [.ref a] :=
  fun H locs ls hL hP hD hS hl => W.widen hc hs (W.aret G.x G.b hr hty (Or.inr ⟨_, rfl⟩) (fun t ht hW => ⟨⟨_, L, g, X, Z, rfl, hp, hL, by rw [ht]; exact hP, hD⟩, hS.F ht⟩) hS.2.2 hd G.lk)
/-- the world where a call begins, from the caller's -/
theorem wu_call (G : GG p l s m args meth c D cys ad A cc own nL) {H : Heap} {locs : List Loc} (hL : SL ad L) (hP : va_P D vwCl (MW cys ad L g X Z) H) (hD : va_D A (MW cys ad L g X Z)) (hS : va_S A s.heap H locs) {U : State} (hU : U.heap = H) (hW : s.WarmedH U.vm) : WU D cys ad L g X Z H.size U := by
  have hAA : ∀ q, va_A (MW cys ad L g X Z) H.size q → A q := by
    intro q hq
    rcases hq with ⟨k, x, hk⟩ | hq
    · exact hD.2 k (q, x) hk
    · exact G.fr q (Nat.le_trans hS.1 hq)
  refine ⟨by rw [hU], hL, by rw [hU]; exact hP, va_K.moved hW.alike G.K, hD.weaken (fun _ _ _ _ => trivial), ?_⟩
  rw [hU]
  exact AmbX.narrow (AmbX.kept (AmbX.warm hW G.ambx) (fun a h1 h2 => hS.2.1 a h1 h2)) hAA
/-- the caller goes on with the callee's world -/
theorem j_run (G : GG p l s m args meth c D cys ad A cc own nL) {H : Heap} {locs : List Loc} {ls : Array Slot} {mc ms : Nat} {rest st0 : List Value} {av : Array Value} {post : PT} (hL : SL ad L) (hD : va_D A (MW cys ad L g X Z)) (hS : va_S A s.heap H locs) (hl : lv_has ls nL vs)
    (hr : va_Run p l e R s m args below meth c H locs cells slots mc ms (F0 m pc ls st0) rest (Qm D cys ad (va_A (MW cys ad L g X Z) H.size) post av) (va_A (MW cys ad L g X Z) H.size))
    (kk : ∀ (v : Option Value) (L1 : List Nat) (g1 : Nat → va_E) (X1 : Int64) (Z1 : ZT), post v L1 g1 X1 Z1 → JJ p l e R s m args below meth c D cys ad A Q nL (cells + mc) (slots + ms) L1 g1 X1 Z1 (pc + 3) vs (v.toList ++ rest)) : W p l e R s m args below meth c H locs cells slots Q (F0 m pc ls st0) := by
  have hAA : ∀ q, va_A (MW cys ad L g X Z) H.size q → A q := by
    intro q hq
    rcases hq with ⟨k, x, hk⟩ | hq
    · exact hD.2 k (q, x) hk
    · exact G.fr q (Nat.le_trans hS.1 hq)
  intro T hT Xs
  obtain ⟨v, st₀, t, T', L0, h0, X', hL0, e1, e2, ⟨⟨v', L1, g1, X1, Z1, hv, hp, hL1, hP1, hD1⟩, hz, hk⟩, stp⟩ := hr T hT Xs
  cases hv
  rw [h0] at hz hk
  obtain ⟨t2, a1, b1⟩ := kk v L1 g1 X1 Z1 hp T'.heap (locs ++ L0) ls hL1 (by rw [e1]; exact hP1) (hD1.weaken (fun _ _ _ h => hAA _ h))
    ⟨Nat.le_trans hS.1 (by rw [e1]; exact hz), fun q h1 h2 => by rw [e1, hk q (Nat.lt_of_lt_of_le h1 hS.1) (fun z => h2 (hAA q z))]; exact hS.2.1 q h1 h2, fun q hq => by
      rcases List.mem_append.mp hq with h | h
      · exact hS.2.2 q h
      · exact hAA _ (hL0 q h)⟩ hl T' rfl X'
  exact ⟨t2, stp t2 a1, b1⟩
/-- a virtual call of a method of a class of ours, its receiver a fixed place -/
theorem j_callV (G : GG p l s m args meth c D cys ad A cc own nL) {y : MethodName} {cc1 : ByteArray} {nL1 n fr lo mc ms idx : Nat} {ret : Option FieldType} {As rest : List Value} {k : Nat} {i : Int} {ci : Nat} {fs : List Value} {q1 : vw_C} {post : PT}
    (cv : CV y cc1 nL1 ret n) (hlk : Cond.methodLink own idx y ∈ TW) (hM : CM l D cys ad y cc1 nL1 ret fr lo mc ms (.ref (ad k i) :: As) L g X Z post) (hd : decode cc pc = .ok (.invokevirtual idx, 3))
    (hR : fr + 1 ≤ R.frames ∧ 8 + (nL1 + 11) + lo ≤ R.locals) (hcs : cells + mc ≤ R.cells ∧ slots + ms ≤ R.slots) (hst : st = As.reverse ++ .ref (ad k i) :: rest) (hn : As.length = n) (hrest : (rest.map fun v => v.category).sum ≤ 8)
    (hv : vd k i) (hc : cC cys ad k i X (Z k i) = .inr (ci, fs)) (hq1 : vwCl[ci]? = some q1) (hq2 : q1.1 = y.cls)
    (kk : ∀ (v : Option Value) (L1 : List Nat) (g1 : Nat → va_E) (X1 : Int64) (Z1 : ZT), post v L1 g1 X1 Z1 → JJ p l e R s m args below meth c D cys ad A Q nL (cells + mc) (slots + ms) L1 g1 X1 Z1 (pc + 3) vs (v.toList ++ rest)) :
    JJ p l e R s m args below meth c D cys ad A Q nL cells slots L g X Z pc vs st := by
  intro H locs ls hL hP hD hS hl
  obtain ⟨c1, c2, c3, c4, c5, c6, c7⟩ := cv
  obtain ⟨q, hq⟩ := mw_get G.inj hL hv hc
  have hG : GoodIn TW (wsV own idx y.cls y (.code y cc1 nL1 ret :: TW)) := TW_sub (fun w hw => by
    rcases List.mem_append.mp hw with h | h
    · simp only [List.mem_cons, List.not_mem_nil, or_false] at h
      rcases h with rfl | rfl | rfl | rfl <;> assumption
    · rcases List.mem_cons.mp h with rfl | h
      · exact c4
      · exact h)
  refine j_run G hL hD hS hl (va_runV (C := y.cls) (As := As) (rest := rest) (b := ad k i) ⟨G.x, G.b, G.ml, G.ow, G.ts⟩ (hM H.size) (cwV (bytes := cc1) (maxL := nL1) (ret := ret) (ws' := TW) n G.ts hG rfl rfl rfl ⟨rfl, c5, c6, c7⟩ hR) ⟨WU.blind, ?_, fun U hU hW => ⟨rfl, wu_call G hL hP hD hS hU hW⟩⟩ rfl hn hl.1 hst (lv_room hrest) hd hcs) kk
  have h9 := va_recv G.K hP hq1 hq
  rw [hq2] at h9
  exact h9
theorem j_callS (G : GG p l s m args meth c D cys ad A cc own nL) {y : MethodName} {cc1 : ByteArray} {nL1 n fr lo mc ms idx : Nat} {ret : Option FieldType} {As rest : List Value} {post : PT}
    (cv : CS y cc1 nL1 ret n) (hlk : Cond.methodLink own idx y ∈ TW) (hown : y.cls = own) (hM : CM l D cys ad y cc1 nL1 ret fr lo mc ms As L g X Z post) (hd : decode cc pc = .ok (.invokestatic idx, 3))
    (hR : fr + 1 ≤ R.frames ∧ 8 + (nL1 + 11) + lo ≤ R.locals) (hcs : cells + mc ≤ R.cells ∧ slots + ms ≤ R.slots) (hst : st = As.reverse ++ rest) (hn : As.length = n) (hrest : (rest.map fun v => v.category).sum ≤ 8)
    (kk : ∀ (v : Option Value) (L1 : List Nat) (g1 : Nat → va_E) (X1 : Int64) (Z1 : ZT), post v L1 g1 X1 Z1 → JJ p l e R s m args below meth c D cys ad A Q nL (cells + mc) (slots + ms) L1 g1 X1 Z1 (pc + 3) vs (v.toList ++ rest)) :
    JJ p l e R s m args below meth c D cys ad A Q nL cells slots L g X Z pc vs st := by
  intro H locs ls hL hP hD hS hl
  obtain ⟨c1, c3, c4, c5, c6, c7⟩ := cv
  have hG : GoodIn TW (wsS own idx y (.code y cc1 nL1 ret :: TW)) := TW_sub (fun w hw => by
    rcases List.mem_append.mp hw with h | h
    · simp only [List.mem_cons, List.not_mem_nil, or_false] at h
      rcases h with rfl | rfl | rfl
      · assumption
      · assumption
      · rw [← hown]; assumption
    · rcases List.mem_cons.mp h with rfl | h
      · exact c4
      · exact h)
  exact j_run G hL hD hS hl (va_runS (As := As) (rest := rest) ⟨G.x, G.b, G.ml, G.ow, G.ts⟩ (hM H.size) (cwS (bytes := cc1) (maxL := nL1) (ret := ret) (ws' := TW) n G.ts hG rfl rfl rfl ⟨hown, c5, c6, c7⟩ hR) ⟨WU.blind, fun U hU hW => ⟨rfl, wu_call G hL hP hD hS hU hW⟩⟩ rfl hn hl.1 hst (lv_room hrest) hd hcs) kk
def PI (L : List Nat) (g : Nat → va_E) (X : Int64) (Z : ZT) (P : Int → Prop) : PT := fun v L9 g9 X9 Z9 => ∃ r : Int, v = some (.int (iI r)) ∧ P r ∧ L9 = L ∧ g9 = g ∧ X9 = X ∧ Z9 = Z
def PIZ (L : List Nat) (g : Nat → va_E) (X : Int64) (Z : ZT) (P : Int → ZT → Prop) : PT := fun v L9 g9 X9 Z9 => ∃ r : Int, v = some (.int (iI r)) ∧ P r Z9 ∧ L9 = L ∧ g9 = g ∧ X9 = X
def PVZ (L : List Nat) (g : Nat → va_E) (X : Int64) (Z : ZT) (P : ZT → Prop) : PT := fun v L9 g9 X9 Z9 => v = none ∧ P Z9 ∧ L9 = L ∧ g9 = g ∧ X9 = X
def PR (L : List Nat) (g : Nat → va_E) (X : Int64) (Z : ZT) (P : Nat → Prop) : PT := fun v L9 g9 X9 Z9 => ∃ r : Nat, v = some (.ref r) ∧ P r ∧ L9 = L ∧ g9 = g ∧ X9 = X ∧ Z9 = Z
def PJ (L : List Nat) (g : Nat → va_E) (X : Int64) (Z : ZT) (P : Int64 → Prop) : PT := fun v L9 g9 X9 Z9 => ∃ r : Int64, v = some (.long r) ∧ P r ∧ L9 = L ∧ g9 = g ∧ X9 = X ∧ Z9 = Z
def PJZ (L : List Nat) (g : Nat → va_E) (X : Int64) (Z : ZT) (P : Int64 → ZT → Prop) : PT := fun v L9 g9 X9 Z9 => ∃ r : Int64, v = some (.long r) ∧ P r Z9 ∧ L9 = L ∧ g9 = g ∧ X9 = X
theorem j_cVI (G : GG p l s m args meth c D cys ad A cc own nL) {y : MethodName} {cc1 : ByteArray} {nL1 n fr lo idx : Nat} {ret : Option FieldType} {As rest : List Value} {P : Int → Prop} {k : Nat} {i : Int} {ci : Nat} {fs : List Value} {q1 : vw_C}
    (cv : CV y cc1 nL1 ret n) (hlk : Cond.methodLink own idx y ∈ TW) (hM : CM l D cys ad y cc1 nL1 ret fr lo 0 0 (.ref (ad k i) :: As) L g X Z (PI L g X Z P)) (hd : decode cc pc = .ok (.invokevirtual idx, 3))
    (hR : fr + 1 ≤ R.frames ∧ 8 + (nL1 + 11) + lo ≤ R.locals) (hcs : cells ≤ R.cells ∧ slots ≤ R.slots) (hst : st = As.reverse ++ .ref (ad k i) :: rest) (hn : As.length = n) (hrest : (rest.map fun v => v.category).sum ≤ 8)
    (hv : vd k i) (hc : cC cys ad k i X (Z k i) = .inr (ci, fs)) (hq1 : vwCl[ci]? = some q1) (hq2 : q1.1 = y.cls) (kk : ∀ r : Int, P r → JJ p l e R s m args below meth c D cys ad A Q nL cells slots L g X Z (pc + 3) vs (.int (iI r) :: rest)) : JJ p l e R s m args below meth c D cys ad A Q nL cells slots L g X Z pc vs st := by
  refine j_callV G cv hlk hM hd hR hcs hst hn hrest hv hc hq1 hq2 (fun v L1 g1 X1 Z1 h => ?_)
  obtain ⟨r, rfl, h2, rfl, rfl, rfl, rfl⟩ := h
  exact kk r h2
theorem j_cSI (G : GG p l s m args meth c D cys ad A cc own nL) {y : MethodName} {cc1 : ByteArray} {nL1 n fr lo idx : Nat} {ret : Option FieldType} {As rest : List Value} {P : Int → Prop}
    (cv : CS y cc1 nL1 ret n) (hlk : Cond.methodLink own idx y ∈ TW) (hown : y.cls = own) (hM : CM l D cys ad y cc1 nL1 ret fr lo 0 0 As L g X Z (PI L g X Z P)) (hd : decode cc pc = .ok (.invokestatic idx, 3))
    (hR : fr + 1 ≤ R.frames ∧ 8 + (nL1 + 11) + lo ≤ R.locals) (hcs : cells ≤ R.cells ∧ slots ≤ R.slots) (hst : st = As.reverse ++ rest) (hn : As.length = n) (hrest : (rest.map fun v => v.category).sum ≤ 8) (kk : ∀ r : Int, P r → JJ p l e R s m args below meth c D cys ad A Q nL cells slots L g X Z (pc + 3) vs (.int (iI r) :: rest)) : JJ p l e R s m args below meth c D cys ad A Q nL cells slots L g X Z pc vs st := by
  refine j_callS G cv hlk hown hM hd hR hcs hst hn hrest (fun v L1 g1 X1 Z1 h => ?_)
  obtain ⟨r, rfl, h2, rfl, rfl, rfl, rfl⟩ := h
  exact kk r h2
theorem j_cVIZ (G : GG p l s m args meth c D cys ad A cc own nL) {y : MethodName} {cc1 : ByteArray} {nL1 n fr lo idx : Nat} {ret : Option FieldType} {As rest : List Value} {P : Int → ZT → Prop} {k : Nat} {i : Int} {ci : Nat} {fs : List Value} {q1 : vw_C}
    (cv : CV y cc1 nL1 ret n) (hlk : Cond.methodLink own idx y ∈ TW) (hM : CM l D cys ad y cc1 nL1 ret fr lo 0 0 (.ref (ad k i) :: As) L g X Z (PIZ L g X Z P)) (hd : decode cc pc = .ok (.invokevirtual idx, 3))
    (hR : fr + 1 ≤ R.frames ∧ 8 + (nL1 + 11) + lo ≤ R.locals) (hcs : cells ≤ R.cells ∧ slots ≤ R.slots) (hst : st = As.reverse ++ .ref (ad k i) :: rest) (hn : As.length = n) (hrest : (rest.map fun v => v.category).sum ≤ 8)
    (hv : vd k i) (hc : cC cys ad k i X (Z k i) = .inr (ci, fs)) (hq1 : vwCl[ci]? = some q1) (hq2 : q1.1 = y.cls) (kk : ∀ (r : Int) (Z1 : ZT), P r Z1 → JJ p l e R s m args below meth c D cys ad A Q nL cells slots L g X Z1 (pc + 3) vs (.int (iI r) :: rest)) : JJ p l e R s m args below meth c D cys ad A Q nL cells slots L g X Z pc vs st := by
  refine j_callV G cv hlk hM hd hR hcs hst hn hrest hv hc hq1 hq2 (fun v L1 g1 X1 Z1 h => ?_)
  obtain ⟨r, rfl, h2, rfl, rfl, rfl⟩ := h
  exact kk r _ h2
theorem j_cSIZ (G : GG p l s m args meth c D cys ad A cc own nL) {y : MethodName} {cc1 : ByteArray} {nL1 n fr lo idx : Nat} {ret : Option FieldType} {As rest : List Value} {P : Int → ZT → Prop}
    (cv : CS y cc1 nL1 ret n) (hlk : Cond.methodLink own idx y ∈ TW) (hown : y.cls = own) (hM : CM l D cys ad y cc1 nL1 ret fr lo 0 0 As L g X Z (PIZ L g X Z P)) (hd : decode cc pc = .ok (.invokestatic idx, 3))
    (hR : fr + 1 ≤ R.frames ∧ 8 + (nL1 + 11) + lo ≤ R.locals) (hcs : cells ≤ R.cells ∧ slots ≤ R.slots) (hst : st = As.reverse ++ rest) (hn : As.length = n) (hrest : (rest.map fun v => v.category).sum ≤ 8) (kk : ∀ (r : Int) (Z1 : ZT), P r Z1 → JJ p l e R s m args below meth c D cys ad A Q nL cells slots L g X Z1 (pc + 3) vs (.int (iI r) :: rest)) : JJ p l e R s m args below meth c D cys ad A Q nL cells slots L g X Z pc vs st := by
  refine j_callS G cv hlk hown hM hd hR hcs hst hn hrest (fun v L1 g1 X1 Z1 h => ?_)
  obtain ⟨r, rfl, h2, rfl, rfl, rfl⟩ := h
  exact kk r _ h2
theorem j_cVVZ (G : GG p l s m args meth c D cys ad A cc own nL) {y : MethodName} {cc1 : ByteArray} {nL1 n fr lo idx : Nat} {ret : Option FieldType} {As rest : List Value} {P : ZT → Prop} {k : Nat} {i : Int} {ci : Nat} {fs : List Value} {q1 : vw_C}
    (cv : CV y cc1 nL1 ret n) (hlk : Cond.methodLink own idx y ∈ TW) (hM : CM l D cys ad y cc1 nL1 ret fr lo 0 0 (.ref (ad k i) :: As) L g X Z (PVZ L g X Z P)) (hd : decode cc pc = .ok (.invokevirtual idx, 3))
    (hR : fr + 1 ≤ R.frames ∧ 8 + (nL1 + 11) + lo ≤ R.locals) (hcs : cells ≤ R.cells ∧ slots ≤ R.slots) (hst : st = As.reverse ++ .ref (ad k i) :: rest) (hn : As.length = n) (hrest : (rest.map fun v => v.category).sum ≤ 8)
    (hv : vd k i) (hc : cC cys ad k i X (Z k i) = .inr (ci, fs)) (hq1 : vwCl[ci]? = some q1) (hq2 : q1.1 = y.cls) (kk : ∀ Z1 : ZT, P Z1 → JJ p l e R s m args below meth c D cys ad A Q nL cells slots L g X Z1 (pc + 3) vs rest) : JJ p l e R s m args below meth c D cys ad A Q nL cells slots L g X Z pc vs st := by
  refine j_callV G cv hlk hM hd hR hcs hst hn hrest hv hc hq1 hq2 (fun v L1 g1 X1 Z1 h => ?_)
  obtain ⟨rfl, h2, rfl, rfl, rfl⟩ := h
  exact kk _ h2
theorem j_cSVZ (G : GG p l s m args meth c D cys ad A cc own nL) {y : MethodName} {cc1 : ByteArray} {nL1 n fr lo idx : Nat} {ret : Option FieldType} {As rest : List Value} {P : ZT → Prop}
    (cv : CS y cc1 nL1 ret n) (hlk : Cond.methodLink own idx y ∈ TW) (hown : y.cls = own) (hM : CM l D cys ad y cc1 nL1 ret fr lo 0 0 As L g X Z (PVZ L g X Z P)) (hd : decode cc pc = .ok (.invokestatic idx, 3))
    (hR : fr + 1 ≤ R.frames ∧ 8 + (nL1 + 11) + lo ≤ R.locals) (hcs : cells ≤ R.cells ∧ slots ≤ R.slots) (hst : st = As.reverse ++ rest) (hn : As.length = n) (hrest : (rest.map fun v => v.category).sum ≤ 8) (kk : ∀ Z1 : ZT, P Z1 → JJ p l e R s m args below meth c D cys ad A Q nL cells slots L g X Z1 (pc + 3) vs rest) : JJ p l e R s m args below meth c D cys ad A Q nL cells slots L g X Z pc vs st := by
  refine j_callS G cv hlk hown hM hd hR hcs hst hn hrest (fun v L1 g1 X1 Z1 h => ?_)
  obtain ⟨rfl, h2, rfl, rfl, rfl⟩ := h
  exact kk _ h2
theorem j_cVR (G : GG p l s m args meth c D cys ad A cc own nL) {y : MethodName} {cc1 : ByteArray} {nL1 n fr lo idx : Nat} {ret : Option FieldType} {As rest : List Value} {P : Nat → Prop} {k : Nat} {i : Int} {ci : Nat} {fs : List Value} {q1 : vw_C}
    (cv : CV y cc1 nL1 ret n) (hlk : Cond.methodLink own idx y ∈ TW) (hM : CM l D cys ad y cc1 nL1 ret fr lo 0 0 (.ref (ad k i) :: As) L g X Z (PR L g X Z P)) (hd : decode cc pc = .ok (.invokevirtual idx, 3))
    (hR : fr + 1 ≤ R.frames ∧ 8 + (nL1 + 11) + lo ≤ R.locals) (hcs : cells ≤ R.cells ∧ slots ≤ R.slots) (hst : st = As.reverse ++ .ref (ad k i) :: rest) (hn : As.length = n) (hrest : (rest.map fun v => v.category).sum ≤ 8)
    (hv : vd k i) (hc : cC cys ad k i X (Z k i) = .inr (ci, fs)) (hq1 : vwCl[ci]? = some q1) (hq2 : q1.1 = y.cls) (kk : ∀ r : Nat, P r → JJ p l e R s m args below meth c D cys ad A Q nL cells slots L g X Z (pc + 3) vs (.ref r :: rest)) : JJ p l e R s m args below meth c D cys ad A Q nL cells slots L g X Z pc vs st := by
  refine j_callV G cv hlk hM hd hR hcs hst hn hrest hv hc hq1 hq2 (fun v L1 g1 X1 Z1 h => ?_)
  obtain ⟨r, rfl, h2, rfl, rfl, rfl, rfl⟩ := h
  exact kk r h2
theorem j_cSR (G : GG p l s m args meth c D cys ad A cc own nL) {y : MethodName} {cc1 : ByteArray} {nL1 n fr lo idx : Nat} {ret : Option FieldType} {As rest : List Value} {P : Nat → Prop}
    (cv : CS y cc1 nL1 ret n) (hlk : Cond.methodLink own idx y ∈ TW) (hown : y.cls = own) (hM : CM l D cys ad y cc1 nL1 ret fr lo 0 0 As L g X Z (PR L g X Z P)) (hd : decode cc pc = .ok (.invokestatic idx, 3))
    (hR : fr + 1 ≤ R.frames ∧ 8 + (nL1 + 11) + lo ≤ R.locals) (hcs : cells ≤ R.cells ∧ slots ≤ R.slots) (hst : st = As.reverse ++ rest) (hn : As.length = n) (hrest : (rest.map fun v => v.category).sum ≤ 8) (kk : ∀ r : Nat, P r → JJ p l e R s m args below meth c D cys ad A Q nL cells slots L g X Z (pc + 3) vs (.ref r :: rest)) : JJ p l e R s m args below meth c D cys ad A Q nL cells slots L g X Z pc vs st := by
  refine j_callS G cv hlk hown hM hd hR hcs hst hn hrest (fun v L1 g1 X1 Z1 h => ?_)
  obtain ⟨r, rfl, h2, rfl, rfl, rfl, rfl⟩ := h
  exact kk r h2
theorem j_cVJ (G : GG p l s m args meth c D cys ad A cc own nL) {y : MethodName} {cc1 : ByteArray} {nL1 n fr lo idx : Nat} {ret : Option FieldType} {As rest : List Value} {P : Int64 → Prop} {k : Nat} {i : Int} {ci : Nat} {fs : List Value} {q1 : vw_C}
    (cv : CV y cc1 nL1 ret n) (hlk : Cond.methodLink own idx y ∈ TW) (hM : CM l D cys ad y cc1 nL1 ret fr lo 0 0 (.ref (ad k i) :: As) L g X Z (PJ L g X Z P)) (hd : decode cc pc = .ok (.invokevirtual idx, 3))
    (hR : fr + 1 ≤ R.frames ∧ 8 + (nL1 + 11) + lo ≤ R.locals) (hcs : cells ≤ R.cells ∧ slots ≤ R.slots) (hst : st = As.reverse ++ .ref (ad k i) :: rest) (hn : As.length = n) (hrest : (rest.map fun v => v.category).sum ≤ 8)
    (hv : vd k i) (hc : cC cys ad k i X (Z k i) = .inr (ci, fs)) (hq1 : vwCl[ci]? = some q1) (hq2 : q1.1 = y.cls) (kk : ∀ r : Int64, P r → JJ p l e R s m args below meth c D cys ad A Q nL cells slots L g X Z (pc + 3) vs (.long r :: rest)) : JJ p l e R s m args below meth c D cys ad A Q nL cells slots L g X Z pc vs st := by
  refine j_callV G cv hlk hM hd hR hcs hst hn hrest hv hc hq1 hq2 (fun v L1 g1 X1 Z1 h => ?_)
  obtain ⟨r, rfl, h2, rfl, rfl, rfl, rfl⟩ := h
  exact kk r h2
theorem j_cSJ (G : GG p l s m args meth c D cys ad A cc own nL) {y : MethodName} {cc1 : ByteArray} {nL1 n fr lo idx : Nat} {ret : Option FieldType} {As rest : List Value} {P : Int64 → Prop}
    (cv : CS y cc1 nL1 ret n) (hlk : Cond.methodLink own idx y ∈ TW) (hown : y.cls = own) (hM : CM l D cys ad y cc1 nL1 ret fr lo 0 0 As L g X Z (PJ L g X Z P)) (hd : decode cc pc = .ok (.invokestatic idx, 3))
    (hR : fr + 1 ≤ R.frames ∧ 8 + (nL1 + 11) + lo ≤ R.locals) (hcs : cells ≤ R.cells ∧ slots ≤ R.slots) (hst : st = As.reverse ++ rest) (hn : As.length = n) (hrest : (rest.map fun v => v.category).sum ≤ 8) (kk : ∀ r : Int64, P r → JJ p l e R s m args below meth c D cys ad A Q nL cells slots L g X Z (pc + 3) vs (.long r :: rest)) : JJ p l e R s m args below meth c D cys ad A Q nL cells slots L g X Z pc vs st := by
  refine j_callS G cv hlk hown hM hd hR hcs hst hn hrest (fun v L1 g1 X1 Z1 h => ?_)
  obtain ⟨r, rfl, h2, rfl, rfl, rfl, rfl⟩ := h
  exact kk r h2
theorem j_cVJZ (G : GG p l s m args meth c D cys ad A cc own nL) {y : MethodName} {cc1 : ByteArray} {nL1 n fr lo idx : Nat} {ret : Option FieldType} {As rest : List Value} {P : Int64 → ZT → Prop} {k : Nat} {i : Int} {ci : Nat} {fs : List Value} {q1 : vw_C}
    (cv : CV y cc1 nL1 ret n) (hlk : Cond.methodLink own idx y ∈ TW) (hM : CM l D cys ad y cc1 nL1 ret fr lo 0 0 (.ref (ad k i) :: As) L g X Z (PJZ L g X Z P)) (hd : decode cc pc = .ok (.invokevirtual idx, 3))
    (hR : fr + 1 ≤ R.frames ∧ 8 + (nL1 + 11) + lo ≤ R.locals) (hcs : cells ≤ R.cells ∧ slots ≤ R.slots) (hst : st = As.reverse ++ .ref (ad k i) :: rest) (hn : As.length = n) (hrest : (rest.map fun v => v.category).sum ≤ 8)
    (hv : vd k i) (hc : cC cys ad k i X (Z k i) = .inr (ci, fs)) (hq1 : vwCl[ci]? = some q1) (hq2 : q1.1 = y.cls) (kk : ∀ (r : Int64) (Z1 : ZT), P r Z1 → JJ p l e R s m args below meth c D cys ad A Q nL cells slots L g X Z1 (pc + 3) vs (.long r :: rest)) : JJ p l e R s m args below meth c D cys ad A Q nL cells slots L g X Z pc vs st := by
  refine j_callV G cv hlk hM hd hR hcs hst hn hrest hv hc hq1 hq2 (fun v L1 g1 X1 Z1 h => ?_)
  obtain ⟨r, rfl, h2, rfl, rfl, rfl⟩ := h
  exact kk r _ h2
theorem j_cSJZ (G : GG p l s m args meth c D cys ad A cc own nL) {y : MethodName} {cc1 : ByteArray} {nL1 n fr lo idx : Nat} {ret : Option FieldType} {As rest : List Value} {P : Int64 → ZT → Prop}
    (cv : CS y cc1 nL1 ret n) (hlk : Cond.methodLink own idx y ∈ TW) (hown : y.cls = own) (hM : CM l D cys ad y cc1 nL1 ret fr lo 0 0 As L g X Z (PJZ L g X Z P)) (hd : decode cc pc = .ok (.invokestatic idx, 3))
    (hR : fr + 1 ≤ R.frames ∧ 8 + (nL1 + 11) + lo ≤ R.locals) (hcs : cells ≤ R.cells ∧ slots ≤ R.slots) (hst : st = As.reverse ++ rest) (hn : As.length = n) (hrest : (rest.map fun v => v.category).sum ≤ 8) (kk : ∀ (r : Int64) (Z1 : ZT), P r Z1 → JJ p l e R s m args below meth c D cys ad A Q nL cells slots L g X Z1 (pc + 3) vs (.long r :: rest)) : JJ p l e R s m args below meth c D cys ad A Q nL cells slots L g X Z pc vs st := by
  refine j_callS G cv hlk hown hM hd hR hcs hst hn hrest (fun v L1 g1 X1 Z1 h => ?_)
  obtain ⟨r, rfl, h2, rfl, rfl, rfl⟩ := h
  exact kk r _ h2
variable {L0 : List Nat} {g0 : Nat → va_E} {X0 : Int64} {Z0 : ZT} {mc ms : Nat}
theorem j_mono {Q0 : State → Prop} (hQ : ∀ t, Q0 t → Q t) (h : JJ p l e R s m args below meth c D cys ad A Q0 nL cells slots L g X Z pc vs st) : JJ p l e R s m args below meth c D cys ad A Q nL cells slots L g X Z pc vs st := by
  intro H locs ls hL hP hD hS hl T hT Xs
  obtain ⟨t, a, b⟩ := h H locs ls hL hP hD hS hl T hT Xs
  exact ⟨t, a, hQ t b⟩
theorem jr_I (G : GG p l s m args meth c D cys ad A cc own nL) {P : Int → Prop} {r : Int} (hQ : ∀ t, MQ below (Qm D cys ad A (PI L g X Z P)) args s mc ms A t → Q t) (hr : meth.sig.returnType = some .int) (hd : decode cc pc = .ok (.ireturn, 1)) (hc : cells ≤ mc) (hs : slots ≤ ms) (hp : P r) : JJ p l e R s m args below meth c D cys ad A Q nL cells slots L g X Z pc vs [.int (iI r)] :=
  j_mono hQ (jr_int G hr rfl hd hc hs ⟨r, rfl, hp, rfl, rfl, rfl, rfl⟩)
theorem jr_B (G : GG p l s m args meth c D cys ad A cc own nL) {P : Int → Prop} {r : Int} (hQ : ∀ t, MQ below (Qm D cys ad A (PI L g X Z P)) args s mc ms A t → Q t) (hr : meth.sig.returnType = some .boolean) (hd : decode cc pc = .ok (.ireturn, 1)) (hc : cells ≤ mc) (hs : slots ≤ ms) (hb : r = 0 ∨ r = 1) (hp : P r) : JJ p l e R s m args below meth c D cys ad A Q nL cells slots L g X Z pc vs [.int (iI r)] :=
  j_mono hQ (jr_int G hr (by rcases hb with rfl | rfl <;> decide +kernel) hd hc hs ⟨r, rfl, hp, rfl, rfl, rfl, rfl⟩)
theorem jr_IZ (G : GG p l s m args meth c D cys ad A cc own nL) {P : Int → ZT → Prop} {r : Int} (hQ : ∀ t, MQ below (Qm D cys ad A (PIZ L g X Z0 P)) args s mc ms A t → Q t) (hr : meth.sig.returnType = some .int) (hd : decode cc pc = .ok (.ireturn, 1)) (hc : cells ≤ mc) (hs : slots ≤ ms) (hp : P r Z) : JJ p l e R s m args below meth c D cys ad A Q nL cells slots L g X Z pc vs [.int (iI r)] :=
  j_mono hQ (jr_int G hr rfl hd hc hs ⟨r, rfl, hp, rfl, rfl, rfl⟩)
theorem jr_BZ (G : GG p l s m args meth c D cys ad A cc own nL) {P : Int → ZT → Prop} {r : Int} (hQ : ∀ t, MQ below (Qm D cys ad A (PIZ L g X Z0 P)) args s mc ms A t → Q t) (hr : meth.sig.returnType = some .boolean) (hd : decode cc pc = .ok (.ireturn, 1)) (hc : cells ≤ mc) (hs : slots ≤ ms) (hb : r = 0 ∨ r = 1) (hp : P r Z) : JJ p l e R s m args below meth c D cys ad A Q nL cells slots L g X Z pc vs [.int (iI r)] :=
  j_mono hQ (jr_int G hr (by rcases hb with rfl | rfl <;> decide +kernel) hd hc hs ⟨r, rfl, hp, rfl, rfl, rfl⟩)
theorem jr_VZ (G : GG p l s m args meth c D cys ad A cc own nL) {P : ZT → Prop} (hQ : ∀ t, MQ below (Qm D cys ad A (PVZ L g X Z0 P)) args s mc ms A t → Q t) (hr : meth.sig.returnType = none) (hd : decode cc pc = .ok (.return_, 1)) (hc : cells ≤ mc) (hs : slots ≤ ms) (hp : P Z) : JJ p l e R s m args below meth c D cys ad A Q nL cells slots L g X Z pc vs [] :=
  j_mono hQ (jr_void G hr hd hc hs ⟨rfl, hp, rfl, rfl, rfl⟩)
theorem jr_R (G : GG p l s m args meth c D cys ad A cc own nL) {P : Nat → Prop} {r : Nat} (hQ : ∀ t, MQ below (Qm D cys ad A (PR L g X Z P)) args s mc ms A t → Q t) {ty : FieldType} (hr : meth.sig.returnType = some ty) (hty : (∃ n, ty = .object n) ∨ ∃ t, ty = .array t) (hd : decode cc pc = .ok (.areturn, 1)) (hc : cells ≤ mc) (hs : slots ≤ ms) (hp : P r) : JJ p l e R s m args below meth c D cys ad A Q nL cells slots L g X Z pc vs [.ref r] :=
  j_mono hQ (jr_ref G hr hty hd hc hs ⟨r, rfl, hp, rfl, rfl, rfl, rfl⟩)
theorem jr_J (G : GG p l s m args meth c D cys ad A cc own nL) {P : Int64 → Prop} {r : Int64} (hQ : ∀ t, MQ below (Qm D cys ad A (PJ L g X Z P)) args s mc ms A t → Q t) (hr : meth.sig.returnType = some .long) (hd : decode cc pc = .ok (.lreturn, 1)) (hc : cells ≤ mc) (hs : slots ≤ ms) (hp : P r) : JJ p l e R s m args below meth c D cys ad A Q nL cells slots L g X Z pc vs [.long r] :=
  j_mono hQ (jr_long G hr hd hc hs ⟨r, rfl, hp, rfl, rfl, rfl, rfl⟩)
theorem jr_JZ (G : GG p l s m args meth c D cys ad A cc own nL) {P : Int64 → ZT → Prop} {r : Int64} (hQ : ∀ t, MQ below (Qm D cys ad A (PJZ L g X Z0 P)) args s mc ms A t → Q t) (hr : meth.sig.returnType = some .long) (hd : decode cc pc = .ok (.lreturn, 1)) (hc : cells ≤ mc) (hs : slots ≤ ms) (hp : P r Z) : JJ p l e R s m args below meth c D cys ad A Q nL cells slots L g X Z pc vs [.long r] :=
  j_mono hQ (jr_long G hr hd hc hs ⟨r, rfl, hp, rfl, rfl, rfl⟩)
/-- Math.max of two ints -/
theorem j_max (G : GG p l s m args meth c D cys ad A cc own nL) {a b : Int} {idx : Nat} (hlink : Cond.methodLink own idx Lib.Math.max.name ∈ TW) (h1 : Cond.static Lib.Math.max.name ∈ TW) (h2 : Cond.initialized "java/lang/Math" ∈ TW) (h3 : Cond.code Lib.Math.max.name Lib.Math.max.code 2 (some .int) ∈ TW) (hd : decode cc pc = .ok (.invokestatic idx, 3)) (hf : 1 ≤ R.frames) (hlo : (st.map fun v => v.category).sum + 13 ≤ R.locals) (hc : cells ≤ R.cells) (hs : slots ≤ R.slots) (ha : inR a) (hb : inR b)
    (kk : JJ p l e R s m args below meth c D cys ad A Q nL cells slots L g X Z (pc + 3) vs (.int (iI (if a < b then b else a)) :: st)) : JJ p l e R s m args below meth c D cys ad A Q nL cells slots L g X Z pc vs (.int (iI b) :: .int (iI a) :: st) := by
  intro H locs ls hL hP hD hS hl
  refine va_mmax G.x G.b (by rw [G.ml]; exact hl.1.symm) G.ow (G.ts _ hlink) (G.ts _ h1) (G.ts _ h2) (G.ts _ h3) hf hlo hc hs hd ?_
  have e : (if iI a < iI b then iI b else iI a) = iI (if a < b then b else a) := by
    by_cases h : a < b
    · rw [if_pos ((iI_lt ha hb).mpr h), if_pos h]
    · rw [if_neg (fun z => h ((iI_lt ha hb).mp z)), if_neg h]
  rw [e]
  exact kk H locs ls hL hP hD hS hl
/-- a long is stored: its second half's place is no int's any more -/
def sto2 (vs : List (Nat × Value)) (i : Nat) (v : Value) : List (Nat × Value) := sto (vs.filter (fun q => !(q.1 == i + 1))) i v
theorem sto2_has {ls : Array Slot} {vs : List (Nat × Value)} {i : Nat} {v : Value} (h : lv_has ls nL ((i, v) :: vs.filter (fun q => !(q.1 == i) && (!(q.1 == i + 1) && !(q.1 + 1 == i && q.2.category == 2))))) (h2 : no2 vs i = true) : lv_has ls nL (sto2 vs i v) := by
  refine sto_has (vs := vs.filter (fun q => !(q.1 == i + 1))) ⟨h.1, h.2.1, fun q hq => h.2.2 q ?_⟩ ?_
  · rcases List.mem_cons.mp hq with e | hq
    · rw [e]; exact List.mem_cons_self
    · obtain ⟨a, b⟩ := List.mem_filter.mp hq
      obtain ⟨a1, a2⟩ := List.mem_filter.mp a
      refine List.mem_cons_of_mem _ (List.mem_filter.mpr ⟨a1, ?_⟩)
      rw [Bool.and_eq_true] at b ⊢
      exact ⟨b.1, by rw [Bool.and_eq_true]; exact ⟨a2, b.2⟩⟩
  · refine List.all_eq_true.mpr (fun q hq => ?_)
    exact List.all_eq_true.mp h2 q (List.mem_filter.mp hq).1
theorem j_lstore_n (G : GG p l s m args meth c D cys ad A cc own nL) {k : Fin 4} {x : Int64} (hd : decode cc pc = .ok (.lstore_n k, 1)) (hn : (k : Nat) + 1 < nL) (h2 : no2 vs k = true) (kk : JJ p l e R s m args below meth c D cys ad A Q nL cells slots L g X Z (pc + 1) (sto2 vs k (.long x)) st) : JJ p l e R s m args below meth c D cys ad A Q nL cells slots L g X Z pc vs (.long x :: st) :=
  fun H locs ls hL hP hD hS hl => lv_lstore_n G.x G.b hd rfl hl hn rfl (fun ls' hl' => kk H locs ls' hL hP hD hS (sto2_has hl' h2))
theorem j_lstore (G : GG p l s m args meth c D cys ad A cc own nL) {k : Nat} {x : Int64} (hd : decode cc pc = .ok (.lstore k, 2)) (hn : k + 1 < nL) (h2 : no2 vs k = true) (kk : JJ p l e R s m args below meth c D cys ad A Q nL cells slots L g X Z (pc + 2) (sto2 vs k (.long x)) st) : JJ p l e R s m args below meth c D cys ad A Q nL cells slots L g X Z pc vs (.long x :: st) :=
  fun H locs ls hL hP hD hS hl => lv_lstore G.x G.b hd hl hn rfl (fun ls' hl' => kk H locs ls' hL hP hD hS (sto2_has hl' h2))
theorem j_ldc2 (G : GG p l s m args meth c D cys ad A cc own nL) {idx : Nat} {v : Int64} (hd : decode cc pc = .ok (.ldc2_w idx, 3)) (hk : Cond.constantLong own idx v ∈ TW) (kk : JJ p l e R s m args below meth c D cys ad A Q nL cells slots L g X Z (pc + 3) vs (.long v :: st)) : JJ p l e R s m args below meth c D cys ad A Q nL cells slots L g X Z pc vs st :=
  fun H locs ls hL hP hD hS hl => lv_ldc2 G.x G.b G.ow (G.ts _ hk) hd (kk H locs ls hL hP hD hS hl)
end CTS
