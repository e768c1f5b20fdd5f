/-! methods that catch: the law's act and isTableWhole -/
def CW (l : Launch) (D : va_G) (cys : Nat → ClassId) (ad : Nat → Int → Nat) (y : MethodName) (cc : ByteArray) (nL : Nat) (ret : Option FieldType) (hh : List (Nat × Nat × Nat × Nat)) (fr lo mc ms : Nat) (av : List Value) (L : List Nat) (g : Nat → va_E) (X : Int64) (Z : ZT) (post : PT) : Prop :=
  ∀ sz : Nat, Met l y (.codeWith y cc nL ret hh :: TW) ({ frames := fr, cells := mc, slots := ms, locals := lo }) (va_Pc av (WU D cys ad L g X Z sz)) (Qm D cys ad (va_A (MW cys ad L g X Z) sz) post) mc ms (va_A (MW cys ad L g X Z) sz)
theorem met_ofWH {l : Launch} {y : MethodName} {ws ws' : List Cond} {rm : Room} {Pc : Array Value → State → Prop} {Qc : Array Value → State → Outcome → State → Prop} {mc ms : Nat} {free : Addr → Prop} {cc : ByteArray} {maxL : Nat} {ret : Option FieldType} {hh : List (Nat × Nat × Nat × Nat)}
    (hy : plainName y.cls = true) (hw : ws = Cond.codeWith y cc maxL ret hh :: ws')
    (body : ∀ p e s m args below meth c s₁, BodyLoose p l y (headSpec ws rm) cc maxL ret e s m args below meth c s₁ → c.maxLocals = maxL → Pc args s →
      W p l e (headSpec ws rm).room s m args below meth c s.heap [] 0 0 (MQ below Qc args s mc ms free) (entryFrame m args maxL)) : Met l y ws rm Pc Qc mc ms free := by
  refine MetFree.of_bodyS (code := cc) (maxLocals := maxL) (ret := ret) hy ?_ ?_
  · intro args s m h hn
    obtain ⟨m9, meth, c, hn9, h1, h2, h3, h4, -, h5, h6, -⟩ := Cond.codeWith_spec (atoms_spec (ws := ws) h _ (by rw [hw]; exact List.mem_cons_self))
    cases hn.symm.trans hn9
    exact ⟨meth, c, h1, h2, h3, h4, h5, h6⟩
  · intro p e s m args below meth c s₁ B hml hP _
    have hh0 : s₁.heap = s.heap := by rw [B.state]; rfl
    obtain ⟨t, a1, o, b1, b2, b3⟩ := body p e s m args below meth c s₁ B hml hP s₁ hh0 (Stand.of_body B)
    exact ⟨t, o, a1, b1, b2, b3⟩
section WRS
variable {p : Program} {l : Launch} {e : Env} {R : Room} {s : State} {m : MethodId} {args : Array Value} {below : List Frame} {meth : Method} {c : Code} {Q : State → Prop}
variable {D : va_G} {cys : Nat → ClassId} {ad : Nat → Int → Nat} {A : Nat → Prop} {cc : ByteArray} {own : String} {nL : Nat} {cells slots : Nat} {L : List Nat} {g : Nat → va_E} {X : Int64} {Z : ZT} {pc : Nat} {vs : List (Nat × Value)} {st : List Value}
theorem cw_start {y : MethodName} {ret : Option FieldType} {hh : List (Nat × Nat × Nat × Nat)} {fr lo mc ms : Nat} {av : List Value} {post : PT} (hi : injA ad) (hy : plainName y.cls = true) (hn : (lg_sl av).length ≤ nL)
    (body : ∀ (p : Program) (e : Env) (s : State) (m : MethodId) (args : Array Value) (below : List Frame) (meth : Method) (c : Code) (A : Nat → Prop) (Q : State → Prop), (∀ t, MQ below (Qm D cys ad A post) args s mc ms A t → Q t) → GG p l s m args meth c D cys ad A cc y.cls nL → meth.sig.returnType = ret → c.exceptionTable.toList = tableOf hh →
      JJ p l e { frames := fr, cells := mc, slots := ms, locals := lo } s m args below meth c D cys ad A Q nL 0 0 L g X Z 0 (lv_args 0 av) []) : CW l D cys ad y cc nL ret hh fr lo mc ms av L g X Z post := by
  intro sz
  refine met_ofWH (cc := cc) (maxL := nL) (ret := ret) hy rfl ?_
  intro p e s m args below meth c s₁ B hml hv
  obtain ⟨rfl, hsz, hSL, hP, hK, hD0, hA0⟩ := hv
  subst hsz
  have hts := atoms_spec (ws := Cond.codeWith y cc nL ret hh :: TW) B.pre
  have hown : s.vm.findClass y.cls = some m.cls := findClass_of_methodNamed B.named
  have hD := hD0.self (sz := s.heap.size)
  rw [lg_entry_eq]
  exact body p e s m _ below meth c _ _ (fun _ h => h) ⟨B.exec, B.bytes, hml, hown, fun w hw => hts w (List.mem_cons_of_mem _ hw), hK, B.notSynchronized, fun q h => Or.inr h, hi, hA0⟩ B.returns (vx_table (x := y) B (hts _ List.mem_cons_self))
    s.heap [] _ hSL hP hD va_S.rf (lv_entry av hn)
theorem j_callVC (G : GG p l s m args meth c D cys ad A cc own nL) {y : MethodName} {cc1 : ByteArray} {nL1 n fr lo mc1 ms1 idx : Nat} {ret : Option FieldType} {As rest : List Value} {k : Nat} {i : Int} {ci : Nat} {fs : List Value} {q1 : vw_C} {postc : PT} {pxc : PX}
    (cv : CV y cc1 nL1 ret n) (hlk : Cond.methodLink own idx y ∈ TW) (hM : CX l D cys ad y cc1 nL1 ret fr lo mc1 ms1 (.ref (ad k i) :: As) L g X Z postc pxc) (hd : decode cc pc = .ok (.invokevirtual idx, 3))
    (hR : fr + 1 ≤ R.frames ∧ 8 + (nL1 + 11) + lo ≤ R.locals) (hcs : cells + mc1 ≤ R.cells ∧ slots + ms1 ≤ R.slots) (hst : st = As.reverse ++ .ref (ad k i) :: rest) (hn : As.length = n) (hrest : (rest.map fun v => v.category).sum ≤ 8)
    (hv : vd k i) (hc : cC cys ad k i X (Z k i) = .inr (ci, fs)) (hq1 : vwCl[ci]? = some q1) (hq2 : q1.1 = y.cls)
    (kx : ∀ (E : String) (L1 : List Nat) (g1 : Nat → va_E) (X1 : Int64) (Z1 : ZT), pxc E L1 g1 X1 Z1 → ∃ (name : String) (pre : List ExceptionTableEntry) (x : ExceptionTableEntry) (suf : List ExceptionTableEntry), c.exceptionTable.toList = pre ++ x :: suf ∧ (∀ z ∈ pre, covers z pc = false ∨ (z.catchType ≠ 0 ∧ ∃ nm : String, Cond.classLink own z.catchType nm ∈ TW ∧ va_Nc E nm s)) ∧ covers x pc = true ∧ x.catchType ≠ 0 ∧ Cond.classLink own x.catchType name ∈ TW ∧ Cond.castable E name ∈ NGL ∧ ∀ q : Nat, JJ p l e R s m args below meth c D cys ad A Q nL (cells + mc1) (slots + ms1) L1 g1 X1 Z1 x.handlerPc vs [.ref q])
    (kk : ∀ (v : Option Value) (L1 : List Nat) (g1 : Nat → va_E) (X1 : Int64) (Z1 : ZT), postc v L1 g1 X1 Z1 → JJ p l e R s m args below meth c D cys ad A Q nL (cells + mc1) (slots + ms1) L1 g1 X1 Z1 (pc + 3) vs (v.toList ++ rest)) :
    JJ p l e R s m args below meth c D cys ad A Q nL cells slots L g X Z pc vs st := by
  intro H locs ls hL hP hD hS hl
  obtain ⟨c1, c2, c3, c4, c5, c6, c7⟩ := cv
  obtain ⟨q, hq⟩ := mw_get G.inj hL hv hc
  have hG : GoodIn TW (wsV own idx y.cls y (.code y cc1 nL1 ret :: TW)) := TW_sub (fun w hw => by
    rcases List.mem_append.mp hw with h | h
    · simp only [List.mem_cons, List.not_mem_nil, or_false] at h
      rcases h with rfl | rfl | rfl | rfl <;> assumption
    · rcases List.mem_cons.mp h with rfl | h
      · exact c4
      · exact h)
  have h9 := va_recv G.K hP hq1 hq
  rw [hq2] at h9
  have hr := vx_runV (p := p) (l := l) (e := e) (R := R) (s := s) (m := m) (args := args) (below := below) (meth := meth) (c := c) (H := H) (locs := locs) (cells := cells) (slots := slots) (C := y.cls) (As := As) (rest := rest) (b := ad k i) (g := F0 m pc ls st) ⟨G.x, G.b, G.ml, G.ow, G.ts⟩ (hM H.size) (cwV (bytes := cc1) (maxL := nL1) (ret := ret) (ws' := TW) n G.ts hG rfl rfl rfl ⟨rfl, c5, c6, c7⟩ hR) ⟨WU.blind, h9, fun U hU hW => ⟨rfl, wu_call G hL hP hD hS hU hW⟩⟩ rfl hn hl.1 hst (lv_room hrest) hd hcs
  have hAA : ∀ q, va_A (MW cys ad L g X Z) H.size q → A q := by
    intro q hq
    rcases hq with ⟨k, x, hk⟩ | hq
    · exact hD.2 k (q, x) hk
    · exact G.fr q (Nat.le_trans hS.1 hq)
  intro T hT Xs
  rcases hr T hT Xs with ⟨v, st₀, t, T', L0, h0, X', hL0, e1, e2, ⟨⟨v', L1, g1, X1, Z1, hv, hp, hL1, hP1, hD1⟩, hz, hk⟩, stp⟩ | ⟨q, st₀, t, T', L0, E, ce, h0, X', hL0, e1, e2, ⟨⟨L1, g1, X1, Z1, hp, hL1, hP1, hD1⟩, hz, hk⟩, hce, hcv, hcl, stp⟩
  · cases hv
    rw [h0] at hz hk
    obtain ⟨t2, a1, b1⟩ := kk v L1 g1 X1 Z1 hp T'.heap (locs ++ L0) ls hL1 (by rw [e1]; exact hP1) (hD1.weaken (fun _ _ _ h => hAA _ h))
      ⟨Nat.le_trans hS.1 (by rw [e1]; exact hz), fun q h1 h2 => by rw [e1, hk q (Nat.lt_of_lt_of_le h1 hS.1) (fun z => h2 (hAA q z))]; exact hS.2.1 q h1 h2, fun q hq => by
        rcases List.mem_append.mp hq with h | h
        · exact hS.2.2 q h
        · exact hAA _ (hL0 q h)⟩ hl T' rfl X'
    exact ⟨t2, stp t2 a1, b1⟩
  · rw [h0] at hz hk
    have hS1 : va_S A s.heap T'.heap (locs ++ L0) := ⟨Nat.le_trans hS.1 (by rw [e1]; exact hz), fun q h1 h2 => by rw [e1, hk q (Nat.lt_of_lt_of_le h1 hS.1) (fun z => h2 (hAA q z))]; exact hS.2.1 q h1 h2, fun q hq => by
        rcases List.mem_append.mp hq with h | h
        · exact hS.2.2 q h
        · exact hAA _ (hL0 q h)⟩
    obtain ⟨name, pre, x, suf, x1, x2, x3, x4, x5, x6, x7⟩ := kx E L1 g1 X1 Z1 hp
    have hcast : (Cond.castable E name).before args s = true := va_Nw.use rfl (G.amb.2.2.1 _ x6)
    have ho := vx_catch (p := p) (l := l) (e := e) (R := R) (s := s) (m := m) (args := args) (below := below) (meth := meth) (c := c) (H := T'.heap) (locs := locs ++ L0) (cells := cells + mc1) (slots := slots + ms1) (Q := Q) (ls := ls) (rest := rest) (pc := pc) (E := E) (ce := ce) (q := q) G.ow pre x suf x1
      (fun z hz => (x2 z hz).imp id (fun w => ⟨w.1, w.2.imp (fun nm w2 => ⟨G.ts _ w2.1, w2.2⟩)⟩)) x3 x4 (G.ts _ x5) hcast (by rw [e1]; exact hce) hcv hcl
      (x7 q T'.heap (locs ++ L0) ls hL1 (by rw [e1]; exact hP1) (hD1.weaken (fun _ _ _ h => hAA _ h)) hS1 hl)
    obtain ⟨t2, a1, b1⟩ := ho T' rfl X'
    exact ⟨t2, stp.trans a1, b1⟩
theorem j_c1 (G : GG p l s m args meth c D cys ad A cc own nL) {y : MethodName} {cc1 : ByteArray} {nL1 n fr lo mc1 ms1 idx : Nat} {ret : Option FieldType} {As rest : List Value} {k : Nat} {i : Int} {ci : Nat} {fs : List Value} {q1 : vw_C} {postc : PT} {P8 : String → ZT → Prop} {PP : Int → ZT → Prop} {x1 : ExceptionTableEntry} {n1 : String} (hT : c.exceptionTable.toList = [x1]) (hcov : covers x1 pc = true) (h0 : x1.catchType ≠ 0) (hl1 : Cond.classLink own x1.catchType n1 ∈ TW) (hca : Cond.castable n1 n1 ∈ NGL)
    (cv : CV y cc1 nL1 ret n) (hlk : Cond.methodLink own idx y ∈ TW) (hM : CX l D cys ad y cc1 nL1 ret fr lo mc1 ms1 (.ref (ad k i) :: As) L g X Z postc (PXZ L g X P8)) (hd : decode cc pc = .ok (.invokevirtual idx, 3))
    (hR : fr + 1 ≤ R.frames ∧ 8 + (nL1 + 11) + lo ≤ R.locals) (hcs : cells + mc1 ≤ R.cells ∧ slots + ms1 ≤ R.slots) (hst : st = As.reverse ++ .ref (ad k i) :: rest) (hn : As.length = n) (hrest : (rest.map fun v => v.category).sum ≤ 8)
    (hv : vd k i) (hc : cC cys ad k i X (Z k i) = .inr (ci, fs)) (hq1 : vwCl[ci]? = some q1) (hq2 : q1.1 = y.cls)
    (hE : ∀ E Z1, P8 E Z1 → E = n1) (hpc : ∀ v L1 g1 X1 Z1, postc v L1 g1 X1 Z1 → ∃ r : Int, v = some (.int (iI r)) ∧ PP r Z1 ∧ L1 = L ∧ g1 = g ∧ X1 = X)
    (kx : ∀ (Z1 : ZT) (q : Nat), P8 n1 Z1 → JJ p l e R s m args below meth c D cys ad A Q nL (cells + mc1) (slots + ms1) L g X Z1 x1.handlerPc vs [.ref q])
    (kk : ∀ (r : Int) (Z1 : ZT), PP r Z1 → JJ p l e R s m args below meth c D cys ad A Q nL (cells + mc1) (slots + ms1) L g X Z1 (pc + 3) vs (.int (iI r) :: rest)) :
    JJ p l e R s m args below meth c D cys ad A Q nL cells slots L g X Z pc vs st := by
  refine j_callVC G cv hlk hM hd hR hcs hst hn hrest hv hc hq1 hq2 (fun E L1 g1 X1 Z1 h => ?_) (fun v L1 g1 X1 Z1 h => ?_)
  · obtain ⟨h1, rfl, rfl, rfl⟩ := h
    have e := hE E Z1 h1
    subst e
    exact ⟨_, [], x1, [], hT, fun z hz => absurd hz List.not_mem_nil, hcov, h0, hl1, hca, fun q => kx Z1 q h1⟩
  · obtain ⟨r, rfl, h2, rfl, rfl, rfl⟩ := hpc v L1 g1 X1 Z1 h
    exact kk r Z1 h2
/-- the law calls one of its methods -/
theorem j_callW (G : GG p l s m args meth c D cys ad A cc own nL) {y : MethodName} {cc1 : ByteArray} {nL1 n fr lo mc ms idx : Nat} {ret : Option FieldType} {hh : List (Nat × Nat × Nat × Nat)} {As rest : List Value} {post : PT}
    (c1 : Cond.static y ∈ TW) (c2 : Cond.initialized y.cls ∈ TW) (c3 : Cond.codeWith y cc1 nL1 ret hh ∈ TW) (c4 : y.cls ≠ "java/lang/invoke/MethodHandle" ∧ y.cls ≠ "java/lang/invoke/VarHandle" ∧ (parseMethodDescriptor y.desc).map (fun d => d.parameters.length) = some n) (hlk : Cond.methodLink own idx y ∈ TW)
    (hM : CW l D cys ad y cc1 nL1 ret hh fr lo mc ms As L g X Z post) (hd : decode cc pc = .ok (.invokestatic idx, 3))
    (hR : fr + 1 ≤ R.frames ∧ 8 + (nL1 + 11) + lo ≤ R.locals) (hcs : cells + mc ≤ R.cells ∧ slots + ms ≤ R.slots) (hst : st = As.reverse ++ rest) (hn : As.length = n) (hrest : (rest.map fun v => v.category).sum ≤ 8)
    (kk : ∀ (v : Option Value) (L1 : List Nat) (g1 : Nat → va_E) (X1 : Int64) (Z1 : ZT), post v L1 g1 X1 Z1 → JJ p l e R s m args below meth c D cys ad A Q nL (cells + mc) (slots + ms) L1 g1 X1 Z1 (pc + 3) vs (v.toList ++ rest)) :
    JJ p l e R s m args below meth c D cys ad A Q nL cells slots L g X Z pc vs st := by
  intro H locs ls hL hP hD hS hl
  have hG : GoodIn TW (va_wsS own idx y (.codeWith y cc1 nL1 ret hh :: TW)) := TW_sub (fun w hw => by
    rcases List.mem_append.mp hw with h | h
    · simp only [List.mem_cons, List.not_mem_nil, or_false] at h
      rcases h with rfl | rfl | rfl <;> assumption
    · rcases List.mem_cons.mp h with rfl | h
      · exact c3
      · exact h)
  exact j_run G hL hD hS hl (vx_runSW (As := As) (rest := rest) ⟨G.x, G.b, G.ml, G.ow, G.ts⟩ (hM H.size) (vx_cwSW (bytes := cc1) (maxL := nL1) (ret := ret) (hh := hh) (ws' := TW) n G.ts hG rfl rfl rfl c4 hR) ⟨WU.blind, fun U hU hW => ⟨rfl, wu_call G hL hP hD hS hU hW⟩⟩ rfl hn hl.1 hst (lv_room hrest) hd hcs) kk
def xA1 : ExceptionTableEntry := { startPc := 24, endPc := 417, handlerPc := 420, catchType := 128 }
def xA2 : ExceptionTableEntry := { startPc := 24, endPc := 417, handlerPc := 423, catchType := 130 }
def xA3 : ExceptionTableEntry := { startPc := 24, endPc := 417, handlerPc := 426, catchType := 132 }
/-- a call in act: what it throws is caught, and nothing has changed -/
theorem j_cA (G : GG p l s m args meth c D cys ad A cc RL nL) {y : MethodName} {cc1 : ByteArray} {nL1 n fr lo mc1 ms1 idx : Nat} {ret : Option FieldType} {As rest : List Value} {k : Nat} {i : Int} {ci : Nat} {fs : List Value} {q1 : vw_C} {P8 : String → ZT → Prop} {PP : Int → ZT → Prop} (hT : c.exceptionTable.toList = [xA1, xA2, xA3]) (hcov : covers xA1 pc = true ∧ covers xA2 pc = true ∧ covers xA3 pc = true)
    (cv : CV y cc1 nL1 ret n) (hlk : Cond.methodLink RL idx y ∈ TW) (hM : CX l D cys ad y cc1 nL1 ret fr lo mc1 ms1 (.ref (ad k i) :: As) L g X Z (PIZ L g X Z PP) (PXZ L g X P8)) (hd : decode cc pc = .ok (.invokevirtual idx, 3))
    (hR : fr + 1 ≤ R.frames ∧ 8 + (nL1 + 11) + lo ≤ R.locals) (hcs : cells + mc1 ≤ R.cells ∧ slots + ms1 ≤ R.slots) (hst : st = As.reverse ++ .ref (ad k i) :: rest) (hn : As.length = n) (hrest : (rest.map fun v => v.category).sum ≤ 8)
    (hv : vd k i) (hc : cC cys ad k i X (Z k i) = .inr (ci, fs)) (hq1 : vwCl[ci]? = some q1) (hq2 : q1.1 = y.cls)
    (hE : ∀ E Z1, P8 E Z1 → (E = exI ∨ E = exA ∨ E = exS) ∧ Z1 = Z)
    (kx : ∀ q h : Nat, h = 420 ∨ h = 423 ∨ h = 426 → JJ p l e R s m args below meth c D cys ad A Q nL (cells + mc1) (slots + ms1) L g X Z h vs [.ref q])
    (kk : ∀ (r : Int) (Z1 : ZT), PP r Z1 → JJ p l e R s m args below meth c D cys ad A Q nL (cells + mc1) (slots + ms1) L g X Z1 (pc + 3) vs (.int (iI r) :: rest)) :
    JJ p l e R s m args below meth c D cys ad A Q nL cells slots L g X Z pc vs st := by
  have hN : NCS s := G.amx.2.2.2.2.2.2.2.2.1
  have l1 : Cond.classLink RL 128 exI ∈ TW := TW_of 846 (by decide +kernel) (by decide +kernel)
  have l2 : Cond.classLink RL 130 exA ∈ TW := TW_of 847 (by decide +kernel) (by decide +kernel)
  have l3 : Cond.classLink RL 132 exS ∈ TW := TW_of 848 (by decide +kernel) (by decide +kernel)
  refine j_callVC G cv hlk hM hd hR hcs hst hn hrest hv hc hq1 hq2 (fun E L1 g1 X1 Z1 h => ?_) (fun v L1 g1 X1 Z1 h => ?_)
  · obtain ⟨h1, rfl, rfl, rfl⟩ := h
    obtain ⟨e, rfl⟩ := hE E Z1 h1
    rcases e with rfl | rfl | rfl
    · exact ⟨exI, [], xA1, [xA2, xA3], hT, fun z hz => absurd hz List.not_mem_nil, hcov.1, by decide, l1, List.mem_of_getElem? (i := 0) rfl, fun q => kx q 420 (Or.inl rfl)⟩
    · refine ⟨exA, [xA1], xA2, [xA3], hT, fun z hz => ?_, hcov.2.1, by decide, l2, List.mem_of_getElem? (i := 1) rfl, fun q => kx q 423 (Or.inr (Or.inl rfl))⟩
      rw [List.mem_singleton.mp hz]
      exact Or.inr ⟨by decide, exI, l1, hN (exA, exI) (List.mem_of_getElem? (i := 4) rfl)⟩
    · refine ⟨exS, [xA1, xA2], xA3, [], hT, fun z hz => ?_, hcov.2.2, by decide, l3, List.mem_of_getElem? (i := 2) rfl, fun q => kx q 426 (Or.inr (Or.inr rfl))⟩
      simp only [List.mem_cons, List.not_mem_nil, or_false] at hz
      rcases hz with rfl | rfl
      · exact Or.inr ⟨by decide, exI, l1, hN (exS, exI) (List.mem_of_getElem? (i := 5) rfl)⟩
      · exact Or.inr ⟨by decide, exA, l2, hN (exS, exA) (List.mem_of_getElem? (i := 0) rfl)⟩
  · obtain ⟨r, rfl, h2, rfl, rfl, rfl⟩ := h
    exact kk r Z1 h2
theorem j_tabIn (G : GG p l s m args meth c D cys ad A cc own nL) {dflt lo hi off w : Int} {offs : Array Int} {len : Nat} (tgt : Nat) (hd : decode cc pc = .ok (.tableswitch dflt lo hi offs, len)) (hw : inR w) (h1 : lo ≤ w) (h2 : w ≤ hi) (ho : offs[(w - lo).toNat]? = some off) (ht : (pc : Int) + off = (tgt : Int)) (kk : JJ p l e R s m args below meth c D cys ad A Q nL cells slots L g X Z tgt vs st) : JJ p l e R s m args below meth c D cys ad A Q nL cells slots L g X Z pc vs (.int (iI w) :: st) := by
  intro H locs ls hSL hP hD hS hl
  have e := iI_toInt hw
  exact lv_tableIn G.x G.b hd (by rw [e]; omega) (by rw [e]; omega) (by rw [e]; exact ho) ht (kk H locs ls hSL hP hD hS hl)
theorem j_tabOut (G : GG p l s m args meth c D cys ad A cc own nL) {dflt lo hi w : Int} {offs : Array Int} {len : Nat} (tgt : Nat) (hd : decode cc pc = .ok (.tableswitch dflt lo hi offs, len)) (hw : inR w) (h1 : w < lo ∨ hi < w) (ht : (pc : Int) + dflt = (tgt : Int)) (kk : JJ p l e R s m args below meth c D cys ad A Q nL cells slots L g X Z tgt vs st) : JJ p l e R s m args below meth c D cys ad A Q nL cells slots L g X Z pc vs (.int (iI w) :: st) := by
  intro H locs ls hSL hP hD hS hl
  have e := iI_toInt hw
  exact lv_tableOut G.x G.b hd (by rw [e]; exact h1) ht (kk H locs ls hSL hP hD hS hl)
end WRS
