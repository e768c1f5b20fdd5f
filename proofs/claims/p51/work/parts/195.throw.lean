/-! contracts of methods that throw -/
abbrev PX : Type := String → List Nat → (Nat → va_E) → Int64 → ZT → Prop
def XCm (D : va_G) (cys : Nat → ClassId) (ad : Nat → Int → Nat) (A : Nat → Prop) (px : PX) : String → State → State → Prop := fun E st t =>
  (∃ (L : List Nat) (g : Nat → va_E) (X : Int64) (Z : ZT), px E L g X Z ∧ SL ad L ∧ va_P D vwCl (MW cys ad L g X Z) t.heap ∧ va_D A (MW cys ad L g X Z)) ∧ va_F A st t
def PXZ (L : List Nat) (g : Nat → va_E) (X : Int64) (P : String → ZT → Prop) : PX := fun E L9 g9 X9 Z9 => P E Z9 ∧ L9 = L ∧ g9 = g ∧ X9 = X
def CX (l : Launch) (D : va_G) (cys : Nat → ClassId) (ad : Nat → Int → Nat) (y : MethodName) (cc : ByteArray) (nL : Nat) (ret : Option FieldType) (fr lo mc ms : Nat) (av : List Value) (L : List Nat) (g : Nat → va_E) (X : Int64) (Z : ZT) (post : PT) (px : PX) : Prop :=
  ∀ sz : Nat, vx_Met l y (.code y cc nL ret :: TW) ({ frames := fr, cells := mc, slots := ms, locals := lo }) (va_Pc av (WU D cys ad L g X Z sz)) (Qm D cys ad (va_A (MW cys ad L g X Z) sz) post) (XCm D cys ad (va_A (MW cys ad L g X Z) sz) px) mc ms (va_A (MW cys ad L g X Z) sz)
section CXS
variable {p : Program} {l : Launch} {e : Env} {R : Room} {s : State} {m : MethodId} {args : Array Value} {below : List Frame} {meth : Method} {c : Code} {Q : State → Prop}
variable {D : va_G} {cys : Nat → ClassId} {ad : Nat → Int → Nat} {A : Nat → Prop} {cc : ByteArray} {own : String} {nL : Nat} {cells slots : Nat} {L : List Nat} {g : Nat → va_E} {X : Int64} {Z : ZT} {pc : Nat} {vs : List (Nat × Value)} {st : List Value}
variable {post : PT} {px : PX} {mc ms : Nat}
theorem vq_of (hQX : ∀ t, vx_MQ below (Qm D cys ad A post) (XCm D cys ad A px) args s mc ms A t → Q t) : ∀ t, MQ below (Qm D cys ad A post) args s mc ms A t → Q t := fun t h => hQX t (by
  obtain ⟨o, b1, b2, b3, b4⟩ := h
  exact ⟨o, b1, b2, Or.inl ⟨b3, b4⟩⟩)
theorem cx_start {y : MethodName} {ret : Option FieldType} {fr lo : Nat} {av : List Value} (hi : injA ad) (hy : plainName y.cls = true) (hn : (lg_sl av).length ≤ nL)
    (body : ∀ (p : Program) (e : Env) (s : State) (m : MethodId) (args : Array Value) (below : List Frame) (meth : Method) (c : Code) (A : Nat → Prop) (Q : State → Prop), (∀ t, vx_MQ below (Qm D cys ad A post) (XCm D cys ad A px) args s mc ms A t → Q t) → (∀ x ∈ c.exceptionTable.toList, False) → GG p l s m args meth c D cys ad A cc y.cls nL → meth.sig.returnType = ret →
      JJ p l e { frames := fr, cells := mc, slots := ms, locals := lo } s m args below meth c D cys ad A Q nL 0 0 L g X Z 0 (lv_args 0 av) []) : CX l D cys ad y cc nL ret fr lo mc ms av L g X Z post px := by
  intro sz
  refine vx_ofW (cc := cc) (maxL := nL) (ret := ret) hy rfl ?_
  intro p e s m args below meth c s₁ B hml hE hv
  obtain ⟨rfl, hsz, hSL, hP, hK, hD0, hA0⟩ := hv
  subst hsz
  have hts := atoms_spec (ws := Cond.code y cc nL ret :: TW) B.pre
  have hown : s.vm.findClass y.cls = some m.cls := findClass_of_methodNamed B.named
  have hD := hD0.self (sz := s.heap.size)
  rw [lg_entry_eq]
  exact body p e s m _ below meth c _ _ (fun _ h => h) hE ⟨B.exec, B.bytes, hml, hown, fun w hw => hts w (List.mem_cons_of_mem _ hw), hK, B.notSynchronized, fun q h => Or.inr h, hi, hA0⟩ B.returns
    s.heap [] _ hSL hP hD va_S.rf (lv_entry av hn)
/-- throwing -/
theorem j_throw (G : GG p l s m args meth c D cys ad A cc own nL) (hQX : ∀ t, vx_MQ below (Qm D cys ad A post) (XCm D cys ad A px) args s mc ms A t → Q t) (hE : ∀ x ∈ c.exceptionTable.toList, False) (hst : l.stackTraces = false) {E text : String} {ik is ic : Nat} {names : List String}
    (hcls : Bundle.fit E = true) (hnames : ∀ n ∈ names, Bundle.fit n = true) (hk : Cond.classLink own ik E ∈ TW) (hini : Cond.initialized E ∈ TW) (hstr : (own, is, text) ∈ STRL)
    (hat1 : ∀ w ∈ (vx_atS own ic E names).filter goodWord, w ∈ TW) (hat2 : ∀ w ∈ (vx_atS own ic E names).filter (fun w => !goodWord w), w ∈ NGL) (hgood : ∀ w ∈ Cond.classLink own ik E :: Cond.initialized E :: vx_atS own ic E names, vx_ot w = true)
    (d0 : decode cc pc = .ok (.new ik, 3)) (d3 : decode cc (pc + 3) = .ok (.dup, 1)) (d4 : decode cc (pc + 4) = .ok (.ldc is, 2)) (d6 : decode cc (pc + 6) = .ok (.invokespecial ic, 3)) (d9 : decode cc (pc + 9) = .ok (.athrow, 1))
    (hR : names.length + 3 < R.frames ∧ (st.map fun v => v.category).sum + (13 * (names.length + 1) + 43) ≤ R.locals ∧ cells + 1 ≤ R.cells ∧ slots + 6 ≤ R.slots) (hc : cells + 1 ≤ mc) (hs : slots + 6 ≤ ms) (hp : px E L g X Z) :
    JJ p l e R s m args below meth c D cys ad A Q nL cells slots L g X Z pc vs st := by
  intro H locs ls hL hP hD hS hl
  obtain ⟨sa, hsa⟩ := G.amb.2.2.2 _ hstr
  have h := vx_throwS (p := p) (l := l) (e := e) (R := R) (s := s) (m := m) (args := args) (below := below) (meth := meth) (c := c) (H := H) (locs := locs) (cells := cells) (slots := slots) (mc := mc) (ms := ms) (free := A) (ls := ls) (rest := st) (Qc := Qm D cys ad A post) (XC := XCm D cys ad A px) (pc := pc)
    G.x G.b hst G.ow hcls hnames (G.ts _ hk) (G.ts _ hini) hsa (vx_hat (fun w hw => G.ts _ (hat1 w hw)) hat2 (fun w hw => va_Nw.use (by rcases NGL_is hw with ⟨a, b, rfl⟩ | ⟨y, rfl⟩ <;> rfl) (G.amb.2.2.1 w hw))) hgood G.amb.1 G.amb.2.1 hS (by rw [G.ml]; exact hl.1) d0 d3 d4 d6 d9 (fun x hx => (hE x hx).elim) hR.1 hR.2.1 hR.2.2.1 hR.2.2.2 G.lk
    (fun t hal hz hkp => ⟨⟨L, g, X, Z, hp, hL, fun k q hq => (hP k q hq).kept (hkp _ (hP k q hq).lt), hD⟩, Nat.le_trans hS.1 hz, fun q h1 h2 => (hkp q (Nat.lt_of_lt_of_le h1 hS.1)).trans (hS.2.1 q h1 h2)⟩) hS.2.2 hc hs
  intro T hT Xs
  obtain ⟨t, a, b⟩ := h T hT Xs
  exact ⟨t, a, hQX t b⟩
theorem j_throwW (G : GG p l s m args meth c D cys ad A cc own nL) (hQX : ∀ t, vx_MQ below (Qm D cys ad A post) (XCm D cys ad A px) args s mc ms A t → Q t) (hE : ∀ x ∈ c.exceptionTable.toList, False) (hst : l.stackTraces = false) {E text : String} {ik is ic : Nat} {names : List String}
    (hcls : Bundle.fit E = true) (hnames : ∀ n ∈ names, Bundle.fit n = true) (hk : Cond.classLink own ik E ∈ TW) (hini : Cond.initialized E ∈ TW) (hstr : (own, is, text) ∈ STRL)
    (hat1 : ∀ w ∈ (vx_atS own ic E names).filter goodWord, w ∈ TW) (hat2 : ∀ w ∈ (vx_atS own ic E names).filter (fun w => !goodWord w), w ∈ NGL) (hgood : ∀ w ∈ Cond.classLink own ik E :: Cond.initialized E :: vx_atS own ic E names, vx_ot w = true)
    (d0 : decode cc pc = .ok (.new ik, 3)) (d3 : decode cc (pc + 3) = .ok (.dup, 1)) (d4 : decode cc (pc + 4) = .ok (.ldc_w is, 3)) (d6 : decode cc (pc + 7) = .ok (.invokespecial ic, 3)) (d9 : decode cc (pc + 10) = .ok (.athrow, 1))
    (hR : names.length + 3 < R.frames ∧ (st.map fun v => v.category).sum + (13 * (names.length + 1) + 43) ≤ R.locals ∧ cells + 1 ≤ R.cells ∧ slots + 6 ≤ R.slots) (hc : cells + 1 ≤ mc) (hs : slots + 6 ≤ ms) (hp : px E L g X Z) :
    JJ p l e R s m args below meth c D cys ad A Q nL cells slots L g X Z pc vs st := by
  intro H locs ls hL hP hD hS hl
  obtain ⟨sa, hsa⟩ := G.amb.2.2.2 _ hstr
  have h := vx_throwSW (p := p) (l := l) (e := e) (R := R) (s := s) (m := m) (args := args) (below := below) (meth := meth) (c := c) (H := H) (locs := locs) (cells := cells) (slots := slots) (mc := mc) (ms := ms) (free := A) (ls := ls) (rest := st) (Qc := Qm D cys ad A post) (XC := XCm D cys ad A px) (pc := pc)
    G.x G.b hst G.ow hcls hnames (G.ts _ hk) (G.ts _ hini) hsa (vx_hat (fun w hw => G.ts _ (hat1 w hw)) hat2 (fun w hw => va_Nw.use (by rcases NGL_is hw with ⟨a, b, rfl⟩ | ⟨y, rfl⟩ <;> rfl) (G.amb.2.2.1 w hw))) hgood G.amb.1 G.amb.2.1 hS (by rw [G.ml]; exact hl.1) d0 d3 d4 d6 d9 (fun x hx => (hE x hx).elim) hR.1 hR.2.1 hR.2.2.1 hR.2.2.2 G.lk
    (fun t hal hz hkp => ⟨⟨L, g, X, Z, hp, hL, fun k q hq => (hP k q hq).kept (hkp _ (hP k q hq).lt), hD⟩, Nat.le_trans hS.1 hz, fun q h1 h2 => (hkp q (Nat.lt_of_lt_of_le h1 hS.1)).trans (hS.2.1 q h1 h2)⟩) hS.2.2 hc hs
  intro T hT Xs
  obtain ⟨t, a, b⟩ := h T hT Xs
  exact ⟨t, a, hQX t b⟩
/-- behind a callee that returns or throws; what it throws goes on -/
theorem j_runX (G : GG p l s m args meth c D cys ad A cc own nL) (hQX : ∀ t, vx_MQ below (Qm D cys ad A post) (XCm D cys ad A px) args s mc ms A t → Q t) (hE : ∀ x ∈ c.exceptionTable.toList, False) {H : Heap} {locs : List Loc} {ls : Array Slot} {mc1 ms1 : Nat} {rest st0 : List Value} {av : Array Value} {postc : PT} {pxc : PX} (hL : SL ad L) (hD : va_D A (MW cys ad L g X Z)) (hS : va_S A s.heap H locs) (hl : lv_has ls nL vs)
    (hr : vx_Run p l e R s m args below meth c H locs cells slots mc1 ms1 (F0 m pc ls st0) rest (Qm D cys ad (va_A (MW cys ad L g X Z) H.size) postc av) (XCm D cys ad (va_A (MW cys ad L g X Z) H.size) pxc) (va_A (MW cys ad L g X Z) H.size)) (hc : cells + mc1 ≤ mc) (hs : slots + ms1 ≤ ms)
    (kx : ∀ (E : String) (L1 : List Nat) (g1 : Nat → va_E) (X1 : Int64) (Z1 : ZT), pxc E L1 g1 X1 Z1 → px E L1 g1 X1 Z1)
    (kk : ∀ (v : Option Value) (L1 : List Nat) (g1 : Nat → va_E) (X1 : Int64) (Z1 : ZT), postc v L1 g1 X1 Z1 → JJ p l e R s m args below meth c D cys ad A Q nL (cells + mc1) (slots + ms1) L1 g1 X1 Z1 (pc + 3) vs (v.toList ++ rest)) : W p l e R s m args below meth c H locs cells slots Q (F0 m pc ls st0) := by
  have hAA : ∀ q, va_A (MW cys ad L g X Z) H.size q → A q := by
    intro q hq
    rcases hq with ⟨k, x, hk⟩ | hq
    · exact hD.2 k (q, x) hk
    · exact G.fr q (Nat.le_trans hS.1 hq)
  intro T hT Xs
  rcases hr T hT Xs with ⟨v, st₀, t, T', L0, h0, X', hL0, e1, e2, ⟨⟨v', L1, g1, X1, Z1, hv, hp, hL1, hP1, hD1⟩, hz, hk⟩, stp⟩ | ⟨q, st₀, t, T', L0, E, ce, h0, X', hL0, e1, e2, ⟨⟨L1, g1, X1, Z1, hp, hL1, hP1, hD1⟩, hz, hk⟩, hce, hcv, hcl, stp⟩
  · cases hv
    rw [h0] at hz hk
    obtain ⟨t2, a1, b1⟩ := kk v L1 g1 X1 Z1 hp T'.heap (locs ++ L0) ls hL1 (by rw [e1]; exact hP1) (hD1.weaken (fun _ _ _ h => hAA _ h))
      ⟨Nat.le_trans hS.1 (by rw [e1]; exact hz), fun q h1 h2 => by rw [e1, hk q (Nat.lt_of_lt_of_le h1 hS.1) (fun z => h2 (hAA q z))]; exact hS.2.1 q h1 h2, fun q hq => by
        rcases List.mem_append.mp hq with h | h
        · exact hS.2.2 q h
        · exact hAA _ (hL0 q h)⟩ hl T' rfl X'
    exact ⟨t2, stp t2 a1, b1⟩
  · rw [h0] at hz hk
    have hS1 : va_S A s.heap T'.heap (locs ++ L0) := ⟨Nat.le_trans hS.1 (by rw [e1]; exact hz), fun q h1 h2 => by rw [e1, hk q (Nat.lt_of_lt_of_le h1 hS.1) (fun z => h2 (hAA q z))]; exact hS.2.1 q h1 h2, fun q hq => by
        rcases List.mem_append.mp hq with h | h
        · exact hS.2.2 q h
        · exact hAA _ (hL0 q h)⟩
    have ho := vx_out (p := p) (l := l) (e := e) (R := R) (s := s) (m := m) (args := args) (below := below) (meth := meth) (c := c) (H := T'.heap) (locs := locs ++ L0) (cells := cells + mc1) (slots := slots + ms1) (mc := mc) (ms := ms) (free := A) (ls := ls) (rest := rest) (pc := pc) (E := E) (ce := ce) (q := q) (Qc := Qm D cys ad A post) (XC := XCm D cys ad A px)
      (fun x hx => (hE x hx).elim) G.lk (by rw [e1]; exact hce) hcv hcl (fun t9 ht9 _ => ⟨⟨L1, g1, X1, Z1, kx E L1 g1 X1 Z1 hp, hL1, by rw [ht9, e1]; exact hP1, hD1.weaken (fun _ _ _ h => hAA _ h)⟩, hS1.F ht9⟩) hS1.2.2 hc hs
    obtain ⟨t2, a1, b1⟩ := ho T' rfl X'
    exact ⟨t2, stp.trans a1, hQX t2 b1⟩
theorem j_callVX (G : GG p l s m args meth c D cys ad A cc own nL) (hQX : ∀ t, vx_MQ below (Qm D cys ad A post) (XCm D cys ad A px) args s mc ms A t → Q t) (hE : ∀ x ∈ c.exceptionTable.toList, False) {y : MethodName} {cc1 : ByteArray} {nL1 n fr lo mc1 ms1 idx : Nat} {ret : Option FieldType} {As rest : List Value} {k : Nat} {i : Int} {ci : Nat} {fs : List Value} {q1 : vw_C} {postc : PT} {pxc : PX}
    (cv : CV y cc1 nL1 ret n) (hlk : Cond.methodLink own idx y ∈ TW) (hM : CX l D cys ad y cc1 nL1 ret fr lo mc1 ms1 (.ref (ad k i) :: As) L g X Z postc pxc) (hd : decode cc pc = .ok (.invokevirtual idx, 3))
    (hR : fr + 1 ≤ R.frames ∧ 8 + (nL1 + 11) + lo ≤ R.locals) (hcs : cells + mc1 ≤ R.cells ∧ slots + ms1 ≤ R.slots) (hc9 : cells + mc1 ≤ mc) (hs9 : slots + ms1 ≤ ms) (hst : st = As.reverse ++ .ref (ad k i) :: rest) (hn : As.length = n) (hrest : (rest.map fun v => v.category).sum ≤ 8)
    (hv : vd k i) (hc : cC cys ad k i X (Z k i) = .inr (ci, fs)) (hq1 : vwCl[ci]? = some q1) (hq2 : q1.1 = y.cls)
    (kx : ∀ (E : String) (L1 : List Nat) (g1 : Nat → va_E) (X1 : Int64) (Z1 : ZT), pxc E L1 g1 X1 Z1 → px E L1 g1 X1 Z1)
    (kk : ∀ (v : Option Value) (L1 : List Nat) (g1 : Nat → va_E) (X1 : Int64) (Z1 : ZT), postc v L1 g1 X1 Z1 → JJ p l e R s m args below meth c D cys ad A Q nL (cells + mc1) (slots + ms1) L1 g1 X1 Z1 (pc + 3) vs (v.toList ++ rest)) :
    JJ p l e R s m args below meth c D cys ad A Q nL cells slots L g X Z pc vs st := by
  intro H locs ls hL hP hD hS hl
  obtain ⟨c1, c2, c3, c4, c5, c6, c7⟩ := cv
  obtain ⟨q, hq⟩ := mw_get G.inj hL hv hc
  have hG : GoodIn TW (wsV own idx y.cls y (.code y cc1 nL1 ret :: TW)) := TW_sub (fun w hw => by
    rcases List.mem_append.mp hw with h | h
    · simp only [List.mem_cons, List.not_mem_nil, or_false] at h
      rcases h with rfl | rfl | rfl | rfl <;> assumption
    · rcases List.mem_cons.mp h with rfl | h
      · exact c4
      · exact h)
  refine j_runX G hQX hE hL hD hS hl (vx_runV (C := y.cls) (As := As) (rest := rest) (b := ad k i) ⟨G.x, G.b, G.ml, G.ow, G.ts⟩ (hM H.size) (cwV (bytes := cc1) (maxL := nL1) (ret := ret) (ws' := TW) n G.ts hG rfl rfl rfl ⟨rfl, c5, c6, c7⟩ hR) ⟨WU.blind, ?_, fun U hU hW => ⟨rfl, wu_call G hL hP hD hS hU hW⟩⟩ rfl hn hl.1 hst (lv_room hrest) hd hcs) hc9 hs9 kx kk
  have h9 := va_recv G.K hP hq1 hq
  rw [hq2] at h9
  exact h9
theorem j_cVXI {PX9 : String → ZT → Prop} (G : GG p l s m args meth c D cys ad A cc own nL) (hQX : ∀ t, vx_MQ below (Qm D cys ad A post) (XCm D cys ad A (PXZ L g X PX9)) args s mc ms A t → Q t) (hE : ∀ x ∈ c.exceptionTable.toList, False) {y : MethodName} {cc1 : ByteArray} {nL1 n fr lo mc1 ms1 idx : Nat} {ret : Option FieldType} {As rest : List Value} {P : Int → Prop} {PX8 : String → ZT → Prop} {k : Nat} {i : Int} {ci : Nat} {fs : List Value} {q1 : vw_C}
    (cv : CV y cc1 nL1 ret n) (hlk : Cond.methodLink own idx y ∈ TW) (hM : CX l D cys ad y cc1 nL1 ret fr lo mc1 ms1 (.ref (ad k i) :: As) L g X Z (PI L g X Z P) (PXZ L g X PX8)) (hd : decode cc pc = .ok (.invokevirtual idx, 3))
    (hR : fr + 1 ≤ R.frames ∧ 8 + (nL1 + 11) + lo ≤ R.locals) (hcs : cells + mc1 ≤ R.cells ∧ slots + ms1 ≤ R.slots) (hc9 : cells + mc1 ≤ mc) (hs9 : slots + ms1 ≤ ms) (hst : st = As.reverse ++ .ref (ad k i) :: rest) (hn : As.length = n) (hrest : (rest.map fun v => v.category).sum ≤ 8)
    (hv : vd k i) (hc : cC cys ad k i X (Z k i) = .inr (ci, fs)) (hq1 : vwCl[ci]? = some q1) (hq2 : q1.1 = y.cls) (kx : ∀ (E : String) (Z1 : ZT), PX8 E Z1 → PX9 E Z1) (kk : ∀ r : Int, P r → JJ p l e R s m args below meth c D cys ad A Q nL (cells + mc1) (slots + ms1) L g X Z (pc + 3) vs (.int (iI r) :: rest)) : JJ p l e R s m args below meth c D cys ad A Q nL cells slots L g X Z pc vs st := by
  refine j_callVX G hQX hE cv hlk hM hd hR hcs hc9 hs9 hst hn hrest hv hc hq1 hq2 (fun E L1 g1 X1 Z1 h => ⟨kx E Z1 h.1, h.2⟩) (fun v L1 g1 X1 Z1 h => ?_)
  obtain ⟨r, rfl, h2, rfl, rfl, rfl, rfl⟩ := h
  exact kk r h2
theorem j_cVXIZ {PX9 : String → ZT → Prop} (G : GG p l s m args meth c D cys ad A cc own nL) (hQX : ∀ t, vx_MQ below (Qm D cys ad A post) (XCm D cys ad A (PXZ L g X PX9)) args s mc ms A t → Q t) (hE : ∀ x ∈ c.exceptionTable.toList, False) {y : MethodName} {cc1 : ByteArray} {nL1 n fr lo mc1 ms1 idx : Nat} {ret : Option FieldType} {As rest : List Value} {P : Int → ZT → Prop} {PX8 : String → ZT → Prop} {k : Nat} {i : Int} {ci : Nat} {fs : List Value} {q1 : vw_C}
    (cv : CV y cc1 nL1 ret n) (hlk : Cond.methodLink own idx y ∈ TW) (hM : CX l D cys ad y cc1 nL1 ret fr lo mc1 ms1 (.ref (ad k i) :: As) L g X Z (PIZ L g X Z P) (PXZ L g X PX8)) (hd : decode cc pc = .ok (.invokevirtual idx, 3))
    (hR : fr + 1 ≤ R.frames ∧ 8 + (nL1 + 11) + lo ≤ R.locals) (hcs : cells + mc1 ≤ R.cells ∧ slots + ms1 ≤ R.slots) (hc9 : cells + mc1 ≤ mc) (hs9 : slots + ms1 ≤ ms) (hst : st = As.reverse ++ .ref (ad k i) :: rest) (hn : As.length = n) (hrest : (rest.map fun v => v.category).sum ≤ 8)
    (hv : vd k i) (hc : cC cys ad k i X (Z k i) = .inr (ci, fs)) (hq1 : vwCl[ci]? = some q1) (hq2 : q1.1 = y.cls) (kx : ∀ (E : String) (Z1 : ZT), PX8 E Z1 → PX9 E Z1) (kk : ∀ (r : Int) (Z1 : ZT), P r Z1 → JJ p l e R s m args below meth c D cys ad A Q nL (cells + mc1) (slots + ms1) L g X Z1 (pc + 3) vs (.int (iI r) :: rest)) : JJ p l e R s m args below meth c D cys ad A Q nL cells slots L g X Z pc vs st := by
  refine j_callVX G hQX hE cv hlk hM hd hR hcs hc9 hs9 hst hn hrest hv hc hq1 hq2 (fun E L1 g1 X1 Z1 h => ⟨kx E Z1 h.1, h.2⟩) (fun v L1 g1 X1 Z1 h => ?_)
  obtain ⟨r, rfl, h2, rfl, rfl, rfl⟩ := h
  exact kk r _ h2
theorem j_cVXVZ {PX9 : String → ZT → Prop} (G : GG p l s m args meth c D cys ad A cc own nL) (hQX : ∀ t, vx_MQ below (Qm D cys ad A post) (XCm D cys ad A (PXZ L g X PX9)) args s mc ms A t → Q t) (hE : ∀ x ∈ c.exceptionTable.toList, False) {y : MethodName} {cc1 : ByteArray} {nL1 n fr lo mc1 ms1 idx : Nat} {ret : Option FieldType} {As rest : List Value} {P : ZT → Prop} {PX8 : String → ZT → Prop} {k : Nat} {i : Int} {ci : Nat} {fs : List Value} {q1 : vw_C}
    (cv : CV y cc1 nL1 ret n) (hlk : Cond.methodLink own idx y ∈ TW) (hM : CX l D cys ad y cc1 nL1 ret fr lo mc1 ms1 (.ref (ad k i) :: As) L g X Z (PVZ L g X Z P) (PXZ L g X PX8)) (hd : decode cc pc = .ok (.invokevirtual idx, 3))
    (hR : fr + 1 ≤ R.frames ∧ 8 + (nL1 + 11) + lo ≤ R.locals) (hcs : cells + mc1 ≤ R.cells ∧ slots + ms1 ≤ R.slots) (hc9 : cells + mc1 ≤ mc) (hs9 : slots + ms1 ≤ ms) (hst : st = As.reverse ++ .ref (ad k i) :: rest) (hn : As.length = n) (hrest : (rest.map fun v => v.category).sum ≤ 8)
    (hv : vd k i) (hc : cC cys ad k i X (Z k i) = .inr (ci, fs)) (hq1 : vwCl[ci]? = some q1) (hq2 : q1.1 = y.cls) (kx : ∀ (E : String) (Z1 : ZT), PX8 E Z1 → PX9 E Z1) (kk : ∀ Z1 : ZT, P Z1 → JJ p l e R s m args below meth c D cys ad A Q nL (cells + mc1) (slots + ms1) L g X Z1 (pc + 3) vs rest) : JJ p l e R s m args below meth c D cys ad A Q nL cells slots L g X Z pc vs st := by
  refine j_callVX G hQX hE cv hlk hM hd hR hcs hc9 hs9 hst hn hrest hv hc hq1 hq2 (fun E L1 g1 X1 Z1 h => ⟨kx E Z1 h.1, h.2⟩) (fun v L1 g1 X1 Z1 h => ?_)
  obtain ⟨rfl, h2, rfl, rfl, rfl⟩ := h
  exact kk _ h2
theorem j_cVXR {PX9 : String → ZT → Prop} (G : GG p l s m args meth c D cys ad A cc own nL) (hQX : ∀ t, vx_MQ below (Qm D cys ad A post) (XCm D cys ad A (PXZ L g X PX9)) args s mc ms A t → Q t) (hE : ∀ x ∈ c.exceptionTable.toList, False) {y : MethodName} {cc1 : ByteArray} {nL1 n fr lo mc1 ms1 idx : Nat} {ret : Option FieldType} {As rest : List Value} {P : Nat → Prop} {PX8 : String → ZT → Prop} {k : Nat} {i : Int} {ci : Nat} {fs : List Value} {q1 : vw_C}
    (cv : CV y cc1 nL1 ret n) (hlk : Cond.methodLink own idx y ∈ TW) (hM : CX l D cys ad y cc1 nL1 ret fr lo mc1 ms1 (.ref (ad k i) :: As) L g X Z (PR L g X Z P) (PXZ L g X PX8)) (hd : decode cc pc = .ok (.invokevirtual idx, 3))
    (hR : fr + 1 ≤ R.frames ∧ 8 + (nL1 + 11) + lo ≤ R.locals) (hcs : cells + mc1 ≤ R.cells ∧ slots + ms1 ≤ R.slots) (hc9 : cells + mc1 ≤ mc) (hs9 : slots + ms1 ≤ ms) (hst : st = As.reverse ++ .ref (ad k i) :: rest) (hn : As.length = n) (hrest : (rest.map fun v => v.category).sum ≤ 8)
    (hv : vd k i) (hc : cC cys ad k i X (Z k i) = .inr (ci, fs)) (hq1 : vwCl[ci]? = some q1) (hq2 : q1.1 = y.cls) (kx : ∀ (E : String) (Z1 : ZT), PX8 E Z1 → PX9 E Z1) (kk : ∀ r : Nat, P r → JJ p l e R s m args below meth c D cys ad A Q nL (cells + mc1) (slots + ms1) L g X Z (pc + 3) vs (.ref r :: rest)) : JJ p l e R s m args below meth c D cys ad A Q nL cells slots L g X Z pc vs st := by
  refine j_callVX G hQX hE cv hlk hM hd hR hcs hc9 hs9 hst hn hrest hv hc hq1 hq2 (fun E L1 g1 X1 Z1 h => ⟨kx E Z1 h.1, h.2⟩) (fun v L1 g1 X1 Z1 h => ?_)
  obtain ⟨r, rfl, h2, rfl, rfl, rfl, rfl⟩ := h
  exact kk r h2
end CXS
def exA : String := "java/lang/IllegalArgumentException"
def exS : String := "java/lang/IllegalStateException"
def exI : String := "java/lang/IndexOutOfBoundsException"
abbrev xNm : List String := ["java/lang/RuntimeException", "java/lang/Exception"]
theorem xkA : Cond.classLink RX6 59 exA ∈ TW := TW_of 562 (by decide +kernel) (by decide +kernel)
theorem xiA : Cond.initialized exA ∈ TW := TW_of 47 (by decide +kernel) (by decide +kernel)
theorem xt1A : ∀ w ∈ (vx_atS RX6 63 exA xNm).filter goodWord, w ∈ TW := fun w hw => List.mem_filter.mpr ⟨of_decide_eq_true (List.all_eq_true.mp (show ((vx_atS RX6 63 exA xNm).filter goodWord).all (fun w => decide (w ∈ lw_tbl)) = true by decide +kernel) w hw), (List.mem_filter.mp hw).2⟩
theorem xt2A : ∀ w ∈ (vx_atS RX6 63 exA xNm).filter (fun w => !goodWord w), w ∈ NGL := fun w hw => of_decide_eq_true (List.all_eq_true.mp (show ((vx_atS RX6 63 exA xNm).filter (fun w => !goodWord w)).all (fun w => decide (w ∈ NGL)) = true by decide +kernel) w hw)
theorem xt3A : ∀ w ∈ Cond.classLink RX6 59 exA :: Cond.initialized exA :: (vx_atS RX6 63 exA xNm), vx_ot w = true := fun w hw => List.all_eq_true.mp (show (Cond.classLink RX6 59 exA :: Cond.initialized exA :: (vx_atS RX6 63 exA xNm)).all vx_ot = true by decide +kernel) w hw
theorem xkS : Cond.classLink RX6 70 exS ∈ TW := TW_of 578 (by decide +kernel) (by decide +kernel)
theorem xiS : Cond.initialized exS ∈ TW := TW_of 48 (by decide +kernel) (by decide +kernel)
theorem xt1S : ∀ w ∈ (vx_atS RX6 74 exS xNm).filter goodWord, w ∈ TW := fun w hw => List.mem_filter.mpr ⟨of_decide_eq_true (List.all_eq_true.mp (show ((vx_atS RX6 74 exS xNm).filter goodWord).all (fun w => decide (w ∈ lw_tbl)) = true by decide +kernel) w hw), (List.mem_filter.mp hw).2⟩
theorem xt2S : ∀ w ∈ (vx_atS RX6 74 exS xNm).filter (fun w => !goodWord w), w ∈ NGL := fun w hw => of_decide_eq_true (List.all_eq_true.mp (show ((vx_atS RX6 74 exS xNm).filter (fun w => !goodWord w)).all (fun w => decide (w ∈ NGL)) = true by decide +kernel) w hw)
theorem xt3S : ∀ w ∈ Cond.classLink RX6 70 exS :: Cond.initialized exS :: (vx_atS RX6 74 exS xNm), vx_ot w = true := fun w hw => List.all_eq_true.mp (show (Cond.classLink RX6 70 exS :: Cond.initialized exS :: (vx_atS RX6 74 exS xNm)).all vx_ot = true by decide +kernel) w hw
theorem xkI : Cond.classLink RX6 105 exI ∈ TW := TW_of 277 (by decide +kernel) (by decide +kernel)
theorem xiI : Cond.initialized exI ∈ TW := TW_of 49 (by decide +kernel) (by decide +kernel)
theorem xt1I : ∀ w ∈ (vx_atS RX6 109 exI xNm).filter goodWord, w ∈ TW := fun w hw => List.mem_filter.mpr ⟨of_decide_eq_true (List.all_eq_true.mp (show ((vx_atS RX6 109 exI xNm).filter goodWord).all (fun w => decide (w ∈ lw_tbl)) = true by decide +kernel) w hw), (List.mem_filter.mp hw).2⟩
theorem xt2I : ∀ w ∈ (vx_atS RX6 109 exI xNm).filter (fun w => !goodWord w), w ∈ NGL := fun w hw => of_decide_eq_true (List.all_eq_true.mp (show ((vx_atS RX6 109 exI xNm).filter (fun w => !goodWord w)).all (fun w => decide (w ∈ NGL)) = true by decide +kernel) w hw)
theorem xt3I : ∀ w ∈ Cond.classLink RX6 105 exI :: Cond.initialized exI :: (vx_atS RX6 109 exI xNm), vx_ot w = true := fun w hw => List.all_eq_true.mp (show (Cond.classLink RX6 105 exI :: Cond.initialized exI :: (vx_atS RX6 109 exI xNm)).all vx_ot = true by decide +kernel) w hw
