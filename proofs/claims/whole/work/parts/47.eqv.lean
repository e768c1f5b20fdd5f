/-! worlds that hold the same cells; contracts of methods that put rows into the row of rows -/
theorem arrV_congr {cI : ClassId} {N : Nat} {f h : Nat → Value} (e : ∀ j, j < N → f j = h j) : arrV cI N f = arrV cI N h := by
  unfold arrV
  have : (fun j : Fin N => f j.val) = fun j : Fin N => h j.val := funext fun j => e j.val j.isLt
  rw [this]
theorem va_at_i {D : va_G} {cl : List vw_C} {H : Heap} {a n : Nat} {c : ClassId} {f h : Nat → Int32} (e : ∀ j, j < n → f j = h j) (q : va_at D cl (a, .inl (c, n, .inl f)) H) : va_at D cl (a, .inl (c, n, .inl h)) H := by
  show H[a]? = some (vp_cell c (n, .inl h))
  rw [vp_cell_i, ← arrV_congr (f := fun j => .int (f j)) (fun j hj => by rw [e j hj])]
  exact q
theorem va_at_q {D : va_G} {cl : List vw_C} {H : Heap} {a n : Nat} {c : ClassId} {f h : Nat → Option Nat} (e : ∀ j, j < n → f j = h j) (q : va_at D cl (a, .inl (c, n, .inr (.inr (.inr (.inr f))))) H) : va_at D cl (a, .inl (c, n, .inr (.inr (.inr (.inr h))))) H := by
  show H[a]? = some (vp_cell c (n, .inr (.inr (.inr (.inr h)))))
  rw [vp_cell_q, ← arrV_congr (f := fun j => va_rf (f j)) (fun j hj => by rw [e j hj])]
  exact q
theorem va_P_eqv {D : va_G} {cl : List vw_C} {ws ws' : va_W} {H : Heap} (h : va_P D cl ws H) (he : ∀ (k : Nat) (q' : Nat × va_E), ws'[k]? = some q' → ∃ (j : Nat) (q : Nat × va_E), ws[j]? = some q ∧ (va_at D cl q H → va_at D cl q' H)) : va_P D cl ws' H := fun k q' hk => by
  obtain ⟨j, q, hq, hi⟩ := he k q' hk
  exact hi (h j q hq)
theorem va_P_last {D : va_G} {cl : List vw_C} {ws : va_W} {H : Heap} {a : Nat} {e e' : va_E} (h : va_P D cl (ws ++ [(a, e)]) H) (hi : va_at D cl (a, e) H → va_at D cl (a, e') H) : va_P D cl (ws ++ [(a, e')]) H := by
  refine va_P_eqv h (fun k q' hk => ?_)
  by_cases hl : k < ws.length
  · rw [List.getElem?_append_left hl] at hk
    exact ⟨k, q', by rw [List.getElem?_append_left hl]; exact hk, fun q => q⟩
  · rw [List.getElem?_append_right (by omega)] at hk
    have h0 : k - ws.length < 1 := (List.getElem?_eq_some_iff.mp hk).1
    rw [show k - ws.length = 0 by omega] at hk
    cases hk
    exact ⟨k, (a, e), by rw [List.getElem?_append_right (by omega), show k - ws.length = 0 by omega]; rfl, hi⟩
theorem va_D_eqv {A : Nat → Prop} {ws ws' : va_W} (h : va_D A ws) (hm : ws'.map Prod.fst = ws.map Prod.fst) : va_D A ws' := by
  have key : ∀ (i : Nat) (p : Nat × va_E), ws'[i]? = some p → ∃ q, ws[i]? = some q ∧ q.1 = p.1 := fun i p hp => by
    have h1 : (ws'.map Prod.fst)[i]? = some p.1 := by rw [List.getElem?_map, hp]; rfl
    rw [hm, List.getElem?_map] at h1
    cases hq : ws[i]? with
    | none => rw [hq] at h1; cases h1
    | some q =>
      rw [hq] at h1
      exact ⟨q, rfl, Option.some.inj h1⟩
  refine ⟨fun i j p q hp hq e => ?_, fun k q hk => ?_⟩
  · obtain ⟨p', a1, a2⟩ := key i p hp
    obtain ⟨q', b1, b2⟩ := key j q hq
    exact h.1 i j p' q' a1 b1 (by rw [a2, b2, e])
  · obtain ⟨q', b1, b2⟩ := key k q hk
    rw [← b2]
    exact h.2 k q' b1
theorem va_D_last {A : Nat → Prop} {ws : va_W} {a : Nat} {e e' : va_E} (h : va_D A (ws ++ [(a, e)])) : va_D A (ws ++ [(a, e')]) := va_D_eqv h (by simp)
/-- the class of int[][] -/
def HK4 (cys : Nat → ClassId) (U : State) : Prop := ∃ kA : Class, U.vm.classes[cys 4]? = some kA ∧ kA.kind = .array (cys 0) (.array .int)
theorem HK4.moved {cys : Nat → ClassId} {u U : State} (hal : u.vm.Alike U.vm) (h : HK4 cys u) : HK4 cys U := by
  obtain ⟨k, h1, h2⟩ := h
  obtain ⟨k', h3, e⟩ := hal.2.2 _ _ h1
  exact ⟨k', h3, by rw [e]; exact h2⟩
def CMH (l : Launch) (D : va_G) (cys : Nat → ClassId) (ad : Nat → Int → Nat) (y : MethodName) (cc : ByteArray) (nL : Nat) (ret : Option FieldType) (fr lo mc ms : Nat) (av : List Value) (L : List Nat) (g : Nat → va_E) (X : Int64) (Z : ZT) (post : PT) : Prop :=
  ∀ sz : Nat, Met l y (.code y cc nL ret :: TW) ({ frames := fr, cells := mc, slots := ms, locals := lo }) (va_Pc av (fun U => WU D cys ad L g X Z sz U ∧ HK4 cys U)) (Qm D cys ad (va_A (MW cys ad L g X Z) sz) post) mc ms (va_A (MW cys ad L g X Z) sz)
theorem WUH.blind {D : va_G} {cys : Nat → ClassId} {ad : Nat → Int → Nat} {L : List Nat} {g : Nat → va_E} {X : Int64} {Z : ZT} {sz : Nat} {av : List Value} : FrameBlind (va_Pc av (fun U => WU D cys ad L g X Z sz U ∧ HK4 cys U)) := by
  intro a U f mk h
  obtain ⟨h0, ⟨h1, h2, h3, h4, h5, h6⟩, h7⟩ := h
  exact ⟨h0, ⟨h1, h2, h3, va_K.moved (u := U) (U := U.calling f mk a) (Vm.Alike.refl U.vm) h4, h5, Amb.same (u := U) (U := U.calling f mk a) rfl h6⟩, HK4.moved (u := U) (U := U.calling f mk a) (Vm.Alike.refl U.vm) h7⟩
section CMHS
variable {p : Program} {l : Launch} {e : Env} {R : Room} {s : State} {m : MethodId} {args : Array Value} {below : List Frame} {meth : Method} {c : Code} {Q : State → Prop}
variable {D : va_G} {cys : Nat → ClassId} {ad : Nat → Int → Nat} {A : Nat → Prop} {cc : ByteArray} {own : String} {nL : Nat} {cells slots : Nat} {L : List Nat} {g : Nat → va_E} {X : Int64} {Z : ZT} {pc : Nat} {vs : List (Nat × Value)} {st : List Value}
theorem cmh_start {y : MethodName} {ret : Option FieldType} {fr lo mc ms : Nat} {av : List Value} {post : PT} (hi : injA ad) (hy : plainName y.cls = true) (hn : (lg_sl av).length ≤ nL)
    (body : ∀ (p : Program) (e : Env) (s : State) (m : MethodId) (args : Array Value) (below : List Frame) (meth : Method) (c : Code) (A : Nat → Prop) (Q : State → Prop), (∀ t, MQ below (Qm D cys ad A post) args s mc ms A t → Q t) → GG p l s m args meth c D cys ad A cc y.cls nL → meth.sig.returnType = ret → HK4 cys s →
      JJ p l e { frames := fr, cells := mc, slots := ms, locals := lo } s m args below meth c D cys ad A Q nL 0 0 L g X Z 0 (lv_args 0 av) []) : CMH l D cys ad y cc nL ret fr lo mc ms av L g X Z post := by
  intro sz
  refine Met.ofW (cc := cc) (maxL := nL) (ret := ret) hy rfl ?_
  intro p e s m args below meth c s₁ B hml hv
  obtain ⟨rfl, ⟨hsz, hSL, hP, hK, hD0, hA0⟩, h4⟩ := hv
  subst hsz
  have hts := atoms_spec (ws := Cond.code y cc nL ret :: TW) B.pre
  have hown : s.vm.findClass y.cls = some m.cls := findClass_of_methodNamed B.named
  have hD := hD0.self (sz := s.heap.size)
  rw [lg_entry_eq]
  exact body p e s m _ below meth c _ _ (fun _ h => h) ⟨B.exec, B.bytes, hml, hown, fun w hw => hts w (List.mem_cons_of_mem _ hw), hK, B.notSynchronized, fun q h => Or.inr h, hi, hA0⟩ B.returns h4
    s.heap [] _ hSL hP hD va_S.rf (lv_entry av hn)
theorem j_callVH (G : GG p l s m args meth c D cys ad A cc own nL) (h4 : HK4 cys s) {y : MethodName} {cc1 : ByteArray} {nL1 n fr lo mc ms idx : Nat} {ret : Option FieldType} {As rest : List Value} {k : Nat} {i : Int} {ci : Nat} {fs : List Value} {q1 : vw_C} {post : PT}
    (cv : CV y cc1 nL1 ret n) (hlk : Cond.methodLink own idx y ∈ TW) (hM : CMH l D cys ad y cc1 nL1 ret fr lo mc ms (.ref (ad k i) :: As) L g X Z post) (hd : decode cc pc = .ok (.invokevirtual idx, 3))
    (hR : fr + 1 ≤ R.frames ∧ 8 + (nL1 + 11) + lo ≤ R.locals) (hcs : cells + mc ≤ R.cells ∧ slots + ms ≤ R.slots) (hst : st = As.reverse ++ .ref (ad k i) :: rest) (hn : As.length = n) (hrest : (rest.map fun v => v.category).sum ≤ 8)
    (hv : vd k i) (hc : cC cys ad k i X (Z k i) = .inr (ci, fs)) (hq1 : vwCl[ci]? = some q1) (hq2 : q1.1 = y.cls)
    (kk : ∀ (v : Option Value) (L1 : List Nat) (g1 : Nat → va_E) (X1 : Int64) (Z1 : ZT), post v L1 g1 X1 Z1 → JJ p l e R s m args below meth c D cys ad A Q nL (cells + mc) (slots + ms) L1 g1 X1 Z1 (pc + 3) vs (v.toList ++ rest)) :
    JJ p l e R s m args below meth c D cys ad A Q nL cells slots L g X Z pc vs st := by
  intro H locs ls hL hP hD hS hl
  obtain ⟨c1, c2, c3, c4, c5, c6, c7⟩ := cv
  obtain ⟨q, hq⟩ := mw_get G.inj hL hv hc
  have hG : GoodIn TW (wsV own idx y.cls y (.code y cc1 nL1 ret :: TW)) := TW_sub (fun w hw => by
    rcases List.mem_append.mp hw with h | h
    · simp only [List.mem_cons, List.not_mem_nil, or_false] at h
      rcases h with rfl | rfl | rfl | rfl <;> assumption
    · rcases List.mem_cons.mp h with rfl | h
      · exact c4
      · exact h)
  refine j_run G hL hD hS hl (va_runV (C := y.cls) (As := As) (rest := rest) (b := ad k i) ⟨G.x, G.b, G.ml, G.ow, G.ts⟩ (hM H.size) (cwV (bytes := cc1) (maxL := nL1) (ret := ret) (ws' := TW) n G.ts hG rfl rfl rfl ⟨rfl, c5, c6, c7⟩ hR) ⟨WUH.blind, ?_, fun U hU hW => ⟨rfl, wu_call G hL hP hD hS hU hW, h4.moved hW.alike⟩⟩ rfl hn hl.1 hst (lv_room hrest) hd hcs) kk
  have h9 := va_recv G.K hP hq1 hq
  rw [hq2] at h9
  exact h9
theorem j_cVHGI (G : GG p l s m args meth c D cys ad A cc own nL) (h4 : HK4 cys s) {y : MethodName} {cc1 : ByteArray} {nL1 n fr lo mc ms idx : Nat} {ret : Option FieldType} {As rest : List Value} {P : Int → List Nat → (Nat → va_E) → Int64 → ZT → Prop} {k : Nat} {i : Int} {ci : Nat} {fs : List Value} {q1 : vw_C}
    (cv : CV y cc1 nL1 ret n) (hlk : Cond.methodLink own idx y ∈ TW) (hM : CMH l D cys ad y cc1 nL1 ret fr lo mc ms (.ref (ad k i) :: As) L g X Z (PGI L g X Z P)) (hd : decode cc pc = .ok (.invokevirtual idx, 3))
    (hR : fr + 1 ≤ R.frames ∧ 8 + (nL1 + 11) + lo ≤ R.locals) (hcs : cells + mc ≤ R.cells ∧ slots + ms ≤ R.slots) (hst : st = As.reverse ++ .ref (ad k i) :: rest) (hn : As.length = n) (hrest : (rest.map fun v => v.category).sum ≤ 8)
    (hv : vd k i) (hc : cC cys ad k i X (Z k i) = .inr (ci, fs)) (hq1 : vwCl[ci]? = some q1) (hq2 : q1.1 = y.cls) (kk : ∀ (r : Int) (L1 : List Nat) (g1 : Nat → va_E) (X1 : Int64) (Z1 : ZT), P r L1 g1 X1 Z1 → JJ p l e R s m args below meth c D cys ad A Q nL (cells + mc) (slots + ms) L1 g1 X1 Z1 (pc + 3) vs (.int (iI r) :: rest)) : JJ p l e R s m args below meth c D cys ad A Q nL cells slots L g X Z pc vs st := by
  refine j_callVH G h4 cv hlk hM hd hR hcs hst hn hrest hv hc hq1 hq2 (fun v L1 g1 X1 Z1 h => ?_)
  obtain ⟨r, rfl, h2⟩ := h
  exact kk r _ _ _ _ h2
/-- clone of the row of a fixed place, as a row of numbers -/
theorem j_cloneW (G : GG p l s m args meth c D cys ad A cc own nL) (k : Nat) (i : Int) {N idx : Nat} {V : List Int} (hlk : Cond.methodLink own idx ⟨"[I", "clone", "()Ljava/lang/Object;"⟩ ∈ TW) (hd : decode cc pc = .ok (.invokevirtual idx, 3)) (hcc : ∀ z, cC cys ad k i X z = eI (cys 0) N z) (h : vd k i) (hWl : V.length = N) (hWv : ∀ j : Nat, j < N → V.getD j 0 = Z k i j)
    (hlo : 1 ≤ R.frames ∧ (st.map fun v => v.category).sum + 14 ≤ R.locals) (hc : cells + 1 ≤ R.cells ∧ slots + N ≤ R.slots)
    (kk : ∀ (b : Nat), b ∉ L → ¬ isS ad b → JJ p l e R s m args below meth c D cys ad A Q nL (cells + 1) (slots + N) (L ++ [b]) (va_up g b (dA cys V)) X Z (pc + 3) vs (.ref b :: st)) : JJ p l e R s m args below meth c D cys ad A Q nL cells slots L g X Z pc vs (.ref (ad k i) :: st) := by
  refine j_cloneS G k i hlk hd hcc h hWl hWv hlo hc (fun b x hb hns hx => ?_)
  subst hWl
  intro H locs ls hL hP hD hS hl
  rw [← mw_push hb hns] at hP hD
  subst hx
  have hP2 := va_P_last (e' := dA cys V) hP (va_at_i (fun j hj => by rw [hWv j hj]))
  have hD2 := va_D_last (e' := dA cys V) hD
  rw [mw_push hb hns] at hP2 hD2
  exact kk b hb hns H locs ls hL hP2 hD2 hS hl
end CMHS
/-- all but one of the old cells stay -/
def EXM (x : Nat) (L : List Nat) (g : Nat → va_E) (L' : List Nat) (g' : Nat → va_E) : Prop := (∀ a ∈ L, a ∈ L') ∧ ∀ a ∈ L, a ≠ x → g' a = g a
theorem EXT.m {L L' : List Nat} {g g' : Nat → va_E} (h : EXT L g L' g') (x : Nat) : EXM x L g L' g' := ⟨h.1, fun a ha _ => h.2 a ha⟩
theorem EXM.up {x : Nat} {L L' : List Nat} {g g' : Nat → va_E} (h : EXM x L g L' g') (v : va_E) : EXM x L g L' (va_up g' x v) := ⟨h.1, fun a ha hne => by rw [va_up_ne _ _ hne]; exact h.2 a ha hne⟩
/-- what RML says of the leaves -/
def RMK (cys : Nat → ClassId) (ad : Nat → Int → Nat) (S : ZT) (L : List Nat) (g : Nat → va_E) (lf : Nat → Option Nat) : Prop := ∀ k : Int, 0 ≤ k → k < S 6 0 3 → ∃ (a : Nat) (W : List Int), lf k.toNat = some a ∧ (a ∈ L ∧ ¬ isS ad a ∧ g a = dA cys W ∧ W.length = 4 ∧ ∀ d : Int, 0 ≤ d → d < S 0 0 5 → W.getD d.toNat 0 = S 8 d k) ∧ a ≠ ad 33 0
theorem RML.addF {cys : Nat → ClassId} {ad : Nat → Int → Nat} {S T : ZT} {L : List Nat} {g : Nat → va_E} {lf : Nat → Option Nat} {v : Int} {b : Nat} {V : List Int} (hm : ad 33 0 ∈ L) (hn : ¬ isS ad (ad 33 0)) (hk : RMK cys ad S L g lf) (hM : M_add S v T) (hf : 0 ≤ S 6 0 3) (hb : b ∉ L) (hs : ¬ isS ad b) (hV : V.length = 4) (hV2 : ∀ d : Int, 0 ≤ d → d < S 0 0 5 → V.getD d.toNat 0 = S 2 d 5) : RML cys ad T (L ++ [b]) (va_up (va_up g b (dA cys V)) (ad 33 0) (eQ (cys 4) 80 (va_up lf (S 6 0 3).toNat (some b)))) := by
  have hbn : b ≠ ad 33 0 := by rintro rfl; exact hb hm
  have h05 : T 0 0 5 = S 0 0 5 := by rw [hM.1.1 0 rfl (by decide)]
  refine ⟨⟨List.mem_append_left _ hm, hn⟩, va_up lf (S 6 0 3).toNat (some b), va_up_self _ _ _, fun k k0 k1 => ?_⟩
  rw [hM.2.1] at k1
  by_cases e : k = S 6 0 3
  · refine ⟨b, V, by rw [e]; exact va_up_self _ _ _, ⟨List.mem_append_right _ (List.mem_singleton.mpr rfl), hs, ?_, hV, fun d d0 d1 => ?_⟩, hbn⟩
    · rw [va_up_ne _ _ hbn, va_up_self]
    · rw [h05] at d1
      rw [hV2 d d0 d1, hM.2.2.2.1 d d0 d1 k, if_pos e]
  · obtain ⟨a, W, q1, ⟨q2, q3, q4, q5, q6⟩, q7⟩ := hk k k0 (by omega)
    have hne : k.toNat ≠ (S 6 0 3).toNat := by omega
    have hab : a ≠ b := by rintro rfl; exact hb q2
    refine ⟨a, W, by rw [va_up_ne _ _ hne]; exact q1, ⟨List.mem_append_left _ q2, q3, by rw [va_up_ne _ _ q7, va_up_ne _ _ hab]; exact q4, q5, fun d d0 d1 => ?_⟩, q7⟩
    rw [h05] at d1
    rw [q6 d d0 d1, hM.2.2.2.1 d d0 d1 k, if_neg e]
theorem RML.dropF {cys : Nat → ClassId} {ad : Nat → Int → Nat} {S T : ZT} {L : List Nat} {g g' : Nat → va_E} {lf f : Nat → Option Nat} {q : Int} (hm : ad 33 0 ∈ L) (hn : ¬ isS ad (ad 33 0)) (hk : RMK cys ad S L g lf) (hM : M_drop S q T) (hn4 : S 0 0 5 ≤ 4) (q0 : 0 ≤ q) (hg : g' (ad 33 0) = eQ (cys 4) 80 f) (ho : ∀ x, x ≠ ad 33 0 → g' x = g x) (hf : ∀ k : Nat, f k = if q ≤ (k : Int) ∧ (k : Int) < S 6 0 3 - 1 then lf (k + 1) else lf k) : RML cys ad T L g' := by
  have h05 : T 0 0 5 = S 0 0 5 := by rw [hM.1.1 0 rfl (by decide)]
  refine ⟨⟨hm, hn⟩, f, hg, fun k k0 k1 => ?_⟩
  rw [hM.2.1] at k1
  have hkk : ((k.toNat : Nat) : Int) = k := Int.toNat_of_nonneg k0
  have hgap : ∀ d, 0 ≤ d → d < S 0 0 5 → T 8 d k = if q ≤ k ∧ k < S 6 0 3 - 1 then S 8 d (k + 1) else S 8 d k := fun d d0 d1 => by rw [hM.2.2.2.1 d d0 (by omega) k]; rfl
  by_cases e : q ≤ k
  · obtain ⟨a, W, q1, ⟨q2, q3, q4, q5, q6⟩, q7⟩ := hk (k + 1) (by omega) (by omega)
    refine ⟨a, W, ?_, ⟨q2, q3, by rw [ho a q7]; exact q4, q5, fun d d0 d1 => ?_⟩, q7⟩
    · rw [hf, if_pos (by omega), ← q1]; congr 1; omega
    · rw [h05] at d1
      rw [q6 d d0 d1, hgap d d0 d1, if_pos ⟨e, k1⟩]
  · obtain ⟨a, W, q1, ⟨q2, q3, q4, q5, q6⟩, q7⟩ := hk k k0 (by omega)
    refine ⟨a, W, ?_, ⟨q2, q3, by rw [ho a q7]; exact q4, q5, fun d d0 d1 => ?_⟩, q7⟩
    · rw [hf, if_neg (by omega)]; exact q1
    · rw [h05] at d1
      rw [q6 d d0 d1, hgap d d0 d1, if_neg (by omega)]
theorem RMZ.add {S T Z Y : ZT} {v : Int} (h : RMZ S Z) (hW : WF S) (hM : M_add S v T) (hu : ∀ k' i', ¬ (k' = 38 ∧ i' = 0) → Y k' i' = zS (zS (zS Z 24 0 0 0) 34 0 (S 6 0 3) v) 24 0 8 (S 6 0 3 + 1) k' i') (h38 : ∀ j, Y 38 0 j = if 0 ≤ j ∧ j < (6 : Nat) then 1 else Z 38 0 j) : RMZ T Y := by
  have h0 := h.th 0
  have hv := hW.v
  obtain ⟨⟨hF, h15⟩, m6, m9, m8, m14⟩ := hM
  have hk : ∀ k : Nat, k ≠ 24 → k ≠ 34 → k ≠ 38 → Y k = zS Z 24 0 0 0 k := fun k a b c => funext fun i => by rw [hu k i (fun z => c z.1), zS_k a, zS_k b]
  have h24 : ∀ j, j ≠ 8 → Y 24 0 j = zS Z 24 0 0 0 24 0 j := fun j hj => by rw [hu 24 0 (by decide), zS_v, if_neg hj, zS_k (by decide)]
  have h248 : Y 24 0 8 = S 6 0 3 + 1 := by rw [hu 24 0 (by decide), zS_s]
  have h34 : ∀ j, Y 34 0 j = if j = S 6 0 3 then v else zS Z 24 0 0 0 34 0 j := fun j => by rw [hu 34 0 (by decide), zS_k (by decide), zS_v]
  have z38 : zS Z 24 0 0 0 38 = Z 38 := zS_k (by decide)
  generalize zS Z 24 0 0 0 = Y0 at h0 hk h24 h34 z38
  unfold RMZ at *
  rw [h24 1 (by decide), h248, h24 11 (by decide), h24 13 (by decide), h24 14 (by decide)]
  simp only [hF 0 rfl (by decide), hF 2 rfl (by decide), hF 3 rfl (by decide), hF 5 rfl (by decide), hF 11 rfl (by decide), hF 12 rfl (by decide), hF 13 rfl (by decide), (h15 _).1, (h15 _).2, m6, m9, m14, hk 25 (by decide) (by decide) (by decide), hk 26 (by decide) (by decide) (by decide), hk 28 (by decide) (by decide) (by decide), hk 31 (by decide) (by decide) (by decide), hk 32 (by decide) (by decide) (by decide), hk 30 (by decide) (by decide) (by decide), hk 35 (by decide) (by decide) (by decide), hk 36 (by decide) (by decide) (by decide), hk 37 (by decide) (by decide) (by decide), h34, h38]
  refine ⟨⟨h0.1.1, by first | rfl | trivial, h0.1.2.2.1, h0.1.2.2.2.1, h0.1.2.2.2.2⟩, h0.2.1, h0.2.2.1, h0.2.2.2.1, fun k k0 k1 => ?_, h0.2.2.2.2.2.1, fun w w0 w1 => ?_⟩
  · by_cases e : k = S 6 0 3
    · rw [if_pos e, if_pos e]
    · rw [if_neg e, if_neg e]; exact h0.2.2.2.2.1 k k0 (by omega)
  · have := h0.2.2.2.2.2.2 w w0 w1
    refine ⟨this.1, this.2.1, ?_⟩
    unfold STLV
    rw [if_pos (show 0 ≤ w ∧ w < ((6 : Nat) : Int) from ⟨w0, by omega⟩), if_pos (show 0 ≤ w ∧ w < S 11 0 3 from ⟨w0, w1⟩)]
theorem RMZ.drop {S T Z Y : ZT} {q : Int} (h : RMZ S Z) (hW : WF S) (hM : M_drop S q T) (q0 : 0 ≤ q) (hu : ∀ k, k ≠ 34 → k ≠ 38 → Y k = zS (zS Z 24 0 0 0) 24 0 8 (S 6 0 3 - 1) k) (h34 : ∀ k, Y 34 0 k = gapF q (S 6 0 3 - 1) (Z 34 0) k) (h38 : ∀ j, Y 38 0 j = if 0 ≤ j ∧ j < (6 : Nat) then 1 else Z 38 0 j) : RMZ T Y := by
  have hv := hW.v
  obtain ⟨⟨hF, h15⟩, m6, m9, m8, m14⟩ := hM
  have hk : ∀ k : Nat, k ≠ 24 → k ≠ 34 → k ≠ 38 → Y k = Z k := fun k a b c => by rw [hu k b c, zS_k a, zS_k a]
  have h24 : ∀ j, j ≠ 8 → j ≠ 0 → Y 24 0 j = Z 24 0 j := fun j hj h0 => by rw [hu 24 (by decide) (by decide), zS_v, if_neg hj, zS_v, if_neg h0]
  have h248 : Y 24 0 8 = S 6 0 3 - 1 := by rw [hu 24 (by decide) (by decide), zS_s]
  unfold RMZ at *
  rw [h24 1 (by decide) (by decide), h248, h24 11 (by decide) (by decide), h24 13 (by decide) (by decide), h24 14 (by decide) (by decide)]
  simp only [hF 0 rfl (by decide), hF 2 rfl (by decide), hF 3 rfl (by decide), hF 5 rfl (by decide), hF 11 rfl (by decide), hF 12 rfl (by decide), hF 13 rfl (by decide), (h15 _).1, (h15 _).2, m6, m9, m14, hk 25 (by decide) (by decide) (by decide), hk 26 (by decide) (by decide) (by decide), hk 28 (by decide) (by decide) (by decide), hk 31 (by decide) (by decide) (by decide), hk 32 (by decide) (by decide) (by decide), hk 30 (by decide) (by decide) (by decide), hk 35 (by decide) (by decide) (by decide), hk 36 (by decide) (by decide) (by decide), hk 37 (by decide) (by decide) (by decide), h34, h38]
  refine ⟨⟨h.1.1, by first | rfl | trivial, h.1.2.2.1, h.1.2.2.2.1, h.1.2.2.2.2⟩, h.2.1, h.2.2.1, h.2.2.2.1, fun k k0 k1 => ?_, h.2.2.2.2.2.1, fun w w0 w1 => ?_⟩
  · unfold gapF
    by_cases e : q ≤ k ∧ k < S 6 0 3 - 1
    · rw [if_pos e, if_pos e]; exact h.2.2.2.2.1 (k + 1) (by omega) (by omega)
    · rw [if_neg e, if_neg e]; exact h.2.2.2.2.1 k k0 (by omega)
  · have := h.2.2.2.2.2.2 w w0 w1
    refine ⟨this.1, this.2.1, ?_⟩
    unfold STLV
    rw [if_pos (show 0 ≤ w ∧ w < ((6 : Nat) : Int) from ⟨w0, by omega⟩), if_pos (show 0 ≤ w ∧ w < S 11 0 3 from ⟨w0, w1⟩)]
