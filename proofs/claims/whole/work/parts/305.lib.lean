/-! clone, checkcast, min, arraycopy over rows of numbers -/
section LIBS
variable {p : Program} {l : Launch} {e : Env} {R : Room} {s : State} {m : MethodId} {args : Array Value} {below : List Frame} {meth : Method} {c : Code} {Q : State → Prop}
variable {D : va_G} {cys : Nat → ClassId} {ad : Nat → Int → Nat} {A : Nat → Prop} {cc : ByteArray} {own : String} {nL : Nat} {cells slots : Nat} {L : List Nat} {g : Nat → va_E} {X : Int64} {Z : ZT} {pc : Nat} {vs : List (Nat × Value)} {st : List Value}
theorem nm_int (G : GG p l s m args meth c D cys ad A cc own nL) : s.vm.findClass "[I" = some (cys 0) := by
  have h : s.vm.findClass ("[" ++ (FieldType.int).toString) = some (cys 0) := (G.K.2 0 (cys 0, .int) rfl).2
  have e : "[" ++ FieldType.int.toString = "[I" := by decide +kernel
  rw [← e]
  exact h
/-- clone of what stands at a fixed place or another one: a row of numbers -/
theorem j_cloneX (G : GG p l s m args meth c D cys ad A cc own nL) {a q idx n : Nat} {f : Nat → Int32} {V : List Int} (hlk : Cond.methodLink own idx ⟨"[I", "clone", "()Ljava/lang/Object;"⟩ ∈ TW) (hd : decode cc pc = .ok (.invokevirtual idx, 3)) (hq : (MW cys ad L g X Z)[q]? = some (a, .inl (cys 0, n, .inl f))) (hx : (.inl (cys 0, n, .inl f) : va_E) = dA cys V)
    (hlo : 1 ≤ R.frames ∧ (st.map fun v => v.category).sum + 14 ≤ R.locals) (hc : cells + 1 ≤ R.cells ∧ slots + n ≤ R.slots)
    (kk : ∀ b : Nat, b ∉ L → ¬ isS ad b → JJ p l e R s m args below meth c D cys ad A Q nL (cells + 1) (slots + n) (L ++ [b]) (va_up g b (dA cys V)) X Z (pc + 3) vs (.ref b :: st)) :
    ∀ (H : Heap) (locs : List Loc) (ls : Array Slot), SL ad L → va_P D vwCl (MW cys ad L g X Z) H → va_D A (MW cys ad L g X Z) → va_S A s.heap H locs → lv_has ls nL vs → W p l e R s m args below meth c H locs cells slots Q (F0 m pc ls (.ref a :: st)) := by
  intro H locs ls hL hP hD hS hl
  refine va_clone (D := D) (cl := vwCl) G.x G.b (by rw [G.ml]; exact hl.1.symm) G.ow (G.ts _ hlk) (G.ts _ (TW_of 1106 (by decide +kernel) (by decide +kernel))) (G.ts _ (TW_of 1107 (by decide +kernel) (by decide +kernel))) (G.ts _ (TW_of 1108 (by decide +kernel) (by decide +kernel))) (G.ts _ (TW_of 1109 (by decide +kernel) (by decide +kernel))) (G.amb.2.2.1 _ (by simp [NGL])) G.K hP hD hS G.fr q 0 hq rfl (nm_int G)
    (fun i v h => va_fit (F := fun j => .int (f j)) (fun _ _ => rfl) i v h) hlo.1 hlo.2 hc.1 hc.2 hd (fun b H1 hK1 hP1 hD1 hS1 => ?_)
  have hb : b ∉ L := va_pl_fresh2 (X := []) (L := L) hD1
  have hns := nS_of hL hb
  rw [mw_push hb hns, hx] at hP1 hD1
  exact kk b hb hns H1 locs ls (fun k i h => List.mem_append_left _ (hL k i h)) hP1 hD1 hS1 hl
theorem j_clone (G : GG p l s m args meth c D cys ad A cc own nL) {a idx : Nat} {W : List Int} (hlk : Cond.methodLink own idx ⟨"[I", "clone", "()Ljava/lang/Object;"⟩ ∈ TW) (hd : decode cc pc = .ok (.invokevirtual idx, 3)) (hA : AR cys ad L g a W)
    (hlo : 1 ≤ R.frames ∧ (st.map fun v => v.category).sum + 14 ≤ R.locals) (hc : cells + 1 ≤ R.cells ∧ slots + W.length ≤ R.slots)
    (kk : ∀ b : Nat, b ∉ L → ¬ isS ad b → JJ p l e R s m args below meth c D cys ad A Q nL (cells + 1) (slots + W.length) (L ++ [b]) (va_up g b (dA cys W)) X Z (pc + 3) vs (.ref b :: st)) : JJ p l e R s m args below meth c D cys ad A Q nL cells slots L g X Z pc vs (.ref a :: st) := by
  intro H locs ls hL hP hD hS hl
  obtain ⟨q, hq⟩ := mw_dyn (cys := cys) (g := g) (X := X) (Z := Z) hA.1 hA.2.1
  rw [hA.2.2] at hq
  exact j_cloneX G hlk hd hq rfl hlo hc kk H locs ls hL hP hD hS hl
/-- clone of the row of a fixed place -/
theorem j_cloneS (G : GG p l s m args meth c D cys ad A cc own nL) (k : Nat) (i : Int) {N idx : Nat} {W : List Int} (hlk : Cond.methodLink own idx ⟨"[I", "clone", "()Ljava/lang/Object;"⟩ ∈ TW) (hd : decode cc pc = .ok (.invokevirtual idx, 3)) (hcc : ∀ z, cC cys ad k i X z = eI (cys 0) N z) (h : vd k i) (hWl : W.length = N) (hWv : ∀ j : Nat, j < N → W.getD j 0 = Z k i j)
    (hlo : 1 ≤ R.frames ∧ (st.map fun v => v.category).sum + 14 ≤ R.locals) (hc : cells + 1 ≤ R.cells ∧ slots + N ≤ R.slots)
    (kk : ∀ (b : Nat) (x : va_E), b ∉ L → ¬ isS ad b → x = .inl (cys 0, N, .inl (fun q => iI (Z k i q))) → JJ p l e R s m args below meth c D cys ad A Q nL (cells + 1) (slots + N) (L ++ [b]) (va_up g b x) X Z (pc + 3) vs (.ref b :: st)) : JJ p l e R s m args below meth c D cys ad A Q nL cells slots L g X Z pc vs (.ref (ad k i) :: st) := by
  intro H locs ls hL hP hD hS hl
  obtain ⟨q, hq⟩ := mw_get G.inj hL h (hcc (Z k i))
  refine va_clone (D := D) (cl := vwCl) G.x G.b (by rw [G.ml]; exact hl.1.symm) G.ow (G.ts _ hlk) (G.ts _ (TW_of 1106 (by decide +kernel) (by decide +kernel))) (G.ts _ (TW_of 1107 (by decide +kernel) (by decide +kernel))) (G.ts _ (TW_of 1108 (by decide +kernel) (by decide +kernel))) (G.ts _ (TW_of 1109 (by decide +kernel) (by decide +kernel))) (G.amb.2.2.1 _ (by simp [NGL])) G.K hP hD hS G.fr q 0 hq rfl (nm_int G)
    (fun i' v h => va_fit (F := fun j => .int (iI (Z k i j))) (fun _ _ => rfl) i' v h) hlo.1 hlo.2 hc.1 hc.2 hd (fun b H1 hK1 hP1 hD1 hS1 => ?_)
  have hb : b ∉ L := va_pl_fresh2 (X := []) (L := L) hD1
  have hns := nS_of hL hb
  rw [mw_push hb hns] at hP1 hD1
  exact kk b _ hb hns rfl H1 locs ls (fun k i h => List.mem_append_left _ (hL k i h)) hP1 hD1 hS1 hl
theorem j_castA (G : GG p l s m args meth c D cys ad A cc own nL) {a idx : Nat} {W : List Int} (hlk : Cond.classLink own idx "[I" ∈ TW) (hd : decode cc pc = .ok (.checkcast idx, 3)) (hA : AR cys ad L g a W)
    (kk : JJ p l e R s m args below meth c D cys ad A Q nL cells slots L g X Z (pc + 3) vs (.ref a :: st)) : JJ p l e R s m args below meth c D cys ad A Q nL cells slots L g X Z pc vs (.ref a :: st) := by
  intro H locs ls hL hP hD hS hl
  obtain ⟨q, hq⟩ := mw_dyn (cys := cys) (g := g) (X := X) (Z := Z) hA.1 hA.2.1
  rw [hA.2.2] at hq
  exact va_castA (D := D) G.x G.b G.ow (G.ts _ hlk) hP q hq (nm_int G) hd (kk H locs ls hL hP hD hS hl)
theorem j_min (G : GG p l s m args meth c D cys ad A cc own nL) {a b : Int} {idx : Nat} (hlink : Cond.methodLink own idx Lib.Math.min.name ∈ TW) (h1 : Cond.static Lib.Math.min.name ∈ TW) (h2 : Cond.initialized "java/lang/Math" ∈ TW) (h3 : Cond.code Lib.Math.min.name Lib.Math.min.code 2 (some .int) ∈ TW) (hd : decode cc pc = .ok (.invokestatic idx, 3)) (hf : 1 ≤ R.frames) (hlo : (st.map fun v => v.category).sum + 13 ≤ R.locals) (hc : cells ≤ R.cells) (hs : slots ≤ R.slots) (ha : inR a) (hb : inR b)
    (kk : JJ p l e R s m args below meth c D cys ad A Q nL cells slots L g X Z (pc + 3) vs (.int (iI (if b < a then b else a)) :: st)) : JJ p l e R s m args below meth c D cys ad A Q nL cells slots L g X Z pc vs (.int (iI b) :: .int (iI a) :: st) := by
  intro H locs ls hL hP hD hS hl
  refine va_mmin G.x G.b (by rw [G.ml]; exact hl.1.symm) G.ow (G.ts _ hlink) (G.ts _ h1) (G.ts _ h2) (G.ts _ h3) hf hlo hc hs hd ?_
  have e : (if iI b < iI a then iI b else iI a) = iI (if b < a then b else a) := by
    by_cases h : b < a
    · rw [if_pos ((iI_lt hb ha).mpr h), if_pos h]
    · rw [if_neg (fun z => h ((iI_lt hb ha).mp z)), if_neg h]
  rw [e]
  exact kk H locs ls hL hP hD hS hl
/-- the first n numbers of one row into the first n of another one -/
theorem j_copyA (G : GG p l s m args meth c D cys ad A cc own nL) {a b idx : Nat} {W V : List Int} {n : Int} (hlk : Cond.methodLink own idx arraycopyName ∈ TW) (hd : decode cc pc = .ok (.invokestatic idx, 3)) (hA : AR cys ad L g a W) (hB : AR cys ad L g b V) (h0 : 0 ≤ n) (h1 : n ≤ W.length) (h2 : n ≤ V.length) (hn : n ≤ 1000)
    (hlo : 1 ≤ R.frames ∧ (st.map fun v => v.category).sum + (nativeFrameWords "java/lang/System" "arraycopy" 5 + 11) ≤ R.locals)
    (kk : JJ p l e R s m args below meth c D cys ad A Q nL cells slots L (va_up g b (dA cys (W.take n.toNat ++ V.drop n.toNat))) X Z (pc + 3) vs st) : JJ p l e R s m args below meth c D cys ad A Q nL cells slots L g X Z pc vs (.int (iI n) :: .int (iI 0) :: .ref b :: .int (iI 0) :: .ref a :: st) := by
  intro H locs ls hL hP hD hS hl
  obtain ⟨q, hq⟩ := mw_dyn (cys := cys) (g := g) (X := X) (Z := Z) hA.1 hA.2.1
  obtain ⟨q1, hq1⟩ := mw_dyn (cys := cys) (g := g) (X := X) (Z := Z) hB.1 hB.2.1
  have hq10 := hq1
  rw [hA.2.2] at hq
  rw [hB.2.2] at hq1
  have en : (iI n).toNatClampNeg = n.toNat := iI_clamp h0 (by omega)
  have e0 : (iI 0).toNatClampNeg = 0 := by rw [iI_clamp (by omega) (by omega)]; rfl
  have z0 : ¬ iI 0 < 0 := by rw [← iI_0, iI_lt (by omega) (by omega)]; omega
  have zn : ¬ iI n < 0 := by rw [← iI_0, iI_lt (by omega) (by omega)]; omega
  refine va_copyi (D := D) (cl := vwCl) (tys := tysC cys) G.x G.b (by rw [G.ml]; exact hl.1.symm) G.ow (G.ts _ hlk) (G.ts _ (TW_of 1117 (by decide +kernel) (by decide +kernel))) (G.ts _ (TW_of 1116 (by decide +kernel) (by decide +kernel))) (G.ts _ (TW_of 88 (by decide +kernel) (by decide +kernel))) G.K hP hD hS q q1 0 0 hq hq1 rfl rfl rfl z0 z0 zn (by rw [en, e0]; omega) (by rw [en, e0]; omega) (fun _ _ => rfl) hlo.1 hlo.2 hd (fun H1 locs1 hP1 hD1 hS1 => ?_)
  have ex : (Sum.inl (cys 0, V.length, Sum.inl (va_cpy (fun q => iI (W.getD q 0)) (fun q => iI (V.getD q 0)) (iI 0).toNatClampNeg (iI 0).toNatClampNeg (iI n).toNatClampNeg)) : va_E) = dA cys (W.take n.toNat ++ V.drop n.toNat) := by
    unfold dA
    rw [List.length_append, List.length_take, List.length_drop, show min n.toNat W.length + (V.length - n.toNat) = V.length by omega]
    refine congrArg (fun f => Sum.inl (cys 0, V.length, Sum.inl f)) (funext fun k => ?_)
    rw [en, e0]
    unfold va_cpy
    dsimp only
    rw [List.getD_eq_getElem?_getD, List.getD_eq_getElem?_getD, List.getD_eq_getElem?_getD]
    by_cases hk : k < n.toNat
    · rw [if_pos ⟨by omega, by omega⟩, List.getElem?_append_left (by rw [List.length_take]; omega), List.getElem?_take_of_lt hk, show 0 + (k - 0) = k by omega]
    · rw [if_neg (by omega), List.getElem?_append_right (by rw [List.length_take]; omega), List.getElem?_drop, List.length_take, show n.toNat + (k - min n.toNat W.length) = k by omega]
  rw [ex, mw_up hD hB.1 hB.2.1 hq10] at hP1 hD1
  exact kk H1 locs1 ls hL hP1 hD1 hS1 hl
end LIBS
section LIBT
variable {p : Program} {l : Launch} {e : Env} {R : Room} {s : State} {m : MethodId} {args : Array Value} {below : List Frame} {meth : Method} {c : Code} {Q : State → Prop}
variable {D : va_G} {cys : Nat → ClassId} {ad : Nat → Int → Nat} {A : Nat → Prop} {cc : ByteArray} {own : String} {nL : Nat} {cells slots : Nat} {L : List Nat} {g : Nat → va_E} {X : Int64} {Z : ZT} {pc : Nat} {vs : List (Nat × Value)} {st : List Value}
/-- a static call of another class -/
theorem j_callT (G : GG p l s m args meth c D cys ad A cc own nL) {y : MethodName} {cc1 : ByteArray} {nL1 n fr lo mc ms idx : Nat} {ret : Option FieldType} {As rest : List Value} {post : PT}
    (cv : CS y cc1 nL1 ret n) (hlk : Cond.methodLink own idx y ∈ TW) (hM : CM l D cys ad y cc1 nL1 ret fr lo mc ms As L g X Z post) (hd : decode cc pc = .ok (.invokestatic idx, 3))
    (hR : fr + 1 ≤ R.frames ∧ 8 + (nL1 + 11) + lo ≤ R.locals) (hcs : cells + mc ≤ R.cells ∧ slots + ms ≤ R.slots) (hst : st = As.reverse ++ rest) (hn : As.length = n) (hrest : (rest.map fun v => v.category).sum ≤ 8)
    (kk : ∀ (v : Option Value) (L1 : List Nat) (g1 : Nat → va_E) (X1 : Int64) (Z1 : ZT), post v L1 g1 X1 Z1 → JJ p l e R s m args below meth c D cys ad A Q nL (cells + mc) (slots + ms) L1 g1 X1 Z1 (pc + 3) vs (v.toList ++ rest)) :
    JJ p l e R s m args below meth c D cys ad A Q nL cells slots L g X Z pc vs st := by
  intro H locs ls hL hP hD hS hl
  obtain ⟨c1, c3, c4, c5, c6, c7⟩ := cv
  have hG : GoodIn TW (va_wsS own idx y (.code y cc1 nL1 ret :: TW)) := TW_sub (fun w hw => by
    rcases List.mem_append.mp hw with h | h
    · simp only [List.mem_cons, List.not_mem_nil, or_false] at h
      rcases h with rfl | rfl | rfl <;> assumption
    · rcases List.mem_cons.mp h with rfl | h
      · exact c4
      · exact h)
  exact j_run G hL hD hS hl (va_runS (As := As) (rest := rest) ⟨G.x, G.b, G.ml, G.ow, G.ts⟩ (hM H.size) (va_cwS (bytes := cc1) (maxL := nL1) (ret := ret) (ws' := TW) n G.ts hG rfl rfl rfl ⟨c5, c6, c7⟩ hR) ⟨WU.blind, fun U hU hW => ⟨rfl, wu_call G hL hP hD hS hU hW⟩⟩ rfl hn hl.1 hst (lv_room hrest) hd hcs) kk
theorem j_cTGA (G : GG p l s m args meth c D cys ad A cc own nL) {y : MethodName} {cc1 : ByteArray} {nL1 n fr lo mc ms idx : Nat} {ret : Option FieldType} {As rest : List Value} {P : Nat → List Nat → (Nat → va_E) → Int64 → ZT → Prop}
    (cv : CS y cc1 nL1 ret n) (hlk : Cond.methodLink own idx y ∈ TW) (hM : CM l D cys ad y cc1 nL1 ret fr lo mc ms As L g X Z (PGA L g X Z P)) (hd : decode cc pc = .ok (.invokestatic idx, 3))
    (hR : fr + 1 ≤ R.frames ∧ 8 + (nL1 + 11) + lo ≤ R.locals) (hcs : cells + mc ≤ R.cells ∧ slots + ms ≤ R.slots) (hst : st = As.reverse ++ rest) (hn : As.length = n) (hrest : (rest.map fun v => v.category).sum ≤ 8) (kk : ∀ (r : Nat) (L1 : List Nat) (g1 : Nat → va_E) (X1 : Int64) (Z1 : ZT), P r L1 g1 X1 Z1 → JJ p l e R s m args below meth c D cys ad A Q nL (cells + mc) (slots + ms) L1 g1 X1 Z1 (pc + 3) vs (.ref r :: rest)) : JJ p l e R s m args below meth c D cys ad A Q nL cells slots L g X Z pc vs st := by
  refine j_callT G cv hlk hM hd hR hcs hst hn hrest (fun v L1 g1 X1 Z1 h => ?_)
  obtain ⟨r, rfl, h2⟩ := h
  exact kk r _ _ _ _ h2
theorem j_cTVZ (G : GG p l s m args meth c D cys ad A cc own nL) {y : MethodName} {cc1 : ByteArray} {nL1 n fr lo idx : Nat} {ret : Option FieldType} {As rest : List Value} {P : ZT → Prop}
    (cv : CS y cc1 nL1 ret n) (hlk : Cond.methodLink own idx y ∈ TW) (hM : CM l D cys ad y cc1 nL1 ret fr lo 0 0 As L g X Z (PVZ L g X Z P)) (hd : decode cc pc = .ok (.invokestatic idx, 3))
    (hR : fr + 1 ≤ R.frames ∧ 8 + (nL1 + 11) + lo ≤ R.locals) (hcs : cells ≤ R.cells ∧ slots ≤ R.slots) (hst : st = As.reverse ++ rest) (hn : As.length = n) (hrest : (rest.map fun v => v.category).sum ≤ 8) (kk : ∀ Z1 : ZT, P Z1 → JJ p l e R s m args below meth c D cys ad A Q nL cells slots L g X Z1 (pc + 3) vs rest) : JJ p l e R s m args below meth c D cys ad A Q nL cells slots L g X Z pc vs st := by
  refine j_callT G cv hlk hM hd hR hcs hst hn hrest (fun v L1 g1 X1 Z1 h => ?_)
  obtain ⟨rfl, h2, rfl, rfl, rfl⟩ := h
  exact kk _ h2
end LIBT
