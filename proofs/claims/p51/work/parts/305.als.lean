/-! lists of small numbers: java.util.ArrayList over the table of small Integers -/
def ICF (ad : Nat → Int → Nat) (f : Nat → Option Nat) (W : List Int) : Prop := ∀ i : Nat, i < W.length → f i = some (ad 41 (W.getD i 0 + 128))
def SMW (W : List Int) : Prop := ∀ x ∈ W, 0 ≤ x ∧ x < 100
/-- only ones of the table of small Integers -/
def ICO (ad : Nat → Int → Nat) (f : Nat → Option Nat) (n : Nat) : Prop := ∀ i : Nat, i < n → ∀ y, f i = some y → ∃ x : Int, 0 ≤ x ∧ x < 256 ∧ y = ad 41 x
/-- an Object[], made here or ArrayList's empty one -/
def ES (cys : Nat → ClassId) (ad : Nat → Int → Nat) (L : List Nat) (g : Nat → va_E) (e N : Nat) (f : Nat → Option Nat) : Prop := (e = ad 42 1 ∧ N = 0) ∨ QR ad L g (cys 2) e N f
theorem ES.ext {cys : Nat → ClassId} {ad : Nat → Int → Nat} {L L' : List Nat} {g g' : Nat → va_E} {a N : Nat} {f : Nat → Option Nat} (h : ES cys ad L g a N f) (e : EXT L g L' g') : ES cys ad L' g' a N f := h.imp id (fun q => q.ext e)
/-- a list's object and its array, none of them among L0's -/
def ALS (cys : Nat → ClassId) (ad : Nat → Int → Nat) (L0 L : List Nat) (g : Nat → va_E) (a : Nat) (W : List Int) : Prop := a ∉ L0 ∧ SMW W ∧ ∃ (mc : Int) (e N : Nat) (f : Nat → Option Nat), OB ad L g a 9 [.int (iI mc), .ref e, .int (iI W.length)] ∧ ES cys ad L g e N f ∧ (N ≠ 0 → e ∉ L0) ∧ (N = 0 → e = ad 42 1) ∧ W.length ≤ N ∧ N ≤ 40 ∧ ICF ad f W ∧ ICO ad f N
theorem ALS.ext {cys : Nat → ClassId} {ad : Nat → Int → Nat} {L0 L L' : List Nat} {g g' : Nat → va_E} {a : Nat} {W : List Int} (h : ALS cys ad L0 L g a W) (x : EXT L g L' g') : ALS cys ad L0 L' g' a W := by
  obtain ⟨h1, h2, mc, e, N, f, h3, h4, h5⟩ := h
  exact ⟨h1, h2, mc, e, N, f, h3.ext x, h4.ext x, h5⟩
theorem getD_app1 {W V : List Int} {i : Nat} (h : i < W.length) : (W ++ V).getD i 0 = W.getD i 0 := by
  rw [List.getD_eq_getElem?_getD, List.getD_eq_getElem?_getD, List.getElem?_append_left h]
theorem getD_app2 {W V : List Int} {i : Nat} (h : W.length ≤ i) : (W ++ V).getD i 0 = V.getD (i - W.length) 0 := by
  rw [List.getD_eq_getElem?_getD, List.getD_eq_getElem?_getD, List.getElem?_append_right h]
theorem SMW.at {W : List Int} (h : SMW W) {i : Nat} (hi : i < W.length) : 0 ≤ W.getD i 0 ∧ W.getD i 0 < 100 := by
  rw [List.getD_eq_getElem?_getD, List.getElem?_eq_getElem hi]
  exact h _ (List.getElem_mem _)
/-- the array of a list that gets another's elements -/
theorem ICF.app {ad : Nat → Int → Nat} {f h : Nat → Option Nat} {W V : List Int} (hf : ICF ad f W) (hh : ICF ad h V) : ICF ad (va_cpy h f 0 W.length V.length) (W ++ V) := by
  intro i hi
  rw [List.length_append] at hi
  by_cases e : i < W.length
  · rw [pk_cpy_out (Or.inl e), hf i e, getD_app1 e]
  · rw [pk_cpy_in (by omega) (by omega), Nat.zero_add, hh _ (by omega), getD_app2 (by omega)]
theorem ICF.cpy {ad : Nat → Int → Nat} {f h : Nat → Option Nat} {W : List Int} {n : Nat} (hf : ICF ad f W) (hn : W.length ≤ n) : ICF ad (va_cpy f h 0 0 n) W := by
  intro i hi
  rw [pk_cpy_in (by omega) (by omega), Nat.zero_add, Nat.sub_zero]
  exact hf i hi
theorem ICF.congr {ad : Nat → Int → Nat} {f h : Nat → Option Nat} {W : List Int} {n : Nat} (hf : ICF ad f W) (hn : W.length ≤ n) (e : ∀ i, i < n → h i = f i) : ICF ad h W := fun i hi => by rw [e i (by omega)]; exact hf i hi
theorem cpy_0 (f h : Nat → Option Nat) (k : Nat) : va_cpy f h 0 k 0 = h := by
  funext i
  rw [pk_cpy_out (by omega)]
theorem ICO.cpy {ad : Nat → Int → Nat} {f h : Nat → Option Nat} {n M sp dp k : Nat} (hf : ICO ad f n) (hh : ICO ad h M) (hn : sp + k ≤ n) : ICO ad (va_cpy f h sp dp k) M := by
  intro i hi y hy
  by_cases e : dp ≤ i ∧ i < dp + k
  · rw [pk_cpy_in e.1 e.2] at hy
    exact hf _ (by omega) y hy
  · rw [pk_cpy_out (by omega)] at hy
    exact hh i hi y hy
theorem ICO.no {ad : Nat → Int → Nat} {M : Nat} : ICO ad (fun _ => none) M := fun i hi y hy => by cases hy
theorem ICF.o {ad : Nat → Int → Nat} {f : Nat → Option Nat} {W : List Int} (h : ICF ad f W) (hs : SMW W) : ICO ad f W.length := by
  intro i hi y hy
  rw [h i hi] at hy
  cases hy
  have := hs.at hi
  exact ⟨_, by omega, by omega, rfl⟩
section ALR
variable {p : Program} {l : Launch} {e : Env} {R : Room} {s : State} {m : MethodId} {args : Array Value} {below : List Frame} {meth : Method} {c : Code} {Q : State → Prop}
variable {D : va_G} {cys : Nat → ClassId} {ad : Nat → Int → Nat} {A : Nat → Prop} {cc : ByteArray} {own : String} {nL : Nat} {cells slots : Nat} {L : List Nat} {g : Nat → va_E} {X : Int64} {Z : ZT} {pc : Nat} {vs : List (Nat × Value)} {st : List Value}
theorem js_len (G : GG p l s m args meth c D cys ad A cc own nL) {a N : Nat} {f : Nat → Option Nat} (h : ES cys ad L g a N f) (hd : decode cc pc = .ok (.arraylength, 1)) (kk : JJ p l e R s m args below meth c D cys ad A Q nL cells slots L g X Z (pc + 1) vs (.int (iI N) :: st)) : JJ p l e R s m args below meth c D cys ad A Q nL cells slots L g X Z pc vs (.ref a :: st) := by
  rcases h with ⟨rfl, rfl⟩ | h
  · exact je_len G hd kk
  · exact jq_len G 2 h rfl hd kk
theorem rvES (G : GG p l s m args meth c D cys ad A cc own nL) {a N : Nat} {f : Nat → Option Nat} (h : ES cys ad L g a N f) : ∀ (H : Heap) (locs : List Loc), va_P D vwCl (MW cys ad L g X Z) H → va_S A s.heap H locs → ∃ cell : Cell, H[a]? = some cell ∧ cell.vm.isStatics = false ∧ s.vm.findClass obA = some cell.cls := by
  rcases h with ⟨rfl, -⟩ | h
  · exact rvE G
  · exact rvQ G h
theorem js_copy (G : GG p l s m args meth c D cys ad A cc own nL) {a b N M idx : Nat} {f h : Nat → Option Nat} {n : Int} (hA : ES cys ad L g a N f) (hB : QR ad L g (cys 2) b M h) (hlk : Cond.methodLink own idx arraycopyName ∈ TW) (w1 : Cond.native arraycopyName ∈ TW) (w2 : Cond.static arraycopyName ∈ TW) (w3 : Cond.initialized "java/lang/System" ∈ TW) (hd : decode cc pc = .ok (.invokestatic idx, 3)) (n0 : 0 ≤ n) (h1 : n ≤ N) (h2 : n ≤ M) (hN : N ≤ 1000) (hM : M ≤ 1000)
    (hel : ICO ad f n.toNat)
    (hlo : 1 ≤ R.frames ∧ (st.map fun v => v.category).sum + (nativeFrameWords "java/lang/System" "arraycopy" 5 + 11) ≤ R.locals)
    (kk : JJ p l e R s m args below meth c D cys ad A Q nL cells slots L (va_up g b (eQ (cys 2) M (va_cpy f h 0 0 n.toNat))) X Z (pc + 3) vs st) : JJ p l e R s m args below meth c D cys ad A Q nL cells slots L g X Z pc vs (.int (iI n) :: .int (iI 0) :: .ref b :: .int (iI 0) :: .ref a :: st) := by
  rcases hA with ⟨rfl, rfl⟩ | hA
  · have en : n = 0 := by omega
    subst en
    refine je_copy G hB hlk w1 w2 w3 hd hlo ?_
    rw [cpy_0]
    rw [show (0 : Int).toNat = 0 from rfl, cpy_0] at kk
    exact kk
  · refine jq_copy G hA hB hlk w1 w2 w3 hd (by omega) (by omega) n0 (by omega) (by omega) hN hM (fun i hi y hy => ?_) hlo kk
    rw [show (0 : Int).toNat + i = i by omega] at hy
    exact hel i hi y hy
theorem j_objInit (G : GG p l s m args meth c D cys ad A cc own nL) {a idx : Nat} (hlk : Cond.methodLink own idx Lib.objectInit ∈ TW) (w1 : Cond.instanceMethod Lib.objectInit ∈ TW) (w2 : Cond.code Lib.objectInit ⟨#[0xb1]⟩ 1 none ∈ TW) (hd : decode cc pc = .ok (.invokespecial idx, 3)) (hf : 1 ≤ R.frames) (hlo : (st.map fun v => v.category).sum + 12 ≤ R.locals) (kk : JJ p l e R s m args below meth c D cys ad A Q nL cells slots L g X Z (pc + 3) vs st) : JJ p l e R s m args below meth c D cys ad A Q nL cells slots L g X Z pc vs (.ref a :: st) := by
  intro H locs ls hL hP hD hS hl
  refine W.objInit G.x G.b G.ow (G.ts _ hlk) (G.ts _ w1) (G.ts _ w2) rfl (by rw [G.ml]; exact hl.1) rfl hd hf ?_ ?_
  · show 2 * 0 + _ + 12 ≤ _
    omega
  · exact W.eq (g2 := F0 m (pc + 3) ls st) rfl (kk H locs ls hL hP hD hS hl)
end ALR
