/-! objects and rows of references at other places than the fixed ones; calls on them -/
def OB (ad : Nat → Int → Nat) (L : List Nat) (g : Nat → va_E) (a ci : Nat) (fs : List Value) : Prop := a ∈ L ∧ ¬ isS ad a ∧ g a = .inr (ci, fs)
def QR (ad : Nat → Int → Nat) (L : List Nat) (g : Nat → va_E) (cA : ClassId) (a N : Nat) (f : Nat → Option Nat) : Prop := a ∈ L ∧ ¬ isS ad a ∧ g a = eQ cA N f
theorem OB.ext {ad : Nat → Int → Nat} {L L' : List Nat} {g g' : Nat → va_E} {a ci : Nat} {fs : List Value} (h : OB ad L g a ci fs) (e : EXT L g L' g') : OB ad L' g' a ci fs := ⟨e.1 _ h.1, h.2.1, (e.2 _ h.1).trans h.2.2⟩
theorem QR.ext {ad : Nat → Int → Nat} {L L' : List Nat} {g g' : Nat → va_E} {cA : ClassId} {a N : Nat} {f : Nat → Option Nat} (h : QR ad L g cA a N f) (e : EXT L g L' g') : QR ad L' g' cA a N f := ⟨e.1 _ h.1, h.2.1, (e.2 _ h.1).trans h.2.2⟩
theorem OB.up {ad : Nat → Int → Nat} {L : List Nat} {g : Nat → va_E} {a b ci : Nat} {fs : List Value} {x : va_E} (h : OB ad L g a ci fs) (hb : a ≠ b) : OB ad L (va_up g b x) a ci fs := ⟨h.1, h.2.1, by rw [va_up_ne _ _ hb]; exact h.2.2⟩
theorem QR.up {ad : Nat → Int → Nat} {L : List Nat} {g : Nat → va_E} {cA : ClassId} {a b N : Nat} {f : Nat → Option Nat} {x : va_E} (h : QR ad L g cA a N f) (hb : a ≠ b) : QR ad L (va_up g b x) cA a N f := ⟨h.1, h.2.1, by rw [va_up_ne _ _ hb]; exact h.2.2⟩
theorem AR.upn {cys : Nat → ClassId} {ad : Nat → Int → Nat} {L : List Nat} {g : Nat → va_E} {a b : Nat} {W : List Int} {x : va_E} (h : AR cys ad L g a W) (hb : a ≠ b) : AR cys ad L (va_up g b x) a W := ⟨h.1, h.2.1, by rw [va_up_ne _ _ hb]; exact h.2.2⟩
theorem OB.nQ {ad : Nat → Int → Nat} {L : List Nat} {g : Nat → va_E} {cA : ClassId} {a b ci N : Nat} {fs : List Value} {f : Nat → Option Nat} (h : OB ad L g a ci fs) (h2 : QR ad L g cA b N f) : a ≠ b := by
  rintro rfl
  have := h.2.2.symm.trans h2.2.2
  cases this
theorem OB.nA {cys : Nat → ClassId} {ad : Nat → Int → Nat} {L : List Nat} {g : Nat → va_E} {a b ci : Nat} {fs : List Value} {W : List Int} (h : OB ad L g a ci fs) (h2 : AR cys ad L g b W) : a ≠ b := by
  rintro rfl
  have := h.2.2.symm.trans h2.2.2
  cases this
section OBS
variable {p : Program} {l : Launch} {e : Env} {R : Room} {s : State} {m : MethodId} {args : Array Value} {below : List Frame} {meth : Method} {c : Code} {Q : State → Prop}
variable {D : va_G} {cys : Nat → ClassId} {ad : Nat → Int → Nat} {A : Nat → Prop} {cc : ByteArray} {own : String} {nL : Nat} {cells slots : Nat} {L : List Nat} {g : Nat → va_E} {X : Int64} {Z : ZT} {pc : Nat} {vs : List (Nat × Value)} {st : List Value}
theorem hsameF (G : GG p l s m args meth c D cys ad A cc own nL) {ref o n d : String} (h : o = ref ∨ Cond.sameField ref o n d ∈ TW) : ∀ x, s.fieldFound? o n d = some x → s.fieldFound? ref n d = some x := by
  intro x hx
  rcases h with h | h
  · rw [← h]; exact hx
  · exact u_same (G.ts _ h) x hx
theorem jo_get (G : GG p l s m args meth c D cys ad A cc own nL) {a ci N : Nat} {C ref : String} {T : u_T} {fs : List Value} {v : Value} {idx : Nat} (n : Nat) (hO : OB ad L g a ci fs) (hd : decode cc pc = .ok (.getfield idx, 3)) (hcl : vwCl[ci]? = some (C, T, N)) (hf : fs[n]? = some v) (hn : n < N) (hlink : Cond.fieldLink own idx ref (T n).2.1 (T n).2.2.1 ∈ TW) (hs : (T n).1 = ref ∨ Cond.sameField ref (T n).1 (T n).2.1 (T n).2.2.1 ∈ TW) (hin : ∀ w ∈ u_ws C T N, w ∈ TW) (kk : JJ p l e R s m args below meth c D cys ad A Q nL cells slots L g X Z (pc + 3) vs (v :: st)) : JJ p l e R s m args below meth c D cys ad A Q nL cells slots L g X Z pc vs (.ref a :: st) := by
  intro H locs ls hL hP hD hS hl
  obtain ⟨q, hq⟩ := mw_dyn (cys := cys) (g := g) (X := X) (Z := Z) hO.1 hO.2.1
  rw [hO.2.2] at hq
  exact va_get (D := D) (ci := ci) (v := v) (C := C) (T := T) (N := N) G.x G.b G.ts hin G.ow G.K hP q hq hcl n hn (G.ts _ hlink) (hsameF G hs) hf hd (kk H locs ls hL hP hD hS hl)
theorem jo_getN (G : GG p l s m args meth c D cys ad A cc own nL) {a ci N : Nat} {C ref host : String} {T : u_T} {fs : List Value} {v : Value} {idx : Nat} (n : Nat) (hO : OB ad L g a ci fs) (hd : decode cc pc = .ok (.getfield idx, 3)) (hcl : vwCl[ci]? = some (C, T, N)) (hf : fs[n]? = some v) (hn : n < N) (hlink : (own, idx, ref, (T n).2.1, (T n).2.2.1, host) ∈ NFL) (hs : (T n).1 = ref ∨ Cond.sameField ref (T n).1 (T n).2.1 (T n).2.2.1 ∈ TW) (hin : ∀ w ∈ u_ws C T N, w ∈ TW) (kk : JJ p l e R s m args below meth c D cys ad A Q nL cells slots L g X Z (pc + 3) vs (v :: st)) : JJ p l e R s m args below meth c D cys ad A Q nL cells slots L g X Z pc vs (.ref a :: st) := by
  intro H locs ls hL hP hD hS hl
  obtain ⟨q, hq⟩ := mw_dyn (cys := cys) (g := g) (X := X) (Z := Z) hO.1 hO.2.1
  rw [hO.2.2] at hq
  have hN := G.amx.2.2.2.2.2.2.2.2.2.1.2 _ hlink
  exact va_getN (D := D) (ci := ci) (v := v) (C := C) (T := T) (N := N) G.x G.b G.ts hin G.ow G.K hP q hq hcl n hn (va_Nw.use rfl hN) (hsameF G hs) hf hd (kk H locs ls hL hP hD hS hl)
theorem jo_put (G : GG p l s m args meth c D cys ad A cc own nL) {a ci N : Nat} {C ref : String} {T : u_T} {ty0 : Nat → FieldType} {ty : FieldType} {fs : List Value} {v : Value} {idx : Nat} (n : Nat) (hO : OB ad L g a ci fs) (hd : decode cc pc = .ok (.putfield idx, 3)) (hcl : vwCl[ci]? = some (C, T, N)) (hn : n < N) (hlen : n < fs.length) (hlink : Cond.fieldLink own idx ref (T n).2.1 (T n).2.2.1 ∈ TW) (hs : (T n).1 = ref ∨ Cond.sameField ref (T n).1 (T n).2.1 (T n).2.2.1 ∈ TW) (hfin : (T n).2.2.2 = false) (hin : ∀ w ∈ u_ws C T N, w ∈ TW) (hty : ∀ k, k < N → parseFieldDescriptor (T k).2.2.1 = some (ty0 k)) (hnm : ∀ a, a < N → ∀ b, b < N → a ≠ b → (T a).2.1 ≠ (T b).2.1) (hpd : parseFieldDescriptor (T n).2.2.1 = some ty) (hnar : narrow ty v = v) (hfit : fits ty v = true)
    (kk : JJ p l e R s m args below meth c D cys ad A Q nL cells slots L (va_up g a (.inr (ci, fs.set n v))) X Z (pc + 3) vs st) : JJ p l e R s m args below meth c D cys ad A Q nL cells slots L g X Z pc vs (v :: .ref a :: st) := by
  intro H locs ls hL hP hD hS hl
  obtain ⟨q, hq⟩ := mw_dyn (cys := cys) (g := g) (X := X) (Z := Z) hO.1 hO.2.1
  have hq0 := hq
  rw [hO.2.2] at hq
  refine va_put (D := D) (ci := ci) (v := v) (ty := ty) (C := C) (T := T) (N := N) G.x G.b G.ts hin ty0 hty hnm G.ow G.K hP hD hS q hq hcl n hn (G.ts _ hlink) (hsameF G hs) hfin hpd hnar hfit hlen hd (fun H1 locs1 hP1 hD1 hS1 => ?_)
  rw [mw_up hD hO.1 hO.2.1 hq0] at hP1 hD1
  exact kk H1 locs1 ls hL hP1 hD1 hS1 hl
theorem jo_new (G : GG p l s m args meth c D cys ad A cc own nL) {C : String} {T : u_T} {N ci idx : Nat} {ty : Nat → FieldType} {fs : List Value} (hcl : vwCl[ci]? = some (C, T, N)) (hin : ∀ w ∈ u_ws C T N, w ∈ TW) (hty : ∀ k, k < N → parseFieldDescriptor (T k).2.2.1 = some (ty k)) (hfs : ∀ j, j < N → defaultValue (ty j) = vp_V fs j) (hlk : Cond.classLink own idx C ∈ TW) (hinst : Cond.instantiable C N ∈ TW) (hini : Cond.initialized C ∈ TW) (hd : decode cc pc = .ok (.new idx, 3)) (hc : cells + 1 ≤ R.cells ∧ slots + N ≤ R.slots)
    (kk : ∀ a : Nat, a ∉ L → ¬ isS ad a → JJ p l e R s m args below meth c D cys ad A Q nL (cells + 1) (slots + N) (L ++ [a]) (va_up g a (.inr (ci, fs))) X Z (pc + 3) vs (.ref a :: st)) : JJ p l e R s m args below meth c D cys ad A Q nL cells slots L g X Z pc vs st := by
  intro H locs ls hL hP hD hS hl
  refine va_new (D := D) G.x G.b G.ts hin ty hty G.ow (G.ts _ hlk) (G.ts _ hinst) (G.ts _ hini) G.K hP hD hS G.fr hcl hfs hc.1 hc.2 hd (fun q H1 hP1 hD1 hS1 => ?_)
  have hq : q ∉ L := va_pl_fresh2 (X := []) (L := L) hD1
  have hns := nS_of hL hq
  rw [mw_push hq hns] at hP1 hD1
  exact kk q hq hns H1 locs ls (fun k i h => List.mem_append_left _ (hL k i h)) hP1 hD1 hS1 hl
theorem cyG (h : va_K D vwCl (tysC cys) s) {k : Nat} {cA cB : ClassId} {ty : FieldType} (ht : (tysC cys)[k]? = some (cB, ty)) (hK : va_K D vwCl (tysC cys ++ [(cA, ty)]) s) : cA = cB := by
  have e1 := (hK.2 6 (cA, ty) rfl).2
  have e2 := (h.2 k (cB, ty) ht).2
  cases ty with
  | object C =>
    obtain ⟨-, -, -, -, -, h4⟩ := e1
    obtain ⟨-, -, -, -, -, g4⟩ := e2
    exact Option.some.inj (h4.symm.trans g4)
  | _ => exact Option.some.inj (Eq.trans (Eq.symm e1) e2)
/-- new Object[n] -/
theorem jq_new (G : GG p l s m args meth c D cys ad A cc own nL) {n : Int} {idx : Nat} (hlk : Cond.classLink own idx "java/lang/Object" ∈ TW) (hd : decode cc pc = .ok (.anewarray idx, 3)) (h0 : 0 ≤ n) (h1 : n ≤ 1000) (hc : cells + 1 ≤ R.cells ∧ slots + n.toNat ≤ R.slots)
    (kk : ∀ a : Nat, a ∉ L → ¬ isS ad a → JJ p l e R s m args below meth c D cys ad A Q nL (cells + 1) (slots + n.toNat) (L ++ [a]) (va_up g a (eQ (cys 2) n.toNat (fun _ => none))) X Z (pc + 3) vs (.ref a :: st)) : JJ p l e R s m args below meth c D cys ad A Q nL cells slots L g X Z pc vs (.int (iI n) :: st) := by
  intro H locs ls hL hP hD hS hl
  refine va_newq (D := D) G.x G.b G.ow (G.ts _ hlk) G.amx.2.2.2.2.1 G.K hP hD hS G.fr (N' := n.toNat) ?_ (iI_clamp h0 (by omega)) (by omega) hc.1 hc.2 hd (fun q cA H1 hK1 hP1 hD1 hS1 => ?_)
  · rw [← iI_0, iI_lt (by omega) (by omega)]; omega
  · have hq : q ∉ L := va_pl_fresh2 (X := []) (L := L) hD1
    have hns := nS_of hL hq
    have ec := cyG G.K (k := 2) rfl hK1
    subst ec
    rw [mw_push hq hns] at hP1 hD1
    exact kk q hq hns H1 locs ls (fun k i h => List.mem_append_left _ (hL k i h)) hP1 hD1 hS1 hl
theorem jq_len (G : GG p l s m args meth c D cys ad A cc own nL) {a N : Nat} {cA : ClassId} {f : Nat → Option Nat} {ty : FieldType} (t0 : Nat) (hQ : QR ad L g cA a N f) (ht : (tysC cys)[t0]? = some (cA, ty)) (hd : decode cc pc = .ok (.arraylength, 1)) (kk : JJ p l e R s m args below meth c D cys ad A Q nL cells slots L g X Z (pc + 1) vs (.int (iI N) :: st)) : JJ p l e R s m args below meth c D cys ad A Q nL cells slots L g X Z pc vs (.ref a :: st) := by
  intro H locs ls hL hP hD hS hl
  obtain ⟨q, hq⟩ := mw_dyn (cys := cys) (g := g) (X := X) (Z := Z) hQ.1 hQ.2.1
  rw [hQ.2.2] at hq
  exact va_alen (D := D) G.x G.b G.K hP q t0 hq ht (iI_nat N).symm hd (kk H locs ls hL hP hD hS hl)
/-- the length of ArrayList's empty array -/
theorem je_len (G : GG p l s m args meth c D cys ad A cc own nL) (hd : decode cc pc = .ok (.arraylength, 1)) (kk : JJ p l e R s m args below meth c D cys ad A Q nL cells slots L g X Z (pc + 1) vs (.int (iI 0) :: st)) : JJ p l e R s m args below meth c D cys ad A Q nL cells slots L g X Z pc vs (.ref (ad 42 1) :: st) := by
  intro H locs ls hL hP hD hS hl
  exact va_tlen G.x G.b G.amx.2.2.1.2.1 hS (iI_nat 0).symm hd (kk H locs ls hL hP hD hS hl)
theorem jq_ld (G : GG p l s m args meth c D cys ad A cc own nL) {a N b : Nat} {f : Nat → Option Nat} {j : Int} (hQ : QR ad L g (cys 2) a N f) (hd : decode cc pc = .ok (.aaload, 1)) (hN : N < 2 ^ 31) (h0 : 0 ≤ j) (h1 : j < N) (hf : f j.toNat = some b) (kk : JJ p l e R s m args below meth c D cys ad A Q nL cells slots L g X Z (pc + 1) vs (.ref b :: st)) : JJ p l e R s m args below meth c D cys ad A Q nL cells slots L g X Z pc vs (.int (iI j) :: .ref a :: st) := by
  intro H locs ls hL hP hD hS hl
  obtain ⟨q, hq⟩ := mw_dyn (cys := cys) (g := g) (X := X) (Z := Z) hQ.1 hQ.2.1
  rw [hQ.2.2] at hq
  refine va_aldq (D := D) G.x G.b G.K hP q 2 hq rfl (iI_in h0 h1 hN) hd ?_
  rw [iI_clamp h0 (by omega), hf]
  exact kk H locs ls hL hP hD hS hl
theorem icAsg (G : GG p l s m args meth c D cys ad A cc own nL) : ∀ comp c0 : ClassId, s.vm.findClass "java/lang/Object" = some comp → s.vm.findClass "java/lang/Integer" = some c0 → s.vm.assignable c0 comp = true := fun comp c0 h1 h2 => vb_asgC (G.amb.2.2.1 _ (by simp [NGL])) comp c0 h1 h2
theorem icRecv (G : GG p l s m args meth c D cys ad A cc own nL) {H : Heap} {locs : List Loc} (hS : va_S A s.heap H locs) {x : Int} (h0 : 0 ≤ x) (h1 : x < 256) : ∃ cell : Cell, H[ad 41 x]? = some cell ∧ cell.vm.isStatics = false ∧ s.vm.findClass "java/lang/Integer" = some cell.cls := by
  have h := G.amx.2.1.1.1 x.toNat (by omega)
  simp only [Int.toNat_of_nonneg h0] at h
  exact va_Orecv h hS
/-- a small Integer is stored in an Object[] -/
theorem jq_st (G : GG p l s m args meth c D cys ad A cc own nL) {a N : Nat} {f : Nat → Option Nat} {j x : Int} (hQ : QR ad L g (cys 2) a N f) (x0 : 0 ≤ x) (x1 : x < 256) (hd : decode cc pc = .ok (.aastore, 1)) (hN : N < 2 ^ 31) (h0 : 0 ≤ j) (h1 : j < N) (kk : JJ p l e R s m args below meth c D cys ad A Q nL cells slots L (va_up g a (eQ (cys 2) N (va_up f j.toNat (some (ad 41 x))))) X Z (pc + 1) vs st) : JJ p l e R s m args below meth c D cys ad A Q nL cells slots L g X Z pc vs (.ref (ad 41 x) :: .int (iI j) :: .ref a :: st) := by
  intro H locs ls hL hP hD hS hl
  obtain ⟨q, hq⟩ := mw_dyn (cys := cys) (g := g) (X := X) (Z := Z) hQ.1 hQ.2.1
  have hq0 := hq
  rw [hQ.2.2] at hq
  refine vb_astq (D := D) (E := "java/lang/Object") (C := "java/lang/Integer") G.x G.b G.K hP hD hS q 2 hq rfl (icRecv G hS x0 x1) (icAsg G) (iI_in h0 h1 hN) hd (fun H1 locs1 hP1 hD1 hS1 => ?_)
  rw [iI_clamp h0 (by omega), mw_up hD hQ.1 hQ.2.1 hq0] at hP1 hD1
  exact kk H1 locs1 ls hL hP1 hD1 hS1 hl
theorem j_gets (G : GG p l s m args meth c D cys ad A cc own nL) {C n d : String} {v : Value} {idx : Nat} (hZ : va_Z C n d v A s s.heap) (hlk : Cond.fieldLink own idx C n d ∈ TW) (hd : decode cc pc = .ok (.getstatic idx, 3)) (kk : JJ p l e R s m args below meth c D cys ad A Q nL cells slots L g X Z (pc + 3) vs (v :: st)) : JJ p l e R s m args below meth c D cys ad A Q nL cells slots L g X Z pc vs st := by
  intro H locs ls hL hP hD hS hl
  exact va_gets G.x G.b hZ hS G.ow (G.ts _ hlk) (fun _ h => h) hd (kk H locs ls hL hP hD hS hl)
/-- the table of small Integers -/
theorem jc_ld (G : GG p l s m args meth c D cys ad A cc own nL) {j : Int} (hd : decode cc pc = .ok (.aaload, 1)) (h0 : 0 ≤ j) (h1 : j < 256) (kk : JJ p l e R s m args below meth c D cys ad A Q nL cells slots L g X Z (pc + 1) vs (.ref (ad 41 j) :: st)) : JJ p l e R s m args below meth c D cys ad A Q nL cells slots L g X Z pc vs (.int (iI j) :: .ref (ad 42 0) :: st) := by
  intro H locs ls hL hP hD hS hl
  refine vb_tq (v := .ref (ad 41 j)) G.x G.b G.amx.2.1.2.2.2 hS (iI_in h0 h1 (by decide)) (by rw [iI_clamp h0 (by omega)]; simp only [Int.toNat_of_nonneg h0]) hd ?_
  exact kk H locs ls hL hP hD hS hl
theorem j_dup_x1 (G : GG p l s m args meth c D cys ad A cc own nL) {a b : Nat} (hd : decode cc pc = .ok (.dup_x1, 1)) (kk : JJ p l e R s m args below meth c D cys ad A Q nL cells slots L g X Z (pc + 1) vs (.ref a :: .ref b :: .ref a :: st)) : JJ p l e R s m args below meth c D cys ad A Q nL cells slots L g X Z pc vs (.ref a :: .ref b :: st) :=
  fun H locs ls hL hP hD hS hl => lv_dup_x1 G.x G.b hd rfl rfl (kk H locs ls hL hP hD hS hl)
theorem j_null (G : GG p l s m args meth c D cys ad A cc own nL) (hd : decode cc pc = .ok (.aconst_null, 1)) (kk : JJ p l e R s m args below meth c D cys ad A Q nL cells slots L g X Z (pc + 1) vs (.null :: st)) : JJ p l e R s m args below meth c D cys ad A Q nL cells slots L g X Z pc vs st :=
  fun H locs ls hL hP hD hS hl => lv_null G.x G.b hd (kk H locs ls hL hP hD hS hl)
theorem j_ldc (G : GG p l s m args meth c D cys ad A cc own nL) {idx : Nat} {v : Int32} (z : Int) (hz : v = iI z) (hk : Cond.constant own idx v ∈ TW) (hd : decode cc pc = .ok (.ldc idx, 2)) (kk : JJ p l e R s m args below meth c D cys ad A Q nL cells slots L g X Z (pc + 2) vs (.int (iI z) :: st)) : JJ p l e R s m args below meth c D cys ad A Q nL cells slots L g X Z pc vs st := by
  subst hz
  exact fun H locs ls hL hP hD hS hl => lv_ldc G.x G.b G.ow (G.ts _ hk) hd (kk H locs ls hL hP hD hS hl)
theorem j_irem (G : GG p l s m args meth c D cys ad A cc own nL) {a b z : Int} (hb : inR b) (h0 : b ≠ 0) (hz : iI a - iI a / iI b * iI b = iI z) (hd : decode cc pc = .ok (.irem, 1)) (kk : JJ p l e R s m args below meth c D cys ad A Q nL cells slots L g X Z (pc + 1) vs (.int (iI z) :: st)) : JJ p l e R s m args below meth c D cys ad A Q nL cells slots L g X Z pc vs (.int (iI b) :: .int (iI a) :: st) := by
  intro H locs ls hL hP hD hS hl
  refine lv_irem G.x G.b hd (fun q => h0 (iI_inj hb (by omega) (by rw [q, iI_0]))) ?_
  rw [hz]
  exact kk H locs ls hL hP hD hS hl
/-- two references that are one -/
theorem j_acmpS (G : GG p l s m args meth c D cys ad A cc own nL) {a : Nat} {off : Int} (tgt : Nat) (hd : decode cc pc = .ok (.if_acmp .eq off, 3)) (ht : (pc : Int) + off = (tgt : Int)) (kk : JJ p l e R s m args below meth c D cys ad A Q nL cells slots L g X Z tgt vs st) : JJ p l e R s m args below meth c D cys ad A Q nL cells slots L g X Z pc vs (.ref a :: .ref a :: st) :=
  fun H locs ls hL hP hD hS hl => lv_acmp_eq (rx := some a) (ry := some a) G.x G.b hd ht (fun _ => kk H locs ls hL hP hD hS hl) (fun h => absurd rfl h)
theorem j_acmpN (G : GG p l s m args meth c D cys ad A cc own nL) {a : Nat} {off : Int} (tgt : Nat) (hd : decode cc pc = .ok (.if_acmp .ne off, 3)) (ht : (pc : Int) + off = (tgt : Int)) (kk : JJ p l e R s m args below meth c D cys ad A Q nL cells slots L g X Z (pc + 3) vs st) : JJ p l e R s m args below meth c D cys ad A Q nL cells slots L g X Z pc vs (.ref a :: .ref a :: st) :=
  fun H locs ls hL hP hD hS hl => lv_acmp_ne (rx := some a) (ry := some a) G.x G.b hd ht (fun h => absurd rfl h) (fun _ => kk H locs ls hL hP hD hS hl)
/-- System.arraycopy of small Integers from one Object[] into another -/
theorem jq_copy (G : GG p l s m args meth c D cys ad A cc own nL) {a b N M idx : Nat} {f h : Nat → Option Nat} {sp dp n : Int} (hA : QR ad L g (cys 2) a N f) (hB : QR ad L g (cys 2) b M h) (hlk : Cond.methodLink own idx arraycopyName ∈ TW) (w1 : Cond.native arraycopyName ∈ TW) (w2 : Cond.static arraycopyName ∈ TW) (w3 : Cond.initialized "java/lang/System" ∈ TW) (hd : decode cc pc = .ok (.invokestatic idx, 3)) (s0 : 0 ≤ sp) (d0 : 0 ≤ dp) (n0 : 0 ≤ n) (h1 : sp + n ≤ N) (h2 : dp + n ≤ M) (hN : N ≤ 1000) (hM : M ≤ 1000)
    (hel : ∀ i : Nat, i < n.toNat → ∀ y, f (sp.toNat + i) = some y → ∃ x : Int, 0 ≤ x ∧ x < 256 ∧ y = ad 41 x)
    (hlo : 1 ≤ R.frames ∧ (st.map fun v => v.category).sum + (nativeFrameWords "java/lang/System" "arraycopy" 5 + 11) ≤ R.locals)
    (kk : JJ p l e R s m args below meth c D cys ad A Q nL cells slots L (va_up g b (eQ (cys 2) M (va_cpy f h sp.toNat dp.toNat n.toNat))) X Z (pc + 3) vs st) : JJ p l e R s m args below meth c D cys ad A Q nL cells slots L g X Z pc vs (.int (iI n) :: .int (iI dp) :: .ref b :: .int (iI sp) :: .ref a :: st) := by
  intro H locs ls hL hP hD hS hl
  obtain ⟨q, hq⟩ := mw_dyn (cys := cys) (g := g) (X := X) (Z := Z) hA.1 hA.2.1
  obtain ⟨q1, hq1⟩ := mw_dyn (cys := cys) (g := g) (X := X) (Z := Z) hB.1 hB.2.1
  have hq10 := hq1
  rw [hA.2.2] at hq
  rw [hB.2.2] at hq1
  have en : (iI n).toNatClampNeg = n.toNat := iI_clamp n0 (by omega)
  have es : (iI sp).toNatClampNeg = sp.toNat := iI_clamp s0 (by omega)
  have ed : (iI dp).toNatClampNeg = dp.toNat := iI_clamp d0 (by omega)
  have zz : ∀ z : Int, 0 ≤ z → z ≤ 1000 → ¬ iI z < 0 := fun z z0 z1 => by rw [← iI_0, iI_lt (by omega) (by omega)]; omega
  refine va_copyq (D := D) (cl := vwCl) (tys := tysC cys) (E0 := "java/lang/Object") (E1 := "java/lang/Object") (C := "java/lang/Integer") G.x G.b (by rw [G.ml]; exact hl.1.symm) G.ow (G.ts _ hlk) (G.ts _ w1) (G.ts _ w2) (G.ts _ w3) G.K hP hD hS q q1 2 2 hq hq1 rfl rfl (zz _ s0 (by omega)) (zz _ d0 (by omega)) (zz _ n0 (by omega)) (by rw [en, es]; omega) (by rw [en, ed]; omega) (fun i hi y hy => ?_) (icAsg G) hlo.1 hlo.2 hd (fun H1 locs1 hP1 hD1 hS1 => ?_)
  · rw [en] at hi
    rw [es] at hy
    obtain ⟨x, x0, x1, rfl⟩ := hel i hi y hy
    exact icRecv G hS x0 x1
  · rw [en, es, ed, mw_up hD hB.1 hB.2.1 hq10] at hP1 hD1
    exact kk H1 locs1 ls hL hP1 hD1 hS1 hl
/-- .. of nothing, from ArrayList's empty array -/
theorem je_copy (G : GG p l s m args meth c D cys ad A cc own nL) {b M idx : Nat} {h : Nat → Option Nat} (hB : QR ad L g (cys 2) b M h) (hlk : Cond.methodLink own idx arraycopyName ∈ TW) (w1 : Cond.native arraycopyName ∈ TW) (w2 : Cond.static arraycopyName ∈ TW) (w3 : Cond.initialized "java/lang/System" ∈ TW) (hd : decode cc pc = .ok (.invokestatic idx, 3))
    (hlo : 1 ≤ R.frames ∧ (st.map fun v => v.category).sum + (nativeFrameWords "java/lang/System" "arraycopy" 5 + 11) ≤ R.locals)
    (kk : JJ p l e R s m args below meth c D cys ad A Q nL cells slots L (va_up g b (eQ (cys 2) M (va_cpy (fun _ => none) h 0 0 0))) X Z (pc + 3) vs st) : JJ p l e R s m args below meth c D cys ad A Q nL cells slots L g X Z pc vs (.int (iI 0) :: .int (iI 0) :: .ref b :: .int (iI 0) :: .ref (ad 42 1) :: st) := by
  intro H locs ls hL hP hD hS hl
  obtain ⟨q1, hq1⟩ := mw_dyn (cys := cys) (g := g) (X := X) (Z := Z) hB.1 hB.2.1
  have hq10 := hq1
  rw [hB.2.2] at hq1
  have e0 : (iI 0).toNatClampNeg = 0 := by rw [iI_clamp (by omega) (by omega)]; rfl
  have z0 : ¬ iI 0 < 0 := by rw [← iI_0, iI_lt (by omega) (by omega)]; omega
  refine va_copyg (D := D) (cl := vwCl) (tys := tysC cys) (E1 := "java/lang/Object") G.x G.b (by rw [G.ml]; exact hl.1.symm) G.ow (G.ts _ hlk) (G.ts _ w1) (G.ts _ w2) (G.ts _ w3) G.K hP hD hS q1 2 G.amx.2.2.1.2.1 hq1 rfl z0 z0 z0 (by rw [e0]; omega) (by rw [e0]; omega) hlo.1 hlo.2 hd (fun H1 locs1 hP1 hD1 hS1 => ?_)
  rw [e0, mw_up hD hB.1 hB.2.1 hq10] at hP1 hD1
  exact kk H1 locs1 ls hL hP1 hD1 hS1 hl
/-- the value of a small Integer -/
theorem jc_val (G : GG p l s m args meth c D cys ad A cc own nL) {x : Int} {idx : Nat} (h0 : 0 ≤ x) (h1 : x < 256) (hlk : Cond.fieldLink own idx "java/lang/Integer" "value" "I" ∈ TW) (hd : decode cc pc = .ok (.getfield idx, 3)) (kk : JJ p l e R s m args below meth c D cys ad A Q nL cells slots L g X Z (pc + 3) vs (.int (iI (x - 128)) :: st)) : JJ p l e R s m args below meth c D cys ad A Q nL cells slots L g X Z pc vs (.ref (ad 41 x) :: st) := by
  intro H locs ls hL hP hD hS hl
  have e1 : MW cys ad L g X Z ++ va_pl [] (fun _ => (.inr (8, [.int 0]) : va_E)) = MW cys ad L g X Z := by simp [va_pl]
  refine vb_get (D := D) (cl := vwCl) (tys := tysC cys) (X := MW cys ad L g X Z) (LP := []) (pv := fun _ => 0) (ad := fun k => ad 41 k) (y := ad 41 x) (v := iI (x - 128)) (ci := 8) G.x G.b G.ts inTI G.ow G.amx.2.1.1 hS G.K (by rw [e1]; exact hP) rfl ⟨rfl, rfl, rfl⟩ (Or.inr ⟨x.toNat, by omega, by simp only [Int.toNat_of_nonneg h0], ?_⟩) (G.ts _ hlk) (fun _ h => h) hd (kk H locs ls hL hP hD hS hl)
  unfold vb_c
  have e2 : Int32.ofNat x.toNat = iI x := by
    rw [← show nI x.toNat = Int32.ofNat x.toNat from rfl, ← iI_nat, Int.toNat_of_nonneg h0]
  rw [e2, show (128 : Int32) = iI 128 by decide +kernel, iI_sub]
theorem jc_cast (G : GG p l s m args meth c D cys ad A cc own nL) {x : Int} {idx : Nat} (h0 : 0 ≤ x) (h1 : x < 256) (hlk : Cond.classLink own idx "java/lang/Integer" ∈ TW) (hd : decode cc pc = .ok (.checkcast idx, 3)) (kk : JJ p l e R s m args below meth c D cys ad A Q nL cells slots L g X Z (pc + 3) vs (.ref (ad 41 x) :: st)) : JJ p l e R s m args below meth c D cys ad A Q nL cells slots L g X Z pc vs (.ref (ad 41 x) :: st) := by
  intro H locs ls hL hP hD hS hl
  have hc : ClassAt s "java/lang/Integer" (D.1 8) := (G.K.1 8 _ rfl).2
  exact va_castS G.x G.b G.ow (G.ts _ hlk) hc (icRecv G hS h0 h1) hd (kk H locs ls hL hP hD hS hl)
/-- getClass of an Object[] -/
theorem qRecv (G : GG p l s m args meth c D cys ad A cc own nL) {a N : Nat} {f : Nat → Option Nat} {H : Heap} (hQ : QR ad L g (cys 2) a N f) (hP : va_P D vwCl (MW cys ad L g X Z) H) : ∃ cell : Cell, H[a]? = some cell ∧ cell.vm.isStatics = false ∧ s.vm.findClass obA = some cell.cls := by
  obtain ⟨q, hq⟩ := mw_dyn (cys := cys) (g := g) (X := X) (Z := Z) hQ.1 hQ.2.1
  rw [hQ.2.2] at hq
  refine ⟨_, hP q _ hq, rfl, ?_⟩
  exact va_nmO (G.K.2 2 (cys 2, .object "java/lang/Object") rfl).2 (by decide +kernel)
theorem jm_getC (G : GG p l s m args meth c D cys ad A cc own nL) {a idx : Nat} (hr : ∀ (H : Heap) (locs : List Loc), va_P D vwCl (MW cys ad L g X Z) H → va_S A s.heap H locs → ∃ cell : Cell, H[a]? = some cell ∧ cell.vm.isStatics = false ∧ s.vm.findClass obA = some cell.cls) (hlk : Cond.methodLink own idx ⟨"java/lang/Object", "getClass", "()Ljava/lang/Class;"⟩ ∈ TW) (w1 : Cond.selects obA ⟨"java/lang/Object", "getClass", "()Ljava/lang/Class;"⟩ ⟨"java/lang/Object", "getClass", "()Ljava/lang/Class;"⟩ ∈ TW) (w2 : Cond.instanceMethod ⟨"java/lang/Object", "getClass", "()Ljava/lang/Class;"⟩ ∈ TW) (w3 : Cond.native ⟨"java/lang/Object", "getClass", "()Ljava/lang/Class;"⟩ ∈ TW) (hlo : 1 ≤ R.frames ∧ (st.map fun v => v.category).sum + 14 ≤ R.locals) (hd : decode cc pc = .ok (.invokevirtual idx, 3)) (kk : JJ p l e R s m args below meth c D cys ad A Q nL cells slots L g X Z (pc + 3) vs (.ref (ad 42 2) :: st)) : JJ p l e R s m args below meth c D cys ad A Q nL cells slots L g X Z pc vs (.ref a :: st) := by
  intro H locs ls hL hP hD hS hl
  exact va_getC G.x G.b (by rw [G.ml]; exact hl.1.symm) G.ow (G.ts _ hlk) (va_Nw.use rfl (G.amb.2.2.1 _ (by simp [NGL]))) (G.ts _ w1) (G.ts _ w2) (G.ts _ w3) G.amx.2.2.2.1 (hr H locs hP hS) hlo.1 hlo.2 hd (kk H locs ls hL hP hD hS hl)
theorem jm_ldc (G : GG p l s m args meth c D cys ad A cc own nL) {idx : Nat} (hlk : Cond.classLink own idx obA ∈ TW) (hd : decode cc pc = .ok (.ldc idx, 2)) (kk : JJ p l e R s m args below meth c D cys ad A Q nL cells slots L g X Z (pc + 2) vs (.ref (ad 42 2) :: st)) : JJ p l e R s m args below meth c D cys ad A Q nL cells slots L g X Z pc vs st := by
  intro H locs ls hL hP hD hS hl
  exact va_ldcM G.x G.b G.ow (G.ts _ hlk) G.amx.2.2.2.1 hd (kk H locs ls hL hP hD hS hl)
/-- a virtual call, its receiver anything of the method's class -/
theorem j_callR (G : GG p l s m args meth c D cys ad A cc own nL) {y : MethodName} {cc1 : ByteArray} {nL1 n fr lo mc ms idx b : Nat} {ret : Option FieldType} {As rest : List Value} {post : PT}
    (cv : CV y cc1 nL1 ret n) (hlk : Cond.methodLink own idx y ∈ TW) (hM : CM l D cys ad y cc1 nL1 ret fr lo mc ms (.ref b :: As) L g X Z post) (hd : decode cc pc = .ok (.invokevirtual idx, 3))
    (hR : fr + 1 ≤ R.frames ∧ 8 + (nL1 + 11) + lo ≤ R.locals) (hcs : cells + mc ≤ R.cells ∧ slots + ms ≤ R.slots) (hst : st = As.reverse ++ .ref b :: rest) (hn : As.length = n) (hrest : (rest.map fun v => v.category).sum ≤ 8)
    (hrv : ∀ (H : Heap) (locs : List Loc), va_P D vwCl (MW cys ad L g X Z) H → va_S A s.heap H locs → ∃ cell : Cell, H[b]? = some cell ∧ cell.vm.isStatics = false ∧ s.vm.findClass y.cls = some cell.cls)
    (kk : ∀ (v : Option Value) (L1 : List Nat) (g1 : Nat → va_E) (X1 : Int64) (Z1 : ZT), post v L1 g1 X1 Z1 → JJ p l e R s m args below meth c D cys ad A Q nL (cells + mc) (slots + ms) L1 g1 X1 Z1 (pc + 3) vs (v.toList ++ rest)) :
    JJ p l e R s m args below meth c D cys ad A Q nL cells slots L g X Z pc vs st := by
  intro H locs ls hL hP hD hS hl
  obtain ⟨c1, c2, c3, c4, c5, c6, c7⟩ := cv
  have hG : GoodIn TW (wsV own idx y.cls y (.code y cc1 nL1 ret :: TW)) := TW_sub (fun w hw => by
    rcases List.mem_append.mp hw with h | h
    · simp only [List.mem_cons, List.not_mem_nil, or_false] at h
      rcases h with rfl | rfl | rfl | rfl <;> assumption
    · rcases List.mem_cons.mp h with rfl | h
      · exact c4
      · exact h)
  exact j_run G hL hD hS hl (va_runV (C := y.cls) (As := As) (rest := rest) (b := b) ⟨G.x, G.b, G.ml, G.ow, G.ts⟩ (hM H.size) (cwV (bytes := cc1) (maxL := nL1) (ret := ret) (ws' := TW) n G.ts hG rfl rfl rfl ⟨rfl, c5, c6, c7⟩ hR) ⟨WU.blind, hrv H locs hP hS, fun U hU hW => ⟨rfl, wu_call G hL hP hD hS hU hW⟩⟩ rfl hn hl.1 hst (lv_room hrest) hd hcs) kk
theorem rvO (G : GG p l s m args meth c D cys ad A cc own nL) {a ci : Nat} {fs : List Value} {q1 : vw_C} {C : String} (hO : OB ad L g a ci fs) (hq1 : vwCl[ci]? = some q1) (hq2 : q1.1 = C) : ∀ (H : Heap) (locs : List Loc), va_P D vwCl (MW cys ad L g X Z) H → va_S A s.heap H locs → ∃ cell : Cell, H[a]? = some cell ∧ cell.vm.isStatics = false ∧ s.vm.findClass C = some cell.cls := by
  intro H locs hP hS
  obtain ⟨q, hq⟩ := mw_dyn (cys := cys) (g := g) (X := X) (Z := Z) hO.1 hO.2.1
  rw [hO.2.2] at hq
  have h9 := va_recv G.K hP hq1 hq
  rw [hq2] at h9
  exact h9
theorem rvI (G : GG p l s m args meth c D cys ad A cc own nL) {x : Int} (h0 : 0 ≤ x) (h1 : x < 256) : ∀ (H : Heap) (locs : List Loc), va_P D vwCl (MW cys ad L g X Z) H → va_S A s.heap H locs → ∃ cell : Cell, H[ad 41 x]? = some cell ∧ cell.vm.isStatics = false ∧ s.vm.findClass "java/lang/Integer" = some cell.cls := fun _ _ _ hS => icRecv G hS h0 h1
theorem rvQ (G : GG p l s m args meth c D cys ad A cc own nL) {a N : Nat} {f : Nat → Option Nat} (hQ : QR ad L g (cys 2) a N f) : ∀ (H : Heap) (locs : List Loc), va_P D vwCl (MW cys ad L g X Z) H → va_S A s.heap H locs → ∃ cell : Cell, H[a]? = some cell ∧ cell.vm.isStatics = false ∧ s.vm.findClass obA = some cell.cls := fun _ _ hP _ => qRecv G hQ hP
theorem rvE (G : GG p l s m args meth c D cys ad A cc own nL) : ∀ (H : Heap) (locs : List Loc), va_P D vwCl (MW cys ad L g X Z) H → va_S A s.heap H locs → ∃ cell : Cell, H[ad 42 1]? = some cell ∧ cell.vm.isStatics = false ∧ s.vm.findClass obA = some cell.cls := fun _ _ _ hS => va_Orecv G.amx.2.2.1.2.2 hS
/-- a constructor's call -/
theorem j_callI (G : GG p l s m args meth c D cys ad A cc own nL) {y : MethodName} {cc1 : ByteArray} {nL1 n fr lo mc ms idx b : Nat} {As rest : List Value} {post : PT}
    (c1 : Cond.instanceMethod y ∈ TW) (c2 : Cond.initialized y.cls ∈ TW) (c3 : Cond.code y cc1 nL1 none ∈ TW) (c4 : y.cls ≠ "java/lang/invoke/MethodHandle" ∧ y.cls ≠ "java/lang/invoke/VarHandle" ∧ (parseMethodDescriptor y.desc).map (fun d => d.parameters.length) = some n) (c5 : y.name = "<init>") (hlk : Cond.methodLink own idx y ∈ TW) (hM : CM l D cys ad y cc1 nL1 none fr lo mc ms (.ref b :: As) L g X Z post) (hd : decode cc pc = .ok (.invokespecial idx, 3))
    (hR : fr + 1 ≤ R.frames ∧ 8 + (nL1 + 11) + lo ≤ R.locals) (hcs : cells + mc ≤ R.cells ∧ slots + ms ≤ R.slots) (hst : st = As.reverse ++ .ref b :: rest) (hn : As.length = n) (hrest : (rest.map fun v => v.category).sum ≤ 8)
    (kk : ∀ (v : Option Value) (L1 : List Nat) (g1 : Nat → va_E) (X1 : Int64) (Z1 : ZT), post v L1 g1 X1 Z1 → JJ p l e R s m args below meth c D cys ad A Q nL (cells + mc) (slots + ms) L1 g1 X1 Z1 (pc + 3) vs (v.toList ++ rest)) :
    JJ p l e R s m args below meth c D cys ad A Q nL cells slots L g X Z pc vs st := by
  intro H locs ls hL hP hD hS hl
  have hG : GoodIn TW (.code y cc1 nL1 none :: TW) := TW_sub (fun w hw => by
    rcases List.mem_cons.mp hw with rfl | h
    · exact c3
    · exact h)
  exact j_run G hL hD hS hl (va_runI (As := As) (rest := rest) (b := b) ⟨G.x, G.b, G.ml, G.ow, G.ts⟩ (hM H.size) (cwI (bytes := cc1) (maxL := nL1) (ws' := TW) n G.ts hG rfl rfl rfl (G.ts _ c2) (G.ts _ hlk) (G.ts _ c1) c5 c4 hR) ⟨WU.blind, fun U hU hW => ⟨rfl, wu_call G hL hP hD hS hU hW⟩⟩ rfl hn hl.1 hst (lv_room hrest) hd hcs) kk
/-- a static call by a nest's link -/
theorem j_callSN (G : GG p l s m args meth c D cys ad A cc own nL) {y : MethodName} {cc1 : ByteArray} {nL1 n fr lo mc ms idx : Nat} {ret : Option FieldType} {As rest : List Value} {post : PT} {host : String}
    (cv : CS y cc1 nL1 ret n) (hlk : (own, idx, y, host) ∈ NML) (hM : CM l D cys ad y cc1 nL1 ret fr lo mc ms As L g X Z post) (hd : decode cc pc = .ok (.invokestatic idx, 3))
    (hR : fr + 1 ≤ R.frames ∧ 8 + (nL1 + 11) + lo ≤ R.locals) (hcs : cells + mc ≤ R.cells ∧ slots + ms ≤ R.slots) (hst : st = As.reverse ++ rest) (hn : As.length = n) (hrest : (rest.map fun v => v.category).sum ≤ 8)
    (kk : ∀ (v : Option Value) (L1 : List Nat) (g1 : Nat → va_E) (X1 : Int64) (Z1 : ZT), post v L1 g1 X1 Z1 → JJ p l e R s m args below meth c D cys ad A Q nL (cells + mc) (slots + ms) L1 g1 X1 Z1 (pc + 3) vs (v.toList ++ rest)) :
    JJ p l e R s m args below meth c D cys ad A Q nL cells slots L g X Z pc vs st := by
  intro H locs ls hL hP hD hS hl
  obtain ⟨c1, c3, c4, c5, c6, c7⟩ := cv
  have hG : GoodIn TW (.code y cc1 nL1 ret :: TW) := TW_sub (fun w hw => by
    rcases List.mem_cons.mp hw with rfl | h
    · exact c4
    · exact h)
  exact j_run G hL hD hS hl (va_runSN (As := As) (rest := rest) ⟨G.x, G.b, G.ml, G.ow, G.ts⟩ (hM H.size) ⟨va_cnB (host := host) (bytes := cc1) (maxL := nL1) (ret := ret) (ws' := TW) n G.ts hG rfl rfl rfl (G.amx.2.2.2.2.2.2.2.2.2.1.1 _ hlk) (G.ts _ c3) ⟨c5, c6, c7⟩ hR, G.ts _ c1, trivial⟩ ⟨WU.blind, fun U hU hW => ⟨rfl, wu_call G hL hP hD hS hU hW⟩⟩ rfl hn hl.1 hst (lv_room hrest) hd hcs) kk
theorem j_run5 (G : GG p l s m args meth c D cys ad A cc own nL) {H : Heap} {locs : List Loc} {ls : Array Slot} {mc ms : Nat} {rest st0 : List Value} {av : Array Value} {post : PT} (hL : SL ad L) (hD : va_D A (MW cys ad L g X Z)) (hS : va_S A s.heap H locs) (hl : lv_has ls nL vs)
    (hr : va_Run5 p l e R s m args below meth c H locs cells slots mc ms (F0 m pc ls st0) rest (Qm D cys ad (va_A (MW cys ad L g X Z) H.size) post av) (va_A (MW cys ad L g X Z) H.size))
    (kk : ∀ (v : Option Value) (L1 : List Nat) (g1 : Nat → va_E) (X1 : Int64) (Z1 : ZT), post v L1 g1 X1 Z1 → JJ p l e R s m args below meth c D cys ad A Q nL (cells + mc) (slots + ms) L1 g1 X1 Z1 (pc + 5) vs (v.toList ++ rest)) : W p l e R s m args below meth c H locs cells slots Q (F0 m pc ls st0) := by
  have hAA : ∀ q, va_A (MW cys ad L g X Z) H.size q → A q := by
    intro q hq
    rcases hq with ⟨k, x, hk⟩ | hq
    · exact hD.2 k (q, x) hk
    · exact G.fr q (Nat.le_trans hS.1 hq)
  intro T hT Xs
  obtain ⟨v, st₀, t, T', L0, h0, X', hL0, e1, e2, ⟨⟨v', L1, g1, X1, Z1, hv, hp, hL1, hP1, hD1⟩, hz, hk⟩, stp⟩ := hr T hT Xs
  cases hv
  rw [h0] at hz hk
  obtain ⟨t2, a1, b1⟩ := kk v L1 g1 X1 Z1 hp T'.heap (locs ++ L0) ls hL1 (by rw [e1]; exact hP1) (hD1.weaken (fun _ _ _ h => hAA _ h))
    ⟨Nat.le_trans hS.1 (by rw [e1]; exact hz), fun q h1 h2 => by rw [e1, hk q (Nat.lt_of_lt_of_le h1 hS.1) (fun z => h2 (hAA q z))]; exact hS.2.1 q h1 h2, fun q hq => by
      rcases List.mem_append.mp hq with h | h
      · exact hS.2.2 q h
      · exact hAA _ (hL0 q h)⟩ hl T' rfl X'
  exact ⟨t2, stp t2 a1, b1⟩
/-- c.toArray() of an ArrayList, by Collection's name -/
theorem j_callF (G : GG p l s m args meth c D cys ad A cc own nL) {cc1 : ByteArray} {nL1 fr lo mc ms idx cnt b : Nat} {ret : Option FieldType} {fs : List Value} {rest : List Value} {post : PT} (w1 : Cond.methodLink own idx yColl ∈ TW) (w2 : Cond.selects alC yColl yJx4a65c_toArray_d5877 ∈ TW) (w3 : Cond.instanceMethod yJx4a65c_toArray_d5877 ∈ TW) (w4 : Cond.initialized alC ∈ TW) (w5 : Cond.code yJx4a65c_toArray_d5877 cc1 nL1 ret ∈ TW) (hO : OB ad L g b 9 fs) (hM : CM l D cys ad yJx4a65c_toArray_d5877 cc1 nL1 ret fr lo mc ms [.ref b] L g X Z post) (hd : decode cc pc = .ok (.invokeinterface idx cnt, 5))
    (hR : fr + 1 ≤ R.frames ∧ 8 + (nL1 + 11) + lo ≤ R.locals) (hcs : cells + mc ≤ R.cells ∧ slots + ms ≤ R.slots) (hrest : (rest.map fun v => v.category).sum ≤ 8)
    (kk : ∀ (v : Option Value) (L1 : List Nat) (g1 : Nat → va_E) (X1 : Int64) (Z1 : ZT), post v L1 g1 X1 Z1 → JJ p l e R s m args below meth c D cys ad A Q nL (cells + mc) (slots + ms) L1 g1 X1 Z1 (pc + 5) vs (v.toList ++ rest)) :
    JJ p l e R s m args below meth c D cys ad A Q nL cells slots L g X Z pc vs (.ref b :: rest) := by
  intro H locs ls hL hP hD hS hl
  have hG : GoodIn TW (va_wsF own idx alC yColl yJx4a65c_toArray_d5877 (.code yJx4a65c_toArray_d5877 cc1 nL1 ret :: TW)) := TW_sub (fun w hw => by
    rcases List.mem_append.mp hw with h | h
    · simp only [List.mem_cons, List.not_mem_nil, or_false] at h
      rcases h with rfl | rfl | rfl | rfl
      · exact w1
      · exact w2
      · exact w3
      · exact w4
    · rcases List.mem_cons.mp h with rfl | h
      · exact w5
      · exact h)
  have hat : ClassAt s alC (D.1 9) := (G.K.1 9 _ rfl).2
  exact j_run5 G hL hD hS hl (va_runF (C := alC) (x := yColl) (As := []) (rest := rest) (b := b) hat ⟨G.x, G.b, G.ml, G.ow, G.ts⟩ (hM H.size) (va_cwF (bytes := cc1) (maxL := nL1) (ret := ret) (ws' := TW) 0 G.ts hG rfl rfl rfl G.amx.2.2.2.2.2.2.2.1 ⟨by decide +kernel, by decide +kernel, by decide +kernel⟩ hR) ⟨WU.blind, rvO G hO rfl rfl H locs hP hS, fun U hU hW => ⟨rfl, wu_call G hL hP hD hS hU hW⟩⟩ rfl rfl hl.1 rfl (lv_room hrest) hd hcs) kk
end OBS
