/-! the law's World: its object and its arrays -/
def WMX (cys : Nat → ClassId) (ad : Nat → Int → Nat) (L : List Nat) (g : Nat → va_E) (aw : Nat) (n nf : Int) (dp mb pa io pt lf va : Nat) (rw : Int → Nat) (f8 : Nat → Option Nat) (Wd Wm Wt V9 : List Int) (P : Int → List Int) : Prop :=
  OB ad L g aw 7 [.int (iI n), .ref dp, .ref mb, .ref pa, .ref io, .ref pt, .int (iI nf), .ref lf, .ref va] ∧ AR cys ad L g dp Wd ∧ AR cys ad L g mb Wm ∧
  (∃ f9 : Nat → Option Nat, QR ad L g (cys 4) pa n.toNat f9 ∧ ∀ d, 0 ≤ d → d < n → f9 d.toNat = some (rw d)) ∧ (∀ d, 0 ≤ d → d < n → AR cys ad L g (rw d) (P d) ∧ (P d).length = 24) ∧ AR cys ad L g pt Wt ∧ QR ad L g (cys 4) lf 80 f8 ∧ AR cys ad L g va V9 ∧
  (Wd.length = n.toNat ∧ Wm.length = n.toNat ∧ Wt.length = n.toNat ∧ V9.length = 80 ∧ 2 ≤ n ∧ n ≤ 3) ∧
  (dp ≠ mb ∧ dp ≠ pt ∧ dp ≠ va ∧ mb ≠ pt ∧ mb ≠ va ∧ pt ≠ va ∧ lf ≠ pa) ∧ (∀ d, 0 ≤ d → d < n → rw d ≠ dp ∧ rw d ≠ mb ∧ rw d ≠ pt ∧ rw d ≠ va) ∧ (∀ d d', 0 ≤ d → d < n → 0 ≤ d' → d' < n → d ≠ d' → rw d ≠ rw d')
theorem AR.nQ {cys : Nat → ClassId} {ad : Nat → Int → Nat} {L : List Nat} {g : Nat → va_E} {cA : ClassId} {a b N : Nat} {W : List Int} {f : Nat → Option Nat} (h : AR cys ad L g a W) (h2 : QR ad L g cA b N f) : a ≠ b := by
  rintro rfl
  have := h.2.2.symm.trans h2.2.2
  unfold dA at this
  cases this
section WMS
variable {cys : Nat → ClassId} {ad : Nat → Int → Nat} {L L' : List Nat} {g g' : Nat → va_E} {aw : Nat} {n nf : Int} {dp mb pa io pt lf va : Nat} {rw : Int → Nat} {f8 : Nat → Option Nat} {Wd Wm Wt V9 : List Int} {P : Int → List Int}
theorem WMX.o (h : WMX cys ad L g aw n nf dp mb pa io pt lf va rw f8 Wd Wm Wt V9 P) : OB ad L g aw 7 [.int (iI n), .ref dp, .ref mb, .ref pa, .ref io, .ref pt, .int (iI nf), .ref lf, .ref va] := h.1
theorem WMX.d (h : WMX cys ad L g aw n nf dp mb pa io pt lf va rw f8 Wd Wm Wt V9 P) : AR cys ad L g dp Wd := h.2.1
theorem WMX.m (h : WMX cys ad L g aw n nf dp mb pa io pt lf va rw f8 Wd Wm Wt V9 P) : AR cys ad L g mb Wm := h.2.2.1
theorem WMX.p (h : WMX cys ad L g aw n nf dp mb pa io pt lf va rw f8 Wd Wm Wt V9 P) : ∃ f9 : Nat → Option Nat, QR ad L g (cys 4) pa n.toNat f9 ∧ ∀ d, 0 ≤ d → d < n → f9 d.toNat = some (rw d) := h.2.2.2.1
theorem WMX.r (h : WMX cys ad L g aw n nf dp mb pa io pt lf va rw f8 Wd Wm Wt V9 P) {d : Int} (h0 : 0 ≤ d) (h1 : d < n) : AR cys ad L g (rw d) (P d) ∧ (P d).length = 24 := h.2.2.2.2.1 d h0 h1
theorem WMX.t (h : WMX cys ad L g aw n nf dp mb pa io pt lf va rw f8 Wd Wm Wt V9 P) : AR cys ad L g pt Wt := h.2.2.2.2.2.1
theorem WMX.l (h : WMX cys ad L g aw n nf dp mb pa io pt lf va rw f8 Wd Wm Wt V9 P) : QR ad L g (cys 4) lf 80 f8 := h.2.2.2.2.2.2.1
theorem WMX.v (h : WMX cys ad L g aw n nf dp mb pa io pt lf va rw f8 Wd Wm Wt V9 P) : AR cys ad L g va V9 := h.2.2.2.2.2.2.2.1
theorem WMX.len (h : WMX cys ad L g aw n nf dp mb pa io pt lf va rw f8 Wd Wm Wt V9 P) : Wd.length = n.toNat ∧ Wm.length = n.toNat ∧ Wt.length = n.toNat ∧ V9.length = 80 ∧ 2 ≤ n ∧ n ≤ 3 := h.2.2.2.2.2.2.2.2.1
theorem WMX.ext (h : WMX cys ad L g aw n nf dp mb pa io pt lf va rw f8 Wd Wm Wt V9 P) (e : EXT L g L' g') : WMX cys ad L' g' aw n nf dp mb pa io pt lf va rw f8 Wd Wm Wt V9 P := by
  obtain ⟨h1, h2, h3, ⟨f9, h4, h4'⟩, h5, h6, h7, h8, h9⟩ := h
  exact ⟨h1.ext e, h2.ext e, h3.ext e, ⟨f9, h4.ext e, h4'⟩, fun d d0 d1 => ⟨(h5 d d0 d1).1.ext e, (h5 d d0 d1).2⟩, h6.ext e, h7.ext e, h8.ext e, h9⟩
theorem AR.upw {a : Nat} {W V : List Int} (h : AR cys ad L g a W) : AR cys ad L (va_up g a (dA cys V)) a V := ⟨h.1, h.2.1, va_up_self _ _ _⟩
theorem WMX.sd (h : WMX cys ad L g aw n nf dp mb pa io pt lf va rw f8 Wd Wm Wt V9 P) (j : Nat) (v : Int) : WMX cys ad L (va_up g dp (dA cys (Wd.set j v))) aw n nf dp mb pa io pt lf va rw f8 (Wd.set j v) Wm Wt V9 P := by
  obtain ⟨h1, h2, h3, ⟨f9, h4, h4'⟩, h5, h6, h7, h8, ⟨n1, n2, n3, n4⟩, ⟨a1, a2, a3, a4, a5, a6, a7⟩, b1, b2⟩ := h
  exact ⟨h1.up (h1.nA h2), h2.upw, h3.upn (Ne.symm a1), ⟨f9, h4.up (Ne.symm (h2.nQ h4)), h4'⟩, fun d d0 d1 => ⟨(h5 d d0 d1).1.upn (b1 d d0 d1).1, (h5 d d0 d1).2⟩, h6.upn (Ne.symm a2), h7.up (Ne.symm (h2.nQ h7)), h8.upn (Ne.symm a3), ⟨by rw [List.length_set]; exact n1, n2, n3, n4⟩, ⟨a1, a2, a3, a4, a5, a6, a7⟩, b1, b2⟩
theorem WMX.sm (h : WMX cys ad L g aw n nf dp mb pa io pt lf va rw f8 Wd Wm Wt V9 P) (j : Nat) (v : Int) : WMX cys ad L (va_up g mb (dA cys (Wm.set j v))) aw n nf dp mb pa io pt lf va rw f8 Wd (Wm.set j v) Wt V9 P := by
  obtain ⟨h1, h2, h3, ⟨f9, h4, h4'⟩, h5, h6, h7, h8, ⟨n1, n2, n3, n4⟩, ⟨a1, a2, a3, a4, a5, a6, a7⟩, b1, b2⟩ := h
  exact ⟨h1.up (h1.nA h3), h2.upn a1, h3.upw, ⟨f9, h4.up (Ne.symm (h3.nQ h4)), h4'⟩, fun d d0 d1 => ⟨(h5 d d0 d1).1.upn (b1 d d0 d1).2.1, (h5 d d0 d1).2⟩, h6.upn (Ne.symm a4), h7.up (Ne.symm (h3.nQ h7)), h8.upn (Ne.symm a5), ⟨n1, by rw [List.length_set]; exact n2, n3, n4⟩, ⟨a1, a2, a3, a4, a5, a6, a7⟩, b1, b2⟩
theorem WMX.sv (h : WMX cys ad L g aw n nf dp mb pa io pt lf va rw f8 Wd Wm Wt V9 P) (j : Nat) (v : Int) : WMX cys ad L (va_up g va (dA cys (V9.set j v))) aw n nf dp mb pa io pt lf va rw f8 Wd Wm Wt (V9.set j v) P := by
  obtain ⟨h1, h2, h3, ⟨f9, h4, h4'⟩, h5, h6, h7, h8, ⟨n1, n2, n3, n4, n5⟩, ⟨a1, a2, a3, a4, a5, a6, a7⟩, b1, b2⟩ := h
  exact ⟨h1.up (h1.nA h8), h2.upn a3, h3.upn a5, ⟨f9, h4.up (Ne.symm (h8.nQ h4)), h4'⟩, fun d d0 d1 => ⟨(h5 d d0 d1).1.upn (b1 d d0 d1).2.2.2, (h5 d d0 d1).2⟩, h6.upn a6, h7.up (Ne.symm (h8.nQ h7)), h8.upw, ⟨n1, n2, n3, by rw [List.length_set]; exact n4, n5⟩, ⟨a1, a2, a3, a4, a5, a6, a7⟩, b1, b2⟩
theorem WMX.sr (h : WMX cys ad L g aw n nf dp mb pa io pt lf va rw f8 Wd Wm Wt V9 P) {d : Int} (d0 : 0 ≤ d) (d1 : d < n) (j : Nat) (v : Int) : WMX cys ad L (va_up g (rw d) (dA cys ((P d).set j v))) aw n nf dp mb pa io pt lf va rw f8 Wd Wm Wt V9 (fun q => if q = d then (P d).set j v else P q) := by
  obtain ⟨h1, h2, h3, ⟨f9, h4, h4'⟩, h5, h6, h7, h8, h9, h10, b1, b2⟩ := h
  have hr := h5 d d0 d1
  have hb := b1 d d0 d1
  refine ⟨h1.up (h1.nA hr.1), h2.upn (Ne.symm hb.1), h3.upn (Ne.symm hb.2.1), ⟨f9, h4.up (Ne.symm (hr.1.nQ h4)), h4'⟩, fun q q0 q1 => ?_, h6.upn (Ne.symm hb.2.2.1), h7.up (Ne.symm (hr.1.nQ h7)), h8.upn (Ne.symm hb.2.2.2), h9, h10, b1, b2⟩
  dsimp only
  by_cases e : q = d
  · subst e
    rw [if_pos rfl]
    exact ⟨hr.1.upw, by rw [List.length_set]; exact hr.2⟩
  · rw [if_neg e]
    exact ⟨(h5 q q0 q1).1.upn (b2 q d q0 q1 d0 d1 e), (h5 q q0 q1).2⟩
theorem WMX.sl (h : WMX cys ad L g aw n nf dp mb pa io pt lf va rw f8 Wd Wm Wt V9 P) (f : Nat → Option Nat) : WMX cys ad L (va_up g lf (eQ (cys 4) 80 f)) aw n nf dp mb pa io pt lf va rw f Wd Wm Wt V9 P := by
  obtain ⟨h1, h2, h3, ⟨f9, h4, h4'⟩, h5, h6, h7, h8, h9, ⟨a1, a2, a3, a4, a5, a6, a7⟩, b1, b2⟩ := h
  exact ⟨h1.up (h1.nQ h7), h2.upn (h2.nQ h7), h3.upn (h3.nQ h7), ⟨f9, h4.up (Ne.symm a7), h4'⟩, fun d d0 d1 => ⟨(h5 d d0 d1).1.upn ((h5 d d0 d1).1.nQ h7), (h5 d d0 d1).2⟩, h6.upn (h6.nQ h7), ⟨h7.1, h7.2.1, va_up_self _ _ _⟩, h8.upn (h8.nQ h7), h9, ⟨a1, a2, a3, a4, a5, a6, a7⟩, b1, b2⟩
theorem WMX.sn (h : WMX cys ad L g aw n nf dp mb pa io pt lf va rw f8 Wd Wm Wt V9 P) (k : Int) : WMX cys ad L (va_up g aw (.inr (7, [.int (iI n), .ref dp, .ref mb, .ref pa, .ref io, .ref pt, .int (iI k), .ref lf, .ref va]))) aw n k dp mb pa io pt lf va rw f8 Wd Wm Wt V9 P := by
  obtain ⟨h1, h2, h3, ⟨f9, h4, h4'⟩, h5, h6, h7, h8, h9⟩ := h
  exact ⟨⟨h1.1, h1.2.1, va_up_self _ _ _⟩, h2.upn (Ne.symm (h1.nA h2)), h3.upn (Ne.symm (h1.nA h3)), ⟨f9, h4.up (Ne.symm (h1.nQ h4)), h4'⟩, fun d d0 d1 => ⟨(h5 d d0 d1).1.upn (Ne.symm (h1.nA (h5 d d0 d1).1)), (h5 d d0 d1).2⟩, h6.upn (Ne.symm (h1.nA h6)), h7.up (Ne.symm (h1.nQ h7)), h8.upn (Ne.symm (h1.nA h8)), h9⟩
/-- the World's trees are the class's -/
def TRW (S : ZT) (N : Int) (Wd Wm : List Int) (P : Int → List Int) : Prop := ∀ d, 0 ≤ d → d < N → Wd.getD d.toNat 0 = S 2 d 3 ∧ Wm.getD d.toNat 0 = S 2 d 4 ∧ ∀ m, 0 < m → m < S 2 d 4 → (P d).getD m.toNat 0 = S 3 d m
end WMS
section WRL
variable {p : Program} {l : Launch} {e : Env} {R : Room} {s : State} {m : MethodId} {args : Array Value} {below : List Frame} {meth : Method} {c : Code} {Q : State → Prop}
variable {D : va_G} {cys : Nat → ClassId} {ad : Nat → Int → Nat} {A : Nat → Prop} {cc : ByteArray} {own : String} {nL : Nat} {cells slots : Nat} {L : List Nat} {g : Nat → va_E} {X : Int64} {Z : ZT} {pc : Nat} {vs : List (Nat × Value)} {st : List Value}
/-- the script -/
theorem j_scr (G : GG p l s m args meth c D cys ad A cc own nL) {j : Int} (hd : decode cc pc = .ok (.iaload, 1)) (h0 : 0 ≤ j) (h1 : j < ad 40 1) (h2 : j < 2147483648) (kk : ∀ r : Int, JJ p l e R s m args below meth c D cys ad A Q nL cells slots L g X Z (pc + 1) vs (.int (iI r) :: st)) : JJ p l e R s m args below meth c D cys ad A Q nL cells slots L g X Z pc vs (.int (iI j) :: .ref (ad 40 0) :: st) := by
  intro H locs ls hL hP hD hS hl
  have h := G.amx.1
  have ec : (iI j).toNatClampNeg = j.toNat := iI_clamp h0 (by omega)
  refine va_sld G.x G.b h.1 h.2.1 h.2.2 hS ?_ hd ?_
  · unfold vp_in
    rw [ec]
    refine fun z => z.elim (fun z => ?_) (fun z => by omega)
    rw [← iI_0, iI_lt (by omega) (by omega)] at z
    omega
  · rw [ec, ← iI_of (scX ad j.toNat)]
    exact kk _ H locs ls hL hP hD hS hl
theorem j_scl (G : GG p l s m args meth c D cys ad A cc own nL) (hL2 : ad 40 1 < 1000) (hd : decode cc pc = .ok (.arraylength, 1)) (kk : JJ p l e R s m args below meth c D cys ad A Q nL cells slots L g X Z (pc + 1) vs (.int (iI (ad 40 1 : Nat)) :: st)) : JJ p l e R s m args below meth c D cys ad A Q nL cells slots L g X Z pc vs (.ref (ad 40 0) :: st) := by
  intro H locs ls hL hP hD hS hl
  have h := G.amx.1
  refine va_slen G.x G.b h.1 h.2.1 h.2.2 hS hd ?_
  have e1 : Int32.ofNat (ad 40 1) = iI (ad 40 1 : Nat) := (iI_nat _).symm
  rw [e1]
  exact kk H locs ls hL hP hD hS hl
theorem jp_ld (G : GG p l s m args meth c D cys ad A cc own nL) {a N b : Nat} {f : Nat → Option Nat} {j : Int} (hQ : QR ad L g (cys 4) a N f) (hd : decode cc pc = .ok (.aaload, 1)) (hN : N < 2 ^ 31) (h0 : 0 ≤ j) (h1 : j < N) (hf : f j.toNat = some b) (kk : JJ p l e R s m args below meth c D cys ad A Q nL cells slots L g X Z (pc + 1) vs (.ref b :: st)) : JJ p l e R s m args below meth c D cys ad A Q nL cells slots L g X Z pc vs (.int (iI j) :: .ref a :: st) :=
  j_daldA G 4 (t := .int) hd hQ.1 hQ.2.1 hQ.2.2 rfl hN h0 h1 hf kk
theorem and31 (v : Int) : ∃ z : Nat, z < 2147483648 ∧ iI v &&& iI 2147483647 = iI (z : Int) := by
  have h := pk_and (iI v) (m := iI 2147483647) 31 (by decide +kernel)
  exact ⟨_, Nat.mod_lt _ (by decide), by rw [h, iI_nat]⟩
theorem rem31 {z n : Nat} (hz : z < 2147483648) (h0 : 0 < n) (hn : n < 2147483648) : iI (z : Int) - iI (z : Int) / iI (n : Int) * iI (n : Int) = iI ((z % n : Nat) : Int) := by
  rw [iI_nat, iI_nat, iI_nat]
  exact pk_rem (by omega) h0 (by omega)
end WRL
