/-! the rank's first child; rounding cells up -/
theorem CR_rk {S : ZT} {d q : Int} (h0 : 0 ≤ q) (h1 : q < (kids S d).length) : rkF (lsum S d) (kids S d).length q = CR S d q := by
  have h := rkF_in (lsum S d) (kids S d).length q h0 h1
  unfold CR
  refine fstR_is _ 0 (Or.inl ⟨h.1, by omega, h.2.2, fun i i0 i1 => ?_⟩)
  have hne := ahd_ne (s := lsum S d) (n := (kids S d).length) (c := i) (c' := rkF (lsum S d) (kids S d).length q) i0 (by omega) h.1 h.2.1 (by omega)
  rw [h.2.2] at hne
  exact hne
theorem ddF_s (f : Int → Int64 → Int64) (x : Int64) {a : Int} (h : 0 ≤ a) : ddF f x (a + 1).toNat = f a (ddF f x a.toNat) := by
  rw [show (a + 1).toNat = a.toNat + 1 by omega]
  show f (a.toNat : Int) _ = _
  rw [Int.toNat_of_nonneg h]
theorem mtF_s (S : ZT) (d : Int) (x : Int64) {a : Int} (h : 0 ≤ a) : mtF S d x (a + 1).toNat = mI (mI (mtF S d x a.toNat) (S 3 d a)) (S 4 d a) := by
  rw [show (a + 1).toNat = a.toNat + 1 by omega]
  show mI (mI (mtF S d x a.toNat) (S 3 d (a.toNat : Int))) (S 4 d (a.toNat : Int)) = _
  rw [Int.toNat_of_nonneg h]
theorem dlF_s (S : ZT) (d : Int) (x : Int64) {a : Int} (h : 0 ≤ a) : dlF S d x (a + 1).toNat = mI (dlF S d x a.toNat) (CR S d a) := by
  rw [show (a + 1).toNat = a.toNat + 1 by omega]
  show mI (dlF S d x a.toNat) (CR S d (a.toNat : Int)) = _
  rw [Int.toNat_of_nonneg h]
theorem dvF_s (S : ZT) (x : Int64) {a : Int} (h : 0 ≤ a) : dvF S x (a + 1).toNat = mI (mI (dvF S x a.toNat) (S 13 0 a)) (S 14 0 a) := by
  rw [show (a + 1).toNat = a.toNat + 1 by omega]
  show mI (mI (dvF S x a.toNat) (S 13 0 (a.toNat : Int))) (S 14 0 (a.toNat : Int)) = _
  rw [Int.toNat_of_nonneg h]
section WID
variable {p : Program} {l : Launch} {e : Env} {R : Room} {s : State} {m : MethodId} {args : Array Value} {below : List Frame} {meth : Method} {c : Code} {Q : State → Prop}
variable {D : va_G} {cys : Nat → ClassId} {ad : Nat → Int → Nat} {A : Nat → Prop} {nL : Nat} {cells slots cells' slots' : Nat} {L : List Nat} {g : Nat → va_E} {X : Int64} {Z : ZT} {pc : Nat} {vs : List (Nat × Value)} {st : List Value}
theorem j_wid (hc : cells ≤ cells') (hs : slots ≤ slots') (kk : JJ p l e R s m args below meth c D cys ad A Q nL cells' slots' L g X Z pc vs st) : JJ p l e R s m args below meth c D cys ad A Q nL cells slots L g X Z pc vs st :=
  fun H locs ls hL hP hD hS hl => W.widen hc hs (kk H locs ls hL hP hD hS hl)
end WID
