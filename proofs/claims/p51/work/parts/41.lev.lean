
/-! by program: wip/whole/gen.py out of wip/whole/src/41.lev.eb -/
/-! levels set and set back -/
theorem setL_2 {L d v w : Int} (l0 : 0 ≤ L) (l1 : L < 256) (d0 : 0 ≤ d) (d1 : d < 4) (v0 : 0 ≤ v) (v1 : v < 4) (w0 : 0 ≤ w) (w1 : w < 4) : setL (setL L d v) d w = setL L d w := by
  have a := setL_ok l0 l1 d0 d1 v0 v1
  have b := setL_ok a.1.1 a.1.2 d0 d1 w0 w1
  have c := setL_ok l0 l1 d0 d1 w0 w1
  refine lvl_ext b.1.1 b.1.2 c.1.1 c.1.2 (fun e e0 e1 => ?_)
  rw [b.2 e e0 e1, c.2 e e0 e1]
  by_cases q : e = d
  · rw [if_pos q, if_pos q]
  · rw [if_neg q, if_neg q, a.2 e e0 e1, if_neg q]
theorem zS6_2 (S : ZT) (v w : Int) : zS (zS S 0 0 6 v) 0 0 6 w = zS S 0 0 6 w := by
  funext k i j
  by_cases hk : k = 0
  · subst hk
    rw [zS_w, zS_w, zS_w]
    by_cases e : i = 0 ∧ j = 6
    · rw [if_pos e, if_pos e]
    · rw [if_neg e, if_neg e, if_neg e]
  · rw [zS_k hk, zS_k hk, zS_k hk]
theorem zS6_id (S : ZT) : zS S 0 0 6 (S 0 0 6) = S := by
  funext k i j
  by_cases hk : k = 0
  · subst hk
    rw [zS_w]
    by_cases e : i = 0 ∧ j = 6
    · rw [if_pos e, e.1, e.2]
    · rw [if_neg e]
  · rw [zS_k hk]
/-- the levels of S with d's set to v -/
def lvS (S : ZT) (d v : Int) : ZT := zS S 0 0 6 (setL (S 0 0 6) d v)
theorem lvS_6 (S : ZT) (d v : Int) : lvS S d v 0 0 6 = setL (S 0 0 6) d v := zS_s
theorem lvS_k (S : ZT) (d v : Int) {k : Nat} (h : k ≠ 0) : lvS S d v k = S k := zS_k h
theorem lvS_5 (S : ZT) (d v : Int) : lvS S d v 0 0 5 = S 0 0 5 := zS_j (by decide)
theorem IV.lvS {n : Int} {Wd : List Int} {S : ZT} {d v : Int} (h : IV n Wd S) (d0 : 0 ≤ d) (d1 : d < 4) (v0 : 0 ≤ v) (v1 : v ≤ S 2 d 3) : IV n Wd (lvS S d v) :=
  h.lev (h.1.1.lv.set d0 d1 v0 v1 (by have := h.1.1.deep d0 d1; omega))
theorem lvS_2 {S : ZT} (hW : WF S) {d v w : Int} (d0 : 0 ≤ d) (d1 : d < 4) (v0 : 0 ≤ v) (v1 : v < 4) (w0 : 0 ≤ w) (w1 : w < 4) : lvS (lvS S d v) d w = lvS S d w := by
  have hl := hW.lv
  unfold lvS
  rw [zS6_2, zS_s, setL_2 hl.1 hl.2.1 d0 d1 v0 v1 w0 w1]
theorem lvS_back {S : ZT} (hW : WF S) {d v : Int} (d0 : 0 ≤ d) (d1 : d < 4) (v0 : 0 ≤ v) (v1 : v < 4) : lvS (lvS S d v) d (lvl (S 0 0 6) d) = S := by
  have hl := hW.lv
  unfold lvS
  rw [zS6_2, zS_s, setL_back hl.1 hl.2.1 d0 d1 v0 v1, zS6_id]
theorem lvl_lvS {S : ZT} (hW : WF S) {d v e : Int} (d0 : 0 ≤ d) (d1 : d < 4) (v0 : 0 ≤ v) (v1 : v < 4) (e0 : 0 ≤ e) (e1 : e < 4) : lvl (lvS S d v 0 0 6) e = if e = d then v else lvl (S 0 0 6) e := by
  have hl := hW.lv
  rw [lvS_6]
  exact (setL_ok hl.1 hl.2.1 d0 d1 v0 v1).2 e e0 e1
section LVU
variable {p : Program} {l : Launch} {e : Env} {R : Room} {s : State} {m : MethodId} {args : Array Value} {below : List Frame} {meth : Method} {c : Code} {Q : State → Prop}
variable {D : va_G} {cys : Nat → ClassId} {ad : Nat → Int → Nat} {A : Nat → Prop} {cc : ByteArray} {own : String} {nL : Nat} {cells slots : Nat} {L : List Nat} {g : Nat → va_E} {X : Int64} {Z : ZT} {pc : Nat} {vs : List (Nat × Value)} {st : List Value}
theorem j_cU_IZ (G : GG p l s m args meth c D cys ad A cc own nL) {y : MethodName} {cc1 : ByteArray} {nL1 n fr lo mc ms idx : Nat} {ret : Option FieldType} {As rest : List Value} {P : Int → ZT → Prop} (cv : CS y cc1 nL1 ret n) (hlk : Cond.methodLink own idx y ∈ TW) (hown : y.cls = own) (hM : CM l D cys ad y cc1 nL1 ret fr lo mc ms As L g X Z (PIZ L g X Z P)) (hd : decode cc pc = .ok (.invokestatic idx, 3)) (hR : fr + 1 ≤ R.frames ∧ 8 + (nL1 + 11) + lo ≤ R.locals) (hcs : cells + mc ≤ R.cells ∧ slots + ms ≤ R.slots) (hst : st = As.reverse ++ rest) (hn : As.length = n) (hrest : (rest.map fun v => v.category).sum ≤ 8) (kk : ∀ (r : Int) (Z1 : ZT), P r Z1 → JJ p l e R s m args below meth c D cys ad A Q nL (cells + mc) (slots + ms) L g X Z1 (pc + 3) vs (.int (iI r) :: rest)) : JJ p l e R s m args below meth c D cys ad A Q nL cells slots L g X Z pc vs st := by
  refine j_callS G cv hlk hown hM hd hR hcs hst hn hrest (fun v L1 g1 X1 Z1 h => ?_)
  obtain ⟨r, rfl, h2, rfl, rfl, rfl⟩ := h
  exact kk r _ h2
end LVU
set_option maxRecDepth 100000 in
set_option maxHeartbeats 8000000 in
theorem c_X6_setLevel2 {l : Launch} {D : va_G} {cys : Nat → ClassId} {ad : Nat → Int → Nat} {L : List Nat} {g : Nat → va_E} {X : Int64} {Z : ZT} (hi : injA ad) (hst : l.stackTraces = false) {S : ZT} {d q : Int} (hS : SP S Z) (hW : WF S) (hd : inR d) (hq : inR q) : CX l D cys ad yX6_setLevel cX6_setLevel 4 (some .int) 9 156 2 12 [.ref (ad 0 0), .int (iI d), .int (iI q)] L g X Z (PIZ L g X Z (fun r Z' => (0 ≤ d ∧ d < S 0 0 5 ∧ 0 ≤ q ∧ q ≤ S 2 d 3) ∧ r = lvl (S 0 0 6) d ∧ SP (lvS S d q) Z')) (PXZ L g X (fun E Z' => E = exI ∧ ¬ (0 ≤ d ∧ d < S 0 0 5 ∧ 0 ≤ q ∧ q ≤ S 2 d 3) ∧ Z' = Z)) := by
  refine cx_start hi (by decide +kernel) (Nat.le_of_ble_eq_true rfl) ?_
  intro p_ e_ s_ m_ args_ below_ meth_ c_ A_ Q_ hQX hE G hr
  have hQ := vq_of hQX
  have hn := hW.n
  have hlv := hW.lv
  have e06 : Z 0 0 6 = S 0 0 6 := by rw [hS.1 0 rfl]
  refine j_aload_n G dX6_setLevel_0 rfl ?_
  refine j_iload_n G dX6_setLevel_1 rfl ?_
  refine j_iload_n G dX6_setLevel_2 rfl ?_
  refine j_cVXVZ G hQX hE cvX6_requireLevel ml6_211 (c_X6_requireLevel hi hst hS hW hd hq) dX6_setLevel_3 ⟨by decide, by decide⟩ ⟨by decide, by decide⟩ (by decide) (by decide) rfl rfl (Nat.le_of_ble_eq_true rfl) (by first | assumption | decide) rfl rfl rfl (fun _ _ h => h) (fun Z3 h3 => ?_)
  obtain ⟨rfl, ⟨hd0, hd1⟩, hq0, hq1⟩ := h3
  have hd4 : 0 ≤ d ∧ d < 4 := by omega
  have hdp := hW.deep hd4.1 hd4.2
  have hl6 : 0 ≤ Z3 0 0 6 ∧ Z3 0 0 6 < 256 := by rw [e06]; exact ⟨hlv.1, hlv.2.1⟩
  have hll := lvl_in (Z3 0 0 6) d
  refine j_aload_n G dX6_setLevel_6 rfl ?_
  refine gf_0_6 G dX6_setLevel_7 lf6_249 (by first | assumption | decide) ?_
  refine j_iload_n G dX6_setLevel_10 rfl ?_
  refine j_cSI G csX6_levelIn ml6_252 rfl (c_X6_levelIn hi hl6 hd4) dX6_setLevel_11 ⟨by decide, by decide⟩ (by first | exact ⟨by decide, by decide⟩ | (constructor <;> dsimp only <;> omega)) rfl rfl (Nat.le_of_ble_eq_true rfl) (fun r11 h11 => ?_)
  subst h11
  refine j_istore_n G dX6_setLevel_14 (by decide) rfl ?_
  refine j_aload_n G dX6_setLevel_15 rfl ?_
  refine j_dup G dX6_setLevel_16 rfl ?_
  refine gf_0_6 G dX6_setLevel_17 lf6_249 (by first | assumption | decide) ?_
  refine j_iload_n G dX6_setLevel_20 rfl ?_
  refine j_iload_n G dX6_setLevel_21 rfl ?_
  refine j_isub G dX6_setLevel_22 ?_
  refine j_iload_n G dX6_setLevel_23 rfl ?_
  refine j_cSI G csX6_bitsBehind ml6_255 rfl (c_X6_bitsBehind hi ) dX6_setLevel_24 ⟨by decide, by decide⟩ (by first | exact ⟨by decide, by decide⟩ | (constructor <;> dsimp only <;> omega)) rfl rfl (Nat.le_of_ble_eq_true rfl) (fun r24 h24 => ?_)
  rw [h24]
  refine j_ishl G dX6_setLevel_27 (shl_set (by omega) (by omega) hd4.1 hd4.2) ?_
  refine j_iadd G dX6_setLevel_28 ?_
  refine pf_0_6 G dX6_setLevel_29 lf6_249 (by first | assumption | decide) ?_
  refine j_iload_n G dX6_setLevel_32 rfl ?_
  refine jr_IZ G hQ hr dX6_setLevel_33 (by first | decide | omega) (by first | decide | omega) ?_
  try simp (config := { decide := true }) only [zS_k, zS_s, zS_j, ne_eq]
  refine ⟨⟨hd0, hd1, hq0, hq1⟩, by rw [e06], ?_⟩
  have hz := hS.st (k := 0) rfl 0 6 (setL (Z3 0 0 6) d q)
  rw [e06] at hz ⊢
  exact hz

