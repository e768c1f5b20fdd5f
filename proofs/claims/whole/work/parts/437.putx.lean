/-! the model's checksum is written -/
section PTX
variable {p : Program} {l : Launch} {e : Env} {R : Room} {s : State} {m : MethodId} {args : Array Value} {below : List Frame} {meth : Method} {c : Code} {Q : State → Prop}
variable {D : va_G} {cys : Nat → ClassId} {ad : Nat → Int → Nat} {A : Nat → Prop} {cc : ByteArray} {own : String} {nL : Nat} {cells slots : Nat} {L : List Nat} {g : Nat → va_E} {X : Int64} {Z : ZT} {pc : Nat} {vs : List (Nat × Value)} {st : List Value}
theorem j_putX (G : GG p l s m args meth c D cys ad A cc own nL) {Y : Int64} {idx : Nat} (hd : decode cc pc = .ok (.putfield idx, 3)) (hk : Cond.fieldLink own idx "EbbTableModel" "checksum" "J" ∈ TW) (kk : JJ p l e R s m args below meth c D cys ad A Q nL cells slots L g Y Z (pc + 3) vs st) : JJ p l e R s m args below meth c D cys ad A Q nL cells slots L g X Z pc vs (.long Y :: .ref (ad 24 0) :: st) := by
  intro H locs ls hL hP hD hS hl
  have h : vd 24 0 := by decide
  obtain ⟨q, hq⟩ := mw_get (cys := cys) (g := g) (X := X) (Z := Z) G.inj hL h rfl
  refine va_put (D := D) (ci := 7) (v := .long Y) (ty := .long) G.x G.b G.ts inT7 _ tyX7_ok nmX7 G.ow G.K hP hD hS q hq rfl 18 (by decide) (G.ts _ hk) (fun _ h9 => h9) rfl (by decide +kernel) rfl rfl (Nat.le_of_ble_eq_true rfl) hd (fun H1 locs1 hP1 hD1 hS1 => ?_)
  have h1 : ([] ++ va_pl L (ov cys ad g X Z))[q]? = some (ad 24 0, ov cys ad g X Z (ad 24 0)) := by
    rw [ov_at G.inj h]; exact hq
  have h2 := va_pl_set (X := []) (e := cC cys ad 24 0 Y (Z 24 0)) hD (hL 24 0 h) h1
  rw [ov_X G.inj] at h2
  have h3 : (MW cys ad L g X Z).set q (ad 24 0, cC cys ad 24 0 Y (Z 24 0)) = MW cys ad L g Y Z := h2
  exact kk H1 locs1 ls hL (by rw [← h3]; exact hP1) (by rw [← h3]; exact hD1) hS1 hl
end PTX
