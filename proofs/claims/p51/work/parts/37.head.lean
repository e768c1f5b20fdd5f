/-! by program: wip/p51/genm.py: the head of the World's constructor -/
theorem dX7_init_0 : decode cX7_init 0 = .ok (.aload_n 0, 1) := by decide +kernel
theorem dX7_init_1 : decode cX7_init 1 = .ok (.invokespecial 1, 3) := by decide +kernel
theorem dX7_init_4 : decode cX7_init 4 = .ok (.aload_n 0, 1) := by decide +kernel
theorem dX7_init_5 : decode cX7_init 5 = .ok (.bipush 80, 2) := by decide +kernel
theorem dX7_init_7 : decode cX7_init 7 = .ok (.anewarray 7, 3) := by decide +kernel
theorem dX7_init_10 : decode cX7_init 10 = .ok (.putfield 9, 3) := by decide +kernel
theorem dX7_init_13 : decode cX7_init 13 = .ok (.aload_n 0, 1) := by decide +kernel
theorem dX7_init_14 : decode cX7_init 14 = .ok (.bipush 80, 2) := by decide +kernel
theorem dX7_init_16 : decode cX7_init 16 = .ok (.newarray .int, 2) := by decide +kernel
theorem dX7_init_18 : decode cX7_init 18 = .ok (.putfield 15, 3) := by decide +kernel
theorem dX7_init_21 : decode cX7_init 21 = .ok (.aload_n 0, 1) := by decide +kernel
theorem dX7_init_22 : decode cX7_init 22 = .ok (.iload_n 3, 1) := by decide +kernel
theorem dX7_init_23 : decode cX7_init 23 = .ok (.putfield 18, 3) := by decide +kernel
theorem dX7_init_26 : decode cX7_init 26 = .ok (.aload_n 0, 1) := by decide +kernel
theorem dX7_init_27 : decode cX7_init 27 = .ok (.iload_n 3, 1) := by decide +kernel
theorem dX7_init_28 : decode cX7_init 28 = .ok (.newarray .int, 2) := by decide +kernel
theorem dX7_init_30 : decode cX7_init 30 = .ok (.putfield 22, 3) := by decide +kernel
theorem dX7_init_33 : decode cX7_init 33 = .ok (.aload_n 0, 1) := by decide +kernel
theorem dX7_init_34 : decode cX7_init 34 = .ok (.iload_n 3, 1) := by decide +kernel
theorem dX7_init_35 : decode cX7_init 35 = .ok (.newarray .int, 2) := by decide +kernel
theorem dX7_init_37 : decode cX7_init 37 = .ok (.putfield 25, 3) := by decide +kernel
theorem dX7_init_40 : decode cX7_init 40 = .ok (.aload_n 0, 1) := by decide +kernel
theorem dX7_init_41 : decode cX7_init 41 = .ok (.iload_n 3, 1) := by decide +kernel
theorem dX7_init_42 : decode cX7_init 42 = .ok (.bipush 24, 2) := by decide +kernel
theorem dX7_init_44 : decode cX7_init 44 = .ok (.multianewarray 28 2, 4) := by decide +kernel
theorem dX7_init_48 : decode cX7_init 48 = .ok (.putfield 29, 3) := by decide +kernel
theorem dX7_init_51 : decode cX7_init 51 = .ok (.aload_n 0, 1) := by decide +kernel
theorem dX7_init_52 : decode cX7_init 52 = .ok (.iload_n 3, 1) := by decide +kernel
theorem dX7_init_53 : decode cX7_init 53 = .ok (.bipush 24, 2) := by decide +kernel
theorem dX7_init_55 : decode cX7_init 55 = .ok (.multianewarray 32 2, 4) := by decide +kernel
theorem dX7_init_59 : decode cX7_init 59 = .ok (.putfield 34, 3) := by decide +kernel
theorem dX7_init_62 : decode cX7_init 62 = .ok (.aload_n 0, 1) := by decide +kernel
theorem dX7_init_63 : decode cX7_init 63 = .ok (.iload_n 3, 1) := by decide +kernel
theorem dX7_init_64 : decode cX7_init 64 = .ok (.newarray .int, 2) := by decide +kernel
theorem dX7_init_66 : decode cX7_init 66 = .ok (.putfield 37, 3) := by decide +kernel
theorem upL_ob {tl : va_W} {L : List Nat} {g : Nat → va_E} {ad : Nat → Int → Nat} (hN : (tl.map (·.1)).Nodup) (h3 : ∀ a ∈ tl.map (·.1), a ∉ L ∧ ¬ isS ad a) {k : Nat} {q : Nat × va_E} (h : tl[k]? = some q) : q.1 ∈ L ++ tl.map (·.1) ∧ ¬ isS ad q.1 ∧ upL g tl q.1 = q.2 := by
  have hm : q.1 ∈ tl.map (·.1) := List.mem_map.mpr ⟨q, List.mem_of_getElem? h, rfl⟩
  exact ⟨List.mem_append_right _ hm, (h3 _ hm).2, upL_at hN h⟩
theorem nd_ne {tl : va_W} (hN : (tl.map (·.1)).Nodup) {i j a b : Nat} {x y : va_E} (hij : i ≠ j) (h1 : tl[i]? = some (a, x)) (h2 : tl[j]? = some (b, y)) : a ≠ b := by
  intro e
  have hi := (List.getElem?_eq_some_iff.mp h1).1
  have hj := (List.getElem?_eq_some_iff.mp h2).1
  have g1 : (tl.map (·.1))[i]? = some a := by rw [List.getElem?_map, h1]; rfl
  have g2 : (tl.map (·.1))[j]? = some b := by rw [List.getElem?_map, h2]; rfl
  subst e
  unfold List.Nodup at hN
  rw [List.pairwise_iff_getElem] at hN
  have q1 := (List.getElem?_eq_some_iff.mp g1).2
  have q2 := (List.getElem?_eq_some_iff.mp g2).2
  rcases Nat.lt_or_gt_of_ne hij with z | z
  · exact hN i j (by rw [List.length_map]; exact hi) (by rw [List.length_map]; exact hj) z (q1.trans q2.symm)
  · exact hN j i (by rw [List.length_map]; exact hj) (by rw [List.length_map]; exact hi) z (q2.trans q1.symm)
set_option maxRecDepth 100000 in
set_option maxHeartbeats 8000000 in
theorem mk_head_2 {p : Program} {l : Launch} {e : Env} {s : State} {m : MethodId} {args : Array Value} {below : List Frame} {meth : Method} {c : Code} {Q : State → Prop} {D : va_G} {cys : Nat → ClassId} {ad : Nat → Int → Nat} {A : Nat → Prop} {L : List Nat} {g : Nat → va_E} {X : Int64} {Z : ZT} {aw : Nat} (G : GG p l s m args meth c D cys ad A cX7_init yX7_init.cls 7) (hini : meth.name = "<init>") (haw : aw ∉ L) (hns : ¬ isS ad aw) (K : ∀ (L2 : List Nat) (g2 : Nat → va_E) (dp mb pa io pt lf va : Nat) (rw : Int → Nat), WMX cys ad L2 g2 aw 2 0 dp mb pa io pt lf va rw (fun _ => none) (List.replicate 2 0) (List.replicate 2 0) (List.replicate 2 0) (List.replicate 80 0) (fun _ => List.replicate 24 0) → JJ p l e { frames := 12, cells := 160, slots := 1200, locals := 200 } s m args below meth c D cys ad A Q 7 20 340 L2 g2 X Z 69 [(0, .ref aw), (1, .ref (ad 0 0)), (2, .ref (ad 40 0)), (3, .int (iI 2))] []) : JJ p l e { frames := 12, cells := 160, slots := 1200, locals := 200 } s m args below meth c D cys ad A Q 7 0 0 (L ++ [aw]) (va_up g aw (.inr (7, [.int 0, .null, .null, .null, .null, .null, .int 0, .null, .null]))) X Z 0 [(0, .ref aw), (1, .ref (ad 0 0)), (2, .ref (ad 40 0)), (3, .int (iI 2))] [] := by
  intro H locs ls hL hP hD hS hl
  have hL0 : SL ad L := fun k i h => (List.mem_append.mp (hL k i h)).elim id (fun z => absurd ⟨(k, i), h, List.mem_singleton.mp z⟩ hns)
  have em := mw_push (cys := cys) (ad := ad) (L := L) (g := g) (X := X) (Z := Z) (a := aw) (x := (.inr (7, [.int 0, .null, .null, .null, .null, .null, .int 0, .null, .null]) : va_E)) haw hns
  rw [← em] at hP hD
  refine (?_ : KK p l e { frames := 12, cells := 160, slots := 1200, locals := 200 } s m args below meth c D A Q 7 0 0 (MW cys ad L g X Z) [(aw, .inr (7, [.int 0, .null, .null, .null, .null, .null, .int 0, .null, .null]))] 0 [(0, .ref aw), (1, .ref (ad 0 0)), (2, .ref (ad 40 0)), (3, .int (iI 2))] []) H locs ls hP hD hS hl
  clear hP hD hS hl hL
  clear H locs ls
  have Gk := gk_of G
  refine k_aload_n Gk dX7_init_0 rfl ?_
  refine k_objInit Gk (TW_of 545 (by decide +kernel) (by decide +kernel)) dX7_init_1 (by decide) (Nat.le_of_ble_eq_true rfl) ?_
  refine k_aload_n Gk dX7_init_4 rfl ?_
  refine k_bipush Gk dX7_init_5 (by decide +kernel) ?_
  refine k_newA Gk 80 (TW_of 546 (by decide +kernel) (by decide +kernel)) dX7_init_7 (by decide +kernel) (by decide +kernel) (by decide) ⟨by decide, by decide⟩ (fun lf => ?_)
  refine k_eq (tl' := [(aw, .inr (7, [.int 0, .null, .null, .null, .null, .null, .int 0, .null, .null])), (lf, QQ (cys 4) 80 (fun _ => none))]) rfl ?_
  refine k_putF Gk hini 0 7 rfl rfl inT7 tyX7_ok nmX7 (by decide) lf7_9 rfl rfl rfl rfl rfl rfl (Nat.le_of_ble_eq_true rfl) dX7_init_10 ?_
  refine k_eq (tl' := [(aw, .inr (7, [.int 0, .null, .null, .null, .null, .null, .int 0, .ref lf, .null])), (lf, QQ (cys 4) 80 (fun _ => none))]) rfl ?_
  refine k_aload_n Gk dX7_init_13 rfl ?_
  refine k_bipush Gk dX7_init_14 (by decide +kernel) ?_
  refine k_newI Gk 80 dX7_init_16 (by decide +kernel) (by decide +kernel) (by decide) ⟨by decide, by decide⟩ (fun va => ?_)
  refine k_eq (tl' := [(aw, .inr (7, [.int 0, .null, .null, .null, .null, .null, .int 0, .ref lf, .null])), (lf, QQ (cys 4) 80 (fun _ => none)), (va, I0 (cys 0) 80)]) rfl ?_
  refine k_putF Gk hini 0 8 rfl rfl inT7 tyX7_ok nmX7 (by decide) lf7_15 rfl rfl rfl rfl rfl rfl (Nat.le_of_ble_eq_true rfl) dX7_init_18 ?_
  refine k_eq (tl' := [(aw, .inr (7, [.int 0, .null, .null, .null, .null, .null, .int 0, .ref lf, .ref va])), (lf, QQ (cys 4) 80 (fun _ => none)), (va, I0 (cys 0) 80)]) rfl ?_
  refine k_aload_n Gk dX7_init_21 rfl ?_
  refine k_iload_n Gk dX7_init_22 rfl ?_
  refine k_putF Gk hini 0 0 rfl rfl inT7 tyX7_ok nmX7 (by decide) lf7_18 rfl rfl rfl rfl rfl rfl (Nat.le_of_ble_eq_true rfl) dX7_init_23 ?_
  refine k_eq (tl' := [(aw, .inr (7, [.int (iI 2), .null, .null, .null, .null, .null, .int 0, .ref lf, .ref va])), (lf, QQ (cys 4) 80 (fun _ => none)), (va, I0 (cys 0) 80)]) rfl ?_
  refine k_aload_n Gk dX7_init_26 rfl ?_
  refine k_iload_n Gk dX7_init_27 rfl ?_
  refine k_newI Gk 2 dX7_init_28 (by decide +kernel) (by decide +kernel) (by decide) ⟨by decide, by decide⟩ (fun dp => ?_)
  refine k_eq (tl' := [(aw, .inr (7, [.int (iI 2), .null, .null, .null, .null, .null, .int 0, .ref lf, .ref va])), (lf, QQ (cys 4) 80 (fun _ => none)), (va, I0 (cys 0) 80), (dp, I0 (cys 0) 2)]) rfl ?_
  refine k_putF Gk hini 0 1 rfl rfl inT7 tyX7_ok nmX7 (by decide) lf7_22 rfl rfl rfl rfl rfl rfl (Nat.le_of_ble_eq_true rfl) dX7_init_30 ?_
  refine k_eq (tl' := [(aw, .inr (7, [.int (iI 2), .ref dp, .null, .null, .null, .null, .int 0, .ref lf, .ref va])), (lf, QQ (cys 4) 80 (fun _ => none)), (va, I0 (cys 0) 80), (dp, I0 (cys 0) 2)]) rfl ?_
  refine k_aload_n Gk dX7_init_33 rfl ?_
  refine k_iload_n Gk dX7_init_34 rfl ?_
  refine k_newI Gk 2 dX7_init_35 (by decide +kernel) (by decide +kernel) (by decide) ⟨by decide, by decide⟩ (fun mb => ?_)
  refine k_eq (tl' := [(aw, .inr (7, [.int (iI 2), .ref dp, .null, .null, .null, .null, .int 0, .ref lf, .ref va])), (lf, QQ (cys 4) 80 (fun _ => none)), (va, I0 (cys 0) 80), (dp, I0 (cys 0) 2), (mb, I0 (cys 0) 2)]) rfl ?_
  refine k_putF Gk hini 0 2 rfl rfl inT7 tyX7_ok nmX7 (by decide) lf7_25 rfl rfl rfl rfl rfl rfl (Nat.le_of_ble_eq_true rfl) dX7_init_37 ?_
  refine k_eq (tl' := [(aw, .inr (7, [.int (iI 2), .ref dp, .ref mb, .null, .null, .null, .int 0, .ref lf, .ref va])), (lf, QQ (cys 4) 80 (fun _ => none)), (va, I0 (cys 0) 80), (dp, I0 (cys 0) 2), (mb, I0 (cys 0) 2)]) rfl ?_
  refine k_aload_n Gk dX7_init_40 rfl ?_
  refine k_iload_n Gk dX7_init_41 rfl ?_
  refine k_bipush Gk dX7_init_42 (by decide +kernel) ?_
  refine k_mna Gk (nm := "[[I") (ty := .int) (kO := 4) (kI := 0) 2 24 (TW_of 547 (by decide +kernel) (by decide +kernel)) (by decide +kernel) Gk.sf.2.2.1 (TW_of 97 (by decide +kernel) (by decide +kernel)) rfl rfl (fun _ => rfl) (by decide +kernel) (fun c => innI c _) rfl rfl (by decide) dX7_init_44 (by decide +kernel) (by decide +kernel) (by decide +kernel) (by decide +kernel) (by decide) (by decide) ⟨by decide, by decide⟩ (fun pa r => ?_)
  refine k_eq (tl' := [(aw, .inr (7, [.int (iI 2), .ref dp, .ref mb, .null, .null, .null, .int 0, .ref lf, .ref va])), (lf, QQ (cys 4) 80 (fun _ => none)), (va, I0 (cys 0) 80), (dp, I0 (cys 0) 2), (mb, I0 (cys 0) 2), (pa, QQ (cys 4) 2 (fun i => if i < 2 then some (r i) else none)), (r 0, I0 (cys 0) 24), (r 1, I0 (cys 0) 24)]) rfl ?_
  refine k_putF Gk hini 0 3 rfl rfl inT7 tyX7_ok nmX7 (by decide) lf7_29 rfl rfl rfl rfl rfl rfl (Nat.le_of_ble_eq_true rfl) dX7_init_48 ?_
  refine k_eq (tl' := [(aw, .inr (7, [.int (iI 2), .ref dp, .ref mb, .ref pa, .null, .null, .int 0, .ref lf, .ref va])), (lf, QQ (cys 4) 80 (fun _ => none)), (va, I0 (cys 0) 80), (dp, I0 (cys 0) 2), (mb, I0 (cys 0) 2), (pa, QQ (cys 4) 2 (fun i => if i < 2 then some (r i) else none)), (r 0, I0 (cys 0) 24), (r 1, I0 (cys 0) 24)]) rfl ?_
  refine k_aload_n Gk dX7_init_51 rfl ?_
  refine k_iload_n Gk dX7_init_52 rfl ?_
  refine k_bipush Gk dX7_init_53 (by decide +kernel) ?_
  refine k_mna Gk (nm := "[[Z") (ty := .boolean) (kO := 5) (kI := 1) 2 24 (TW_of 548 (by decide +kernel) (by decide +kernel)) (by decide +kernel) Gk.sf.2.2.2.1 (TW_of 121 (by decide +kernel) (by decide +kernel)) rfl rfl (fun _ => rfl) (by decide +kernel) (fun c => innZ c _) rfl rfl (by decide) dX7_init_55 (by decide +kernel) (by decide +kernel) (by decide +kernel) (by decide +kernel) (by decide) (by decide) ⟨by decide, by decide⟩ (fun io rz => ?_)
  refine k_eq (tl' := [(aw, .inr (7, [.int (iI 2), .ref dp, .ref mb, .ref pa, .null, .null, .int 0, .ref lf, .ref va])), (lf, QQ (cys 4) 80 (fun _ => none)), (va, I0 (cys 0) 80), (dp, I0 (cys 0) 2), (mb, I0 (cys 0) 2), (pa, QQ (cys 4) 2 (fun i => if i < 2 then some (r i) else none)), (r 0, I0 (cys 0) 24), (r 1, I0 (cys 0) 24), (io, QQ (cys 5) 2 (fun i => if i < 2 then some (rz i) else none)), (rz 0, I0 (cys 1) 24), (rz 1, I0 (cys 1) 24)]) rfl ?_
  refine k_putF Gk hini 0 4 rfl rfl inT7 tyX7_ok nmX7 (by decide) lf7_34 rfl rfl rfl rfl rfl rfl (Nat.le_of_ble_eq_true rfl) dX7_init_59 ?_
  refine k_eq (tl' := [(aw, .inr (7, [.int (iI 2), .ref dp, .ref mb, .ref pa, .ref io, .null, .int 0, .ref lf, .ref va])), (lf, QQ (cys 4) 80 (fun _ => none)), (va, I0 (cys 0) 80), (dp, I0 (cys 0) 2), (mb, I0 (cys 0) 2), (pa, QQ (cys 4) 2 (fun i => if i < 2 then some (r i) else none)), (r 0, I0 (cys 0) 24), (r 1, I0 (cys 0) 24), (io, QQ (cys 5) 2 (fun i => if i < 2 then some (rz i) else none)), (rz 0, I0 (cys 1) 24), (rz 1, I0 (cys 1) 24)]) rfl ?_
  refine k_aload_n Gk dX7_init_62 rfl ?_
  refine k_iload_n Gk dX7_init_63 rfl ?_
  refine k_newI Gk 2 dX7_init_64 (by decide +kernel) (by decide +kernel) (by decide) ⟨by decide, by decide⟩ (fun pt => ?_)
  refine k_eq (tl' := [(aw, .inr (7, [.int (iI 2), .ref dp, .ref mb, .ref pa, .ref io, .null, .int 0, .ref lf, .ref va])), (lf, QQ (cys 4) 80 (fun _ => none)), (va, I0 (cys 0) 80), (dp, I0 (cys 0) 2), (mb, I0 (cys 0) 2), (pa, QQ (cys 4) 2 (fun i => if i < 2 then some (r i) else none)), (r 0, I0 (cys 0) 24), (r 1, I0 (cys 0) 24), (io, QQ (cys 5) 2 (fun i => if i < 2 then some (rz i) else none)), (rz 0, I0 (cys 1) 24), (rz 1, I0 (cys 1) 24), (pt, I0 (cys 0) 2)]) rfl ?_
  refine k_putF Gk hini 0 5 rfl rfl inT7 tyX7_ok nmX7 (by decide) lf7_37 rfl rfl rfl rfl rfl rfl (Nat.le_of_ble_eq_true rfl) dX7_init_66 ?_
  refine k_eq (tl' := [(aw, .inr (7, [.int (iI 2), .ref dp, .ref mb, .ref pa, .ref io, .ref pt, .int 0, .ref lf, .ref va])), (lf, QQ (cys 4) 80 (fun _ => none)), (va, I0 (cys 0) 80), (dp, I0 (cys 0) 2), (mb, I0 (cys 0) 2), (pa, QQ (cys 4) 2 (fun i => if i < 2 then some (r i) else none)), (r 0, I0 (cys 0) 24), (r 1, I0 (cys 0) 24), (io, QQ (cys 5) 2 (fun i => if i < 2 then some (rz i) else none)), (rz 0, I0 (cys 1) 24), (rz 1, I0 (cys 1) 24), (pt, I0 (cys 0) 2)]) rfl ?_
  intro H locs ls hP hD hS hl
  obtain ⟨e1, e2, e3⟩ := mw_app hL0 hD
  have hN := va_D_nodup hD
  rw [e1] at hP hD
  refine (j_wid (cells' := 20) (slots' := 340) (by decide) (by decide) (K _ _ dp mb pa io pt lf va (fun d => r d.toNat) ?_)) H locs ls e2 hP hD hS hl
  have hO := fun {k : Nat} {q : Nat × va_E} (h : ([(aw, .inr (7, [.int (iI 2), .ref dp, .ref mb, .ref pa, .ref io, .ref pt, .int 0, .ref lf, .ref va])), (lf, QQ (cys 4) 80 (fun _ => none)), (va, I0 (cys 0) 80), (dp, I0 (cys 0) 2), (mb, I0 (cys 0) 2), (pa, QQ (cys 4) 2 (fun i => if i < 2 then some (r i) else none)), (r 0, I0 (cys 0) 24), (r 1, I0 (cys 0) 24), (io, QQ (cys 5) 2 (fun i => if i < 2 then some (rz i) else none)), (rz 0, I0 (cys 1) 24), (rz 1, I0 (cys 1) 24), (pt, I0 (cys 0) 2)] : va_W)[k]? = some q) => upL_ob (g := g) hN e3 h
  have hA := fun {k a n : Nat} (h : ([(aw, .inr (7, [.int (iI 2), .ref dp, .ref mb, .ref pa, .ref io, .ref pt, .int 0, .ref lf, .ref va])), (lf, QQ (cys 4) 80 (fun _ => none)), (va, I0 (cys 0) 80), (dp, I0 (cys 0) 2), (mb, I0 (cys 0) 2), (pa, QQ (cys 4) 2 (fun i => if i < 2 then some (r i) else none)), (r 0, I0 (cys 0) 24), (r 1, I0 (cys 0) 24), (io, QQ (cys 5) 2 (fun i => if i < 2 then some (rz i) else none)), (rz 0, I0 (cys 1) 24), (rz 1, I0 (cys 1) 24), (pt, I0 (cys 0) 2)] : va_W)[k]? = some (a, I0 (cys 0) n)) => (⟨(hO h).1, (hO h).2.1, (hO h).2.2.trans (dA_zero cys n).symm⟩ : AR cys ad _ (upL g _) a (List.replicate n 0))
  clear hP hD hS hl e1 e2
  have hne := fun {i j a b : Nat} {x y : va_E} (h1 : ([(aw, .inr (7, [.int (iI 2), .ref dp, .ref mb, .ref pa, .ref io, .ref pt, .int 0, .ref lf, .ref va])), (lf, QQ (cys 4) 80 (fun _ => none)), (va, I0 (cys 0) 80), (dp, I0 (cys 0) 2), (mb, I0 (cys 0) 2), (pa, QQ (cys 4) 2 (fun i => if i < 2 then some (r i) else none)), (r 0, I0 (cys 0) 24), (r 1, I0 (cys 0) 24), (io, QQ (cys 5) 2 (fun i => if i < 2 then some (rz i) else none)), (rz 0, I0 (cys 1) 24), (rz 1, I0 (cys 1) 24), (pt, I0 (cys 0) 2)] : va_W)[i]? = some (a, x)) (h2 : ([(aw, .inr (7, [.int (iI 2), .ref dp, .ref mb, .ref pa, .ref io, .ref pt, .int 0, .ref lf, .ref va])), (lf, QQ (cys 4) 80 (fun _ => none)), (va, I0 (cys 0) 80), (dp, I0 (cys 0) 2), (mb, I0 (cys 0) 2), (pa, QQ (cys 4) 2 (fun i => if i < 2 then some (r i) else none)), (r 0, I0 (cys 0) 24), (r 1, I0 (cys 0) 24), (io, QQ (cys 5) 2 (fun i => if i < 2 then some (rz i) else none)), (rz 0, I0 (cys 1) 24), (rz 1, I0 (cys 1) 24), (pt, I0 (cys 0) 2)] : va_W)[j]? = some (b, y)) (hij : i ≠ j) => nd_ne hN hij h1 h2
  have hd2 : ∀ d : Int, 0 ≤ d → d < 2 → d = 0 ∨ d = 1 := fun d d0 d1 => by omega
  have h0 := hO (k := 0) rfl
  rw [show (.int 0 : Value) = .int (iI 0) by rw [iI_0]] at h0
  refine ⟨h0, hA (k := 3) rfl, hA (k := 4) rfl, ⟨_, hO (k := 5) rfl, fun d d0 d1 => if_pos (by omega)⟩, fun d d0 d1 => ⟨?_, rfl⟩, hA (k := 11) rfl, hO (k := 1) rfl, hA (k := 2) rfl, ⟨rfl, rfl, rfl, List.length_replicate, by decide, by decide⟩, ⟨hne (i := 3) (j := 4) rfl rfl (by decide), hne (i := 3) (j := 11) rfl rfl (by decide), hne (i := 3) (j := 2) rfl rfl (by decide), hne (i := 4) (j := 11) rfl rfl (by decide), hne (i := 4) (j := 2) rfl rfl (by decide), hne (i := 11) (j := 2) rfl rfl (by decide), hne (i := 1) (j := 5) rfl rfl (by decide)⟩, fun d d0 d1 => ?_, fun d d' d0 d1 d2 d3 hdd => ?_⟩
  · rcases hd2 d d0 d1 with rfl | rfl
    · exact hA (k := 6) rfl
    · exact hA (k := 7) rfl
  · rcases hd2 d d0 d1 with rfl | rfl
    · exact ⟨hne (i := 6) (j := 3) rfl rfl (by decide), hne (i := 6) (j := 4) rfl rfl (by decide), hne (i := 6) (j := 11) rfl rfl (by decide), hne (i := 6) (j := 2) rfl rfl (by decide)⟩
    · exact ⟨hne (i := 7) (j := 3) rfl rfl (by decide), hne (i := 7) (j := 4) rfl rfl (by decide), hne (i := 7) (j := 11) rfl rfl (by decide), hne (i := 7) (j := 2) rfl rfl (by decide)⟩
  · rcases hd2 d d0 d1 with rfl | rfl <;> rcases hd2 d' d2 d3 with rfl | rfl
    · exact absurd rfl hdd
    · exact hne (i := 6) (j := 7) rfl rfl (by decide)
    · exact hne (i := 7) (j := 6) rfl rfl (by decide)
    · exact absurd rfl hdd
set_option maxRecDepth 100000 in
set_option maxHeartbeats 8000000 in
theorem mk_head_3 {p : Program} {l : Launch} {e : Env} {s : State} {m : MethodId} {args : Array Value} {below : List Frame} {meth : Method} {c : Code} {Q : State → Prop} {D : va_G} {cys : Nat → ClassId} {ad : Nat → Int → Nat} {A : Nat → Prop} {L : List Nat} {g : Nat → va_E} {X : Int64} {Z : ZT} {aw : Nat} (G : GG p l s m args meth c D cys ad A cX7_init yX7_init.cls 7) (hini : meth.name = "<init>") (haw : aw ∉ L) (hns : ¬ isS ad aw) (K : ∀ (L2 : List Nat) (g2 : Nat → va_E) (dp mb pa io pt lf va : Nat) (rw : Int → Nat), WMX cys ad L2 g2 aw 3 0 dp mb pa io pt lf va rw (fun _ => none) (List.replicate 3 0) (List.replicate 3 0) (List.replicate 3 0) (List.replicate 80 0) (fun _ => List.replicate 24 0) → JJ p l e { frames := 12, cells := 160, slots := 1200, locals := 200 } s m args below meth c D cys ad A Q 7 20 340 L2 g2 X Z 69 [(0, .ref aw), (1, .ref (ad 0 0)), (2, .ref (ad 40 0)), (3, .int (iI 3))] []) : JJ p l e { frames := 12, cells := 160, slots := 1200, locals := 200 } s m args below meth c D cys ad A Q 7 0 0 (L ++ [aw]) (va_up g aw (.inr (7, [.int 0, .null, .null, .null, .null, .null, .int 0, .null, .null]))) X Z 0 [(0, .ref aw), (1, .ref (ad 0 0)), (2, .ref (ad 40 0)), (3, .int (iI 3))] [] := by
  intro H locs ls hL hP hD hS hl
  have hL0 : SL ad L := fun k i h => (List.mem_append.mp (hL k i h)).elim id (fun z => absurd ⟨(k, i), h, List.mem_singleton.mp z⟩ hns)
  have em := mw_push (cys := cys) (ad := ad) (L := L) (g := g) (X := X) (Z := Z) (a := aw) (x := (.inr (7, [.int 0, .null, .null, .null, .null, .null, .int 0, .null, .null]) : va_E)) haw hns
  rw [← em] at hP hD
  refine (?_ : KK p l e { frames := 12, cells := 160, slots := 1200, locals := 200 } s m args below meth c D A Q 7 0 0 (MW cys ad L g X Z) [(aw, .inr (7, [.int 0, .null, .null, .null, .null, .null, .int 0, .null, .null]))] 0 [(0, .ref aw), (1, .ref (ad 0 0)), (2, .ref (ad 40 0)), (3, .int (iI 3))] []) H locs ls hP hD hS hl
  clear hP hD hS hl hL
  clear H locs ls
  have Gk := gk_of G
  refine k_aload_n Gk dX7_init_0 rfl ?_
  refine k_objInit Gk (TW_of 545 (by decide +kernel) (by decide +kernel)) dX7_init_1 (by decide) (Nat.le_of_ble_eq_true rfl) ?_
  refine k_aload_n Gk dX7_init_4 rfl ?_
  refine k_bipush Gk dX7_init_5 (by decide +kernel) ?_
  refine k_newA Gk 80 (TW_of 546 (by decide +kernel) (by decide +kernel)) dX7_init_7 (by decide +kernel) (by decide +kernel) (by decide) ⟨by decide, by decide⟩ (fun lf => ?_)
  refine k_eq (tl' := [(aw, .inr (7, [.int 0, .null, .null, .null, .null, .null, .int 0, .null, .null])), (lf, QQ (cys 4) 80 (fun _ => none))]) rfl ?_
  refine k_putF Gk hini 0 7 rfl rfl inT7 tyX7_ok nmX7 (by decide) lf7_9 rfl rfl rfl rfl rfl rfl (Nat.le_of_ble_eq_true rfl) dX7_init_10 ?_
  refine k_eq (tl' := [(aw, .inr (7, [.int 0, .null, .null, .null, .null, .null, .int 0, .ref lf, .null])), (lf, QQ (cys 4) 80 (fun _ => none))]) rfl ?_
  refine k_aload_n Gk dX7_init_13 rfl ?_
  refine k_bipush Gk dX7_init_14 (by decide +kernel) ?_
  refine k_newI Gk 80 dX7_init_16 (by decide +kernel) (by decide +kernel) (by decide) ⟨by decide, by decide⟩ (fun va => ?_)
  refine k_eq (tl' := [(aw, .inr (7, [.int 0, .null, .null, .null, .null, .null, .int 0, .ref lf, .null])), (lf, QQ (cys 4) 80 (fun _ => none)), (va, I0 (cys 0) 80)]) rfl ?_
  refine k_putF Gk hini 0 8 rfl rfl inT7 tyX7_ok nmX7 (by decide) lf7_15 rfl rfl rfl rfl rfl rfl (Nat.le_of_ble_eq_true rfl) dX7_init_18 ?_
  refine k_eq (tl' := [(aw, .inr (7, [.int 0, .null, .null, .null, .null, .null, .int 0, .ref lf, .ref va])), (lf, QQ (cys 4) 80 (fun _ => none)), (va, I0 (cys 0) 80)]) rfl ?_
  refine k_aload_n Gk dX7_init_21 rfl ?_
  refine k_iload_n Gk dX7_init_22 rfl ?_
  refine k_putF Gk hini 0 0 rfl rfl inT7 tyX7_ok nmX7 (by decide) lf7_18 rfl rfl rfl rfl rfl rfl (Nat.le_of_ble_eq_true rfl) dX7_init_23 ?_
  refine k_eq (tl' := [(aw, .inr (7, [.int (iI 3), .null, .null, .null, .null, .null, .int 0, .ref lf, .ref va])), (lf, QQ (cys 4) 80 (fun _ => none)), (va, I0 (cys 0) 80)]) rfl ?_
  refine k_aload_n Gk dX7_init_26 rfl ?_
  refine k_iload_n Gk dX7_init_27 rfl ?_
  refine k_newI Gk 3 dX7_init_28 (by decide +kernel) (by decide +kernel) (by decide) ⟨by decide, by decide⟩ (fun dp => ?_)
  refine k_eq (tl' := [(aw, .inr (7, [.int (iI 3), .null, .null, .null, .null, .null, .int 0, .ref lf, .ref va])), (lf, QQ (cys 4) 80 (fun _ => none)), (va, I0 (cys 0) 80), (dp, I0 (cys 0) 3)]) rfl ?_
  refine k_putF Gk hini 0 1 rfl rfl inT7 tyX7_ok nmX7 (by decide) lf7_22 rfl rfl rfl rfl rfl rfl (Nat.le_of_ble_eq_true rfl) dX7_init_30 ?_
  refine k_eq (tl' := [(aw, .inr (7, [.int (iI 3), .ref dp, .null, .null, .null, .null, .int 0, .ref lf, .ref va])), (lf, QQ (cys 4) 80 (fun _ => none)), (va, I0 (cys 0) 80), (dp, I0 (cys 0) 3)]) rfl ?_
  refine k_aload_n Gk dX7_init_33 rfl ?_
  refine k_iload_n Gk dX7_init_34 rfl ?_
  refine k_newI Gk 3 dX7_init_35 (by decide +kernel) (by decide +kernel) (by decide) ⟨by decide, by decide⟩ (fun mb => ?_)
  refine k_eq (tl' := [(aw, .inr (7, [.int (iI 3), .ref dp, .null, .null, .null, .null, .int 0, .ref lf, .ref va])), (lf, QQ (cys 4) 80 (fun _ => none)), (va, I0 (cys 0) 80), (dp, I0 (cys 0) 3), (mb, I0 (cys 0) 3)]) rfl ?_
  refine k_putF Gk hini 0 2 rfl rfl inT7 tyX7_ok nmX7 (by decide) lf7_25 rfl rfl rfl rfl rfl rfl (Nat.le_of_ble_eq_true rfl) dX7_init_37 ?_
  refine k_eq (tl' := [(aw, .inr (7, [.int (iI 3), .ref dp, .ref mb, .null, .null, .null, .int 0, .ref lf, .ref va])), (lf, QQ (cys 4) 80 (fun _ => none)), (va, I0 (cys 0) 80), (dp, I0 (cys 0) 3), (mb, I0 (cys 0) 3)]) rfl ?_
  refine k_aload_n Gk dX7_init_40 rfl ?_
  refine k_iload_n Gk dX7_init_41 rfl ?_
  refine k_bipush Gk dX7_init_42 (by decide +kernel) ?_
  refine k_mna Gk (nm := "[[I") (ty := .int) (kO := 4) (kI := 0) 3 24 (TW_of 547 (by decide +kernel) (by decide +kernel)) (by decide +kernel) Gk.sf.2.2.1 (TW_of 97 (by decide +kernel) (by decide +kernel)) rfl rfl (fun _ => rfl) (by decide +kernel) (fun c => innI c _) rfl rfl (by decide) dX7_init_44 (by decide +kernel) (by decide +kernel) (by decide +kernel) (by decide +kernel) (by decide) (by decide) ⟨by decide, by decide⟩ (fun pa r => ?_)
  refine k_eq (tl' := [(aw, .inr (7, [.int (iI 3), .ref dp, .ref mb, .null, .null, .null, .int 0, .ref lf, .ref va])), (lf, QQ (cys 4) 80 (fun _ => none)), (va, I0 (cys 0) 80), (dp, I0 (cys 0) 3), (mb, I0 (cys 0) 3), (pa, QQ (cys 4) 3 (fun i => if i < 3 then some (r i) else none)), (r 0, I0 (cys 0) 24), (r 1, I0 (cys 0) 24), (r 2, I0 (cys 0) 24)]) rfl ?_
  refine k_putF Gk hini 0 3 rfl rfl inT7 tyX7_ok nmX7 (by decide) lf7_29 rfl rfl rfl rfl rfl rfl (Nat.le_of_ble_eq_true rfl) dX7_init_48 ?_
  refine k_eq (tl' := [(aw, .inr (7, [.int (iI 3), .ref dp, .ref mb, .ref pa, .null, .null, .int 0, .ref lf, .ref va])), (lf, QQ (cys 4) 80 (fun _ => none)), (va, I0 (cys 0) 80), (dp, I0 (cys 0) 3), (mb, I0 (cys 0) 3), (pa, QQ (cys 4) 3 (fun i => if i < 3 then some (r i) else none)), (r 0, I0 (cys 0) 24), (r 1, I0 (cys 0) 24), (r 2, I0 (cys 0) 24)]) rfl ?_
  refine k_aload_n Gk dX7_init_51 rfl ?_
  refine k_iload_n Gk dX7_init_52 rfl ?_
  refine k_bipush Gk dX7_init_53 (by decide +kernel) ?_
  refine k_mna Gk (nm := "[[Z") (ty := .boolean) (kO := 5) (kI := 1) 3 24 (TW_of 548 (by decide +kernel) (by decide +kernel)) (by decide +kernel) Gk.sf.2.2.2.1 (TW_of 121 (by decide +kernel) (by decide +kernel)) rfl rfl (fun _ => rfl) (by decide +kernel) (fun c => innZ c _) rfl rfl (by decide) dX7_init_55 (by decide +kernel) (by decide +kernel) (by decide +kernel) (by decide +kernel) (by decide) (by decide) ⟨by decide, by decide⟩ (fun io rz => ?_)
  refine k_eq (tl' := [(aw, .inr (7, [.int (iI 3), .ref dp, .ref mb, .ref pa, .null, .null, .int 0, .ref lf, .ref va])), (lf, QQ (cys 4) 80 (fun _ => none)), (va, I0 (cys 0) 80), (dp, I0 (cys 0) 3), (mb, I0 (cys 0) 3), (pa, QQ (cys 4) 3 (fun i => if i < 3 then some (r i) else none)), (r 0, I0 (cys 0) 24), (r 1, I0 (cys 0) 24), (r 2, I0 (cys 0) 24), (io, QQ (cys 5) 3 (fun i => if i < 3 then some (rz i) else none)), (rz 0, I0 (cys 1) 24), (rz 1, I0 (cys 1) 24), (rz 2, I0 (cys 1) 24)]) rfl ?_
  refine k_putF Gk hini 0 4 rfl rfl inT7 tyX7_ok nmX7 (by decide) lf7_34 rfl rfl rfl rfl rfl rfl (Nat.le_of_ble_eq_true rfl) dX7_init_59 ?_
  refine k_eq (tl' := [(aw, .inr (7, [.int (iI 3), .ref dp, .ref mb, .ref pa, .ref io, .null, .int 0, .ref lf, .ref va])), (lf, QQ (cys 4) 80 (fun _ => none)), (va, I0 (cys 0) 80), (dp, I0 (cys 0) 3), (mb, I0 (cys 0) 3), (pa, QQ (cys 4) 3 (fun i => if i < 3 then some (r i) else none)), (r 0, I0 (cys 0) 24), (r 1, I0 (cys 0) 24), (r 2, I0 (cys 0) 24), (io, QQ (cys 5) 3 (fun i => if i < 3 then some (rz i) else none)), (rz 0, I0 (cys 1) 24), (rz 1, I0 (cys 1) 24), (rz 2, I0 (cys 1) 24)]) rfl ?_
  refine k_aload_n Gk dX7_init_62 rfl ?_
  refine k_iload_n Gk dX7_init_63 rfl ?_
  refine k_newI Gk 3 dX7_init_64 (by decide +kernel) (by decide +kernel) (by decide) ⟨by decide, by decide⟩ (fun pt => ?_)
  refine k_eq (tl' := [(aw, .inr (7, [.int (iI 3), .ref dp, .ref mb, .ref pa, .ref io, .null, .int 0, .ref lf, .ref va])), (lf, QQ (cys 4) 80 (fun _ => none)), (va, I0 (cys 0) 80), (dp, I0 (cys 0) 3), (mb, I0 (cys 0) 3), (pa, QQ (cys 4) 3 (fun i => if i < 3 then some (r i) else none)), (r 0, I0 (cys 0) 24), (r 1, I0 (cys 0) 24), (r 2, I0 (cys 0) 24), (io, QQ (cys 5) 3 (fun i => if i < 3 then some (rz i) else none)), (rz 0, I0 (cys 1) 24), (rz 1, I0 (cys 1) 24), (rz 2, I0 (cys 1) 24), (pt, I0 (cys 0) 3)]) rfl ?_
  refine k_putF Gk hini 0 5 rfl rfl inT7 tyX7_ok nmX7 (by decide) lf7_37 rfl rfl rfl rfl rfl rfl (Nat.le_of_ble_eq_true rfl) dX7_init_66 ?_
  refine k_eq (tl' := [(aw, .inr (7, [.int (iI 3), .ref dp, .ref mb, .ref pa, .ref io, .ref pt, .int 0, .ref lf, .ref va])), (lf, QQ (cys 4) 80 (fun _ => none)), (va, I0 (cys 0) 80), (dp, I0 (cys 0) 3), (mb, I0 (cys 0) 3), (pa, QQ (cys 4) 3 (fun i => if i < 3 then some (r i) else none)), (r 0, I0 (cys 0) 24), (r 1, I0 (cys 0) 24), (r 2, I0 (cys 0) 24), (io, QQ (cys 5) 3 (fun i => if i < 3 then some (rz i) else none)), (rz 0, I0 (cys 1) 24), (rz 1, I0 (cys 1) 24), (rz 2, I0 (cys 1) 24), (pt, I0 (cys 0) 3)]) rfl ?_
  intro H locs ls hP hD hS hl
  obtain ⟨e1, e2, e3⟩ := mw_app hL0 hD
  have hN := va_D_nodup hD
  rw [e1] at hP hD
  refine (j_wid (cells' := 20) (slots' := 340) (by decide) (by decide) (K _ _ dp mb pa io pt lf va (fun d => r d.toNat) ?_)) H locs ls e2 hP hD hS hl
  have hO := fun {k : Nat} {q : Nat × va_E} (h : ([(aw, .inr (7, [.int (iI 3), .ref dp, .ref mb, .ref pa, .ref io, .ref pt, .int 0, .ref lf, .ref va])), (lf, QQ (cys 4) 80 (fun _ => none)), (va, I0 (cys 0) 80), (dp, I0 (cys 0) 3), (mb, I0 (cys 0) 3), (pa, QQ (cys 4) 3 (fun i => if i < 3 then some (r i) else none)), (r 0, I0 (cys 0) 24), (r 1, I0 (cys 0) 24), (r 2, I0 (cys 0) 24), (io, QQ (cys 5) 3 (fun i => if i < 3 then some (rz i) else none)), (rz 0, I0 (cys 1) 24), (rz 1, I0 (cys 1) 24), (rz 2, I0 (cys 1) 24), (pt, I0 (cys 0) 3)] : va_W)[k]? = some q) => upL_ob (g := g) hN e3 h
  have hA := fun {k a n : Nat} (h : ([(aw, .inr (7, [.int (iI 3), .ref dp, .ref mb, .ref pa, .ref io, .ref pt, .int 0, .ref lf, .ref va])), (lf, QQ (cys 4) 80 (fun _ => none)), (va, I0 (cys 0) 80), (dp, I0 (cys 0) 3), (mb, I0 (cys 0) 3), (pa, QQ (cys 4) 3 (fun i => if i < 3 then some (r i) else none)), (r 0, I0 (cys 0) 24), (r 1, I0 (cys 0) 24), (r 2, I0 (cys 0) 24), (io, QQ (cys 5) 3 (fun i => if i < 3 then some (rz i) else none)), (rz 0, I0 (cys 1) 24), (rz 1, I0 (cys 1) 24), (rz 2, I0 (cys 1) 24), (pt, I0 (cys 0) 3)] : va_W)[k]? = some (a, I0 (cys 0) n)) => (⟨(hO h).1, (hO h).2.1, (hO h).2.2.trans (dA_zero cys n).symm⟩ : AR cys ad _ (upL g _) a (List.replicate n 0))
  clear hP hD hS hl e1 e2
  have hne := fun {i j a b : Nat} {x y : va_E} (h1 : ([(aw, .inr (7, [.int (iI 3), .ref dp, .ref mb, .ref pa, .ref io, .ref pt, .int 0, .ref lf, .ref va])), (lf, QQ (cys 4) 80 (fun _ => none)), (va, I0 (cys 0) 80), (dp, I0 (cys 0) 3), (mb, I0 (cys 0) 3), (pa, QQ (cys 4) 3 (fun i => if i < 3 then some (r i) else none)), (r 0, I0 (cys 0) 24), (r 1, I0 (cys 0) 24), (r 2, I0 (cys 0) 24), (io, QQ (cys 5) 3 (fun i => if i < 3 then some (rz i) else none)), (rz 0, I0 (cys 1) 24), (rz 1, I0 (cys 1) 24), (rz 2, I0 (cys 1) 24), (pt, I0 (cys 0) 3)] : va_W)[i]? = some (a, x)) (h2 : ([(aw, .inr (7, [.int (iI 3), .ref dp, .ref mb, .ref pa, .ref io, .ref pt, .int 0, .ref lf, .ref va])), (lf, QQ (cys 4) 80 (fun _ => none)), (va, I0 (cys 0) 80), (dp, I0 (cys 0) 3), (mb, I0 (cys 0) 3), (pa, QQ (cys 4) 3 (fun i => if i < 3 then some (r i) else none)), (r 0, I0 (cys 0) 24), (r 1, I0 (cys 0) 24), (r 2, I0 (cys 0) 24), (io, QQ (cys 5) 3 (fun i => if i < 3 then some (rz i) else none)), (rz 0, I0 (cys 1) 24), (rz 1, I0 (cys 1) 24), (rz 2, I0 (cys 1) 24), (pt, I0 (cys 0) 3)] : va_W)[j]? = some (b, y)) (hij : i ≠ j) => nd_ne hN hij h1 h2
  have hd2 : ∀ d : Int, 0 ≤ d → d < 3 → d = 0 ∨ d = 1 ∨ d = 2 := fun d d0 d1 => by omega
  have h0 := hO (k := 0) rfl
  rw [show (.int 0 : Value) = .int (iI 0) by rw [iI_0]] at h0
  refine ⟨h0, hA (k := 3) rfl, hA (k := 4) rfl, ⟨_, hO (k := 5) rfl, fun d d0 d1 => if_pos (by omega)⟩, fun d d0 d1 => ⟨?_, rfl⟩, hA (k := 13) rfl, hO (k := 1) rfl, hA (k := 2) rfl, ⟨rfl, rfl, rfl, List.length_replicate, by decide, by decide⟩, ⟨hne (i := 3) (j := 4) rfl rfl (by decide), hne (i := 3) (j := 13) rfl rfl (by decide), hne (i := 3) (j := 2) rfl rfl (by decide), hne (i := 4) (j := 13) rfl rfl (by decide), hne (i := 4) (j := 2) rfl rfl (by decide), hne (i := 13) (j := 2) rfl rfl (by decide), hne (i := 1) (j := 5) rfl rfl (by decide)⟩, fun d d0 d1 => ?_, fun d d' d0 d1 d2 d3 hdd => ?_⟩
  · rcases hd2 d d0 d1 with rfl | rfl | rfl
    · exact hA (k := 6) rfl
    · exact hA (k := 7) rfl
    · exact hA (k := 8) rfl
  · rcases hd2 d d0 d1 with rfl | rfl | rfl
    · exact ⟨hne (i := 6) (j := 3) rfl rfl (by decide), hne (i := 6) (j := 4) rfl rfl (by decide), hne (i := 6) (j := 13) rfl rfl (by decide), hne (i := 6) (j := 2) rfl rfl (by decide)⟩
    · exact ⟨hne (i := 7) (j := 3) rfl rfl (by decide), hne (i := 7) (j := 4) rfl rfl (by decide), hne (i := 7) (j := 13) rfl rfl (by decide), hne (i := 7) (j := 2) rfl rfl (by decide)⟩
    · exact ⟨hne (i := 8) (j := 3) rfl rfl (by decide), hne (i := 8) (j := 4) rfl rfl (by decide), hne (i := 8) (j := 13) rfl rfl (by decide), hne (i := 8) (j := 2) rfl rfl (by decide)⟩
  · rcases hd2 d d0 d1 with rfl | rfl | rfl <;> rcases hd2 d' d2 d3 with rfl | rfl | rfl
    · exact absurd rfl hdd
    · exact hne (i := 6) (j := 7) rfl rfl (by decide)
    · exact hne (i := 6) (j := 8) rfl rfl (by decide)
    · exact hne (i := 7) (j := 6) rfl rfl (by decide)
    · exact absurd rfl hdd
    · exact hne (i := 7) (j := 8) rfl rfl (by decide)
    · exact hne (i := 8) (j := 6) rfl rfl (by decide)
    · exact hne (i := 8) (j := 7) rfl rfl (by decide)
    · exact absurd rfl hdd
