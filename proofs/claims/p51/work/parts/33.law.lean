theorem dL_below_0 : decode cL_below 0 = .ok (.iload_n 0, 1) := by decide +kernel
theorem dL_below_1 : decode cL_below 1 = .ok (.ldc 7, 2) := by decide +kernel
theorem dL_below_3 : decode cL_below 3 = .ok (.iand, 1) := by decide +kernel
theorem dL_below_4 : decode cL_below 4 = .ok (.iload_n 1, 1) := by decide +kernel
theorem dL_below_5 : decode cL_below 5 = .ok (.irem, 1) := by decide +kernel
theorem dL_below_6 : decode cL_below 6 = .ok (.ireturn, 1) := by decide +kernel
theorem dL_cell_0 : decode cL_cell 0 = .ok (.iload_n 1, 1) := by decide +kernel
theorem dL_cell_1 : decode cL_cell 1 = .ok (.aload_n 0, 1) := by decide +kernel
theorem dL_cell_2 : decode cL_cell 2 = .ok (.arraylength, 1) := by decide +kernel
theorem dL_cell_3 : decode cL_cell 3 = .ok (.if_icmp .ge 9, 3) := by decide +kernel
theorem dL_cell_6 : decode cL_cell 6 = .ok (.aload_n 0, 1) := by decide +kernel
theorem dL_cell_7 : decode cL_cell 7 = .ok (.iload_n 1, 1) := by decide +kernel
theorem dL_cell_8 : decode cL_cell 8 = .ok (.iaload, 1) := by decide +kernel
theorem dL_cell_9 : decode cL_cell 9 = .ok (.goto 9, 3) := by decide +kernel
theorem dL_cell_12 : decode cL_cell 12 = .ok (.ldc 8, 2) := by decide +kernel
theorem dL_cell_14 : decode cL_cell 14 = .ok (.iload_n 1, 1) := by decide +kernel
theorem dL_cell_15 : decode cL_cell 15 = .ok (.iconst 3, 1) := by decide +kernel
theorem dL_cell_16 : decode cL_cell 16 = .ok (.iadd, 1) := by decide +kernel
theorem dL_cell_17 : decode cL_cell 17 = .ok (.imul, 1) := by decide +kernel
theorem dL_cell_18 : decode cL_cell 18 = .ok (.ireturn, 1) := by decide +kernel
theorem dX7_depth_0 : decode cX7_depth 0 = .ok (.iload_n 2, 1) := by decide +kernel
theorem dX7_depth_1 : decode cX7_depth 1 = .ok (.ifCond .ne 7, 3) := by decide +kernel
theorem dX7_depth_4 : decode cX7_depth 4 = .ok (.iconst 0, 1) := by decide +kernel
theorem dX7_depth_5 : decode cX7_depth 5 = .ok (.goto 18, 3) := by decide +kernel
theorem dX7_depth_8 : decode cX7_depth 8 = .ok (.iconst 1, 1) := by decide +kernel
theorem dX7_depth_9 : decode cX7_depth 9 = .ok (.aload_n 0, 1) := by decide +kernel
theorem dX7_depth_10 : decode cX7_depth 10 = .ok (.iload_n 1, 1) := by decide +kernel
theorem dX7_depth_11 : decode cX7_depth 11 = .ok (.aload_n 0, 1) := by decide +kernel
theorem dX7_depth_12 : decode cX7_depth 12 = .ok (.getfield 29, 3) := by decide +kernel
theorem dX7_depth_15 : decode cX7_depth 15 = .ok (.iload_n 1, 1) := by decide +kernel
theorem dX7_depth_16 : decode cX7_depth 16 = .ok (.aaload, 1) := by decide +kernel
theorem dX7_depth_17 : decode cX7_depth 17 = .ok (.iload_n 2, 1) := by decide +kernel
theorem dX7_depth_18 : decode cX7_depth 18 = .ok (.iaload, 1) := by decide +kernel
theorem dX7_depth_19 : decode cX7_depth 19 = .ok (.invokevirtual 56, 3) := by decide +kernel
theorem dX7_depth_22 : decode cX7_depth 22 = .ok (.iadd, 1) := by decide +kernel
theorem dX7_depth_23 : decode cX7_depth 23 = .ok (.ireturn, 1) := by decide +kernel
theorem dX7_on_0 : decode cX7_on 0 = .ok (.new 66, 3) := by decide +kernel
theorem dX7_on_3 : decode cX7_on 3 = .ok (.dup, 1) := by decide +kernel
theorem dX7_on_4 : decode cX7_on 4 = .ok (.invokespecial 68, 3) := by decide +kernel
theorem dX7_on_7 : decode cX7_on 7 = .ok (.astore 4, 2) := by decide +kernel
theorem dX7_on_9 : decode cX7_on 9 = .ok (.aload_n 0, 1) := by decide +kernel
theorem dX7_on_10 : decode cX7_on 10 = .ok (.iload_n 1, 1) := by decide +kernel
theorem dX7_on_11 : decode cX7_on 11 = .ok (.iload_n 2, 1) := by decide +kernel
theorem dX7_on_12 : decode cX7_on 12 = .ok (.invokevirtual 56, 3) := by decide +kernel
theorem dX7_on_15 : decode cX7_on 15 = .ok (.iload_n 3, 1) := by decide +kernel
theorem dX7_on_16 : decode cX7_on 16 = .ok (.if_icmp .ne 16, 3) := by decide +kernel
theorem dX7_on_19 : decode cX7_on 19 = .ok (.aload 4, 2) := by decide +kernel
theorem dX7_on_21 : decode cX7_on 21 = .ok (.iload_n 2, 1) := by decide +kernel
theorem dX7_on_22 : decode cX7_on 22 = .ok (.invokestatic 69, 3) := by decide +kernel
theorem dX7_on_25 : decode cX7_on 25 = .ok (.invokevirtual 75, 3) := by decide +kernel
theorem dX7_on_28 : decode cX7_on 28 = .ok (.pop, 1) := by decide +kernel
theorem dX7_on_29 : decode cX7_on 29 = .ok (.aload 4, 2) := by decide +kernel
theorem dX7_on_31 : decode cX7_on 31 = .ok (.areturn, 1) := by decide +kernel
theorem dX7_on_32 : decode cX7_on 32 = .ok (.iconst 1, 1) := by decide +kernel
theorem dX7_on_33 : decode cX7_on 33 = .ok (.istore 5, 2) := by decide +kernel
theorem dX7_on_35 : decode cX7_on 35 = .ok (.iload 5, 2) := by decide +kernel
theorem dX7_on_37 : decode cX7_on 37 = .ok (.aload_n 0, 1) := by decide +kernel
theorem dX7_on_38 : decode cX7_on 38 = .ok (.getfield 25, 3) := by decide +kernel
theorem dX7_on_41 : decode cX7_on 41 = .ok (.iload_n 1, 1) := by decide +kernel
theorem dX7_on_42 : decode cX7_on 42 = .ok (.iaload, 1) := by decide +kernel
theorem dX7_on_43 : decode cX7_on 43 = .ok (.if_icmp .ge 36, 3) := by decide +kernel
theorem dX7_on_46 : decode cX7_on 46 = .ok (.aload_n 0, 1) := by decide +kernel
theorem dX7_on_47 : decode cX7_on 47 = .ok (.getfield 29, 3) := by decide +kernel
theorem dX7_on_50 : decode cX7_on 50 = .ok (.iload_n 1, 1) := by decide +kernel
theorem dX7_on_51 : decode cX7_on 51 = .ok (.aaload, 1) := by decide +kernel
theorem dX7_on_52 : decode cX7_on 52 = .ok (.iload 5, 2) := by decide +kernel
theorem dX7_on_54 : decode cX7_on 54 = .ok (.iaload, 1) := by decide +kernel
theorem dX7_on_55 : decode cX7_on 55 = .ok (.iload_n 2, 1) := by decide +kernel
theorem dX7_on_56 : decode cX7_on 56 = .ok (.if_icmp .ne 17, 3) := by decide +kernel
theorem dX7_on_59 : decode cX7_on 59 = .ok (.aload 4, 2) := by decide +kernel
theorem dX7_on_61 : decode cX7_on 61 = .ok (.aload_n 0, 1) := by decide +kernel
theorem dX7_on_62 : decode cX7_on 62 = .ok (.iload_n 1, 1) := by decide +kernel
theorem dX7_on_63 : decode cX7_on 63 = .ok (.iload 5, 2) := by decide +kernel
theorem dX7_on_65 : decode cX7_on 65 = .ok (.iload_n 3, 1) := by decide +kernel
theorem dX7_on_66 : decode cX7_on 66 = .ok (.invokevirtual 79, 3) := by decide +kernel
theorem dX7_on_69 : decode cX7_on 69 = .ok (.invokevirtual 83, 3) := by decide +kernel
theorem dX7_on_72 : decode cX7_on 72 = .ok (.pop, 1) := by decide +kernel
theorem dX7_on_73 : decode cX7_on 73 = .ok (.iinc 5 1, 3) := by decide +kernel
theorem dX7_on_76 : decode cX7_on 76 = .ok (.goto (-41), 3) := by decide +kernel
theorem dX7_on_79 : decode cX7_on 79 = .ok (.aload 4, 2) := by decide +kernel
theorem dX7_on_81 : decode cX7_on 81 = .ok (.areturn, 1) := by decide +kernel
/-! by program: wip/whole/gen.py out of wip/whole/src/33.law.eb -/
/-! the law's small methods; the World's depth and on -/
/-- a dimension's tree in the World -/
def DPW (cys : Nat → ClassId) (ad : Nat → Int → Nat) (L : List Nat) (g : Nat → va_E) (S : ZT) (aw : Nat) (d : Int) : Prop := ∃ (fs : List Value) (pa N b mb : Nat) (f9 : Nat → Option Nat) (W Wm : List Int), OB ad L g aw 7 fs ∧ fs[3]? = some (.ref pa) ∧ fs[2]? = some (.ref mb) ∧ QR ad L g (cys 4) pa N f9 ∧ (0 ≤ d ∧ d < N ∧ N ≤ 3) ∧ f9 d.toNat = some b ∧ AR cys ad L g b W ∧ W.length = 24 ∧ (∀ m, 0 < m → m < S 2 d 4 → W.getD m.toNat 0 = S 3 d m) ∧ AR cys ad L g mb Wm ∧ Wm.length = N ∧ Wm.getD d.toNat 0 = S 2 d 4
theorem DPW.ext {cys : Nat → ClassId} {ad : Nat → Int → Nat} {L L' : List Nat} {g g' : Nat → va_E} {S : ZT} {aw : Nat} {d : Int} (h : DPW cys ad L g S aw d) (e : EXT L g L' g') : DPW cys ad L' g' S aw d := by
  obtain ⟨fs, pa, N, b, mb, f9, W, Wm, h1, h2, h3, h4, h5, h6, h7, h8, h9, h10, h11⟩ := h
  exact ⟨fs, pa, N, b, mb, f9, W, Wm, h1.ext e, h2, h3, h4.ext e, h5, h6, h7.ext e, h8, h9, h10.ext e, h11⟩
theorem fsXL : ∀ j, j < 3 → defaultValue (tyJx4a65c j) = vp_V [.int 0, .null, .int 0] j := fun j hj => match j, hj with
  | 0, _ => rfl
  | 1, _ => rfl
  | 2, _ => rfl
  | n + 3, h => absurd h (by omega)
theorem sibs_s {S : ZT} {d p k : Int} (h : k < S 2 d 4) : sibs S d p k = (if S 3 d k = p then pre S d k else []) ++ sibs S d p (k + 1) := by
  unfold sibs
  rw [show (S 2 d 4 - k).toNat = (S 2 d 4 - (k + 1)).toNat + 1 by omega]
  rfl
theorem sibs_end {S : ZT} {d p k : Int} (h : S 2 d 4 ≤ k) : sibs S d p k = [] := by
  unfold sibs
  rw [show (S 2 d 4 - k).toNat = 0 by omega]
  rfl
theorem sibs_1 {S : ZT} {d p : Int} (h : TOK S d) (hp : 0 ≤ p) : sibs S d p 0 = sibs S d p 1 := by
  have ht := h.1
  rw [sibs_s (by omega), if_neg (by omega)]
  rfl
/-- nothing of a level lies beneath a member of this level -/
theorem sibs_lv {S : ZT} {d p : Int} (h : TOK S d) (h0 : 0 ≤ p) (h1 : p < S 2 d 4) : (sibs S d p 0).filter (fun x => decide (S 4 d x = S 4 d p)) = [] := by
  rw [List.filter_eq_nil_iff]
  intro x hx
  obtain ⟨k, q0, q1, q2, q3⟩ := sibG_mem _ _ hx
  have b := (pre_mem h q0 (by omega) q3).2
  have := (bel_up h h0 q0 (by omega) q2 b).2
  simp
  omega
theorem wk_me {S : ZT} {d p : Int} (h : TOK S d) (h0 : 0 ≤ p) (h1 : p < S 2 d 4) : wk S d p (S 4 d p) = [p] := by
  unfold wk
  rw [pre_unf h h0 h1, List.filter_cons_of_pos (by simp), sibs_lv h h0 h1]
theorem wk_sib {S : ZT} {d p lv : Int} (h : TOK S d) (h0 : 0 ≤ p) (h1 : p < S 2 d 4) (hl : S 4 d p ≠ lv) : wk S d p lv = (sibs S d p 1).filter (fun x => decide (S 4 d x = lv)) := by
  unfold wk
  rw [pre_unf h h0 h1, List.filter_cons_of_neg (by simp [hl]), sibs_1 h h0]
set_option maxRecDepth 100000 in
set_option maxHeartbeats 8000000 in
theorem c_L_below {l : Launch} {D : va_G} {cys : Nat → ClassId} {ad : Nat → Int → Nat} {L : List Nat} {g : Nat → va_E} {X : Int64} {Z : ZT} (hi : injA ad) {v n : Int} (hn : 1 ≤ n ∧ n ≤ 1000) : CM l D cys ad yL_below cL_below 2 (some .int) 0 0 0 0 [.int (iI v), .int (iI n)] L g X Z (PI L g X Z (fun r => 0 ≤ r ∧ r < n)) := by
  refine cm_start hi (by decide +kernel) (Nat.le_of_ble_eq_true rfl) ?_
  intro p_ e_ s_ m_ args_ below_ meth_ c_ A_ Q_ hQ G hr hin
  obtain ⟨z, hz, hze⟩ := and31 v
  obtain ⟨k, rfl⟩ : ∃ k : Nat, n = k := ⟨n.toNat, by omega⟩
  have hm := Nat.mod_lt z (show 0 < k by omega)
  refine j_iload_n G dL_below_0 rfl ?_
  refine j_ldc G (v := 2147483647) 2147483647 (by decide +kernel) (TW_of 557 (by decide +kernel) (by decide +kernel)) dL_below_1 ?_
  refine j_iand G dL_below_3 (z := iI (z : Int)) hze ?_
  refine j_iload_n G dL_below_4 rfl ?_
  refine j_irem G (by omega) (by omega) (rem31 hz (by omega) (by omega)) dL_below_5 ?_
  refine jr_I G hQ hr dL_below_6 (by first | decide | omega) (by first | decide | omega) ?_
  exact ⟨by omega, by exact_mod_cast hm⟩
set_option maxRecDepth 100000 in
set_option maxHeartbeats 8000000 in
theorem c_L_cell {l : Launch} {D : va_G} {cys : Nat → ClassId} {ad : Nat → Int → Nat} {L : List Nat} {g : Nat → va_E} {X : Int64} {Z : ZT} (hi : injA ad) {k : Int} (hk : 0 ≤ k ∧ k ≤ 1000) (hL2 : ad 40 1 < 1000) : CM l D cys ad yL_cell cL_cell 2 (some .int) 0 0 0 0 [.ref (ad 40 0), .int (iI k)] L g X Z (PI L g X Z (fun r => True)) := by
  refine cm_start hi (by decide +kernel) (Nat.le_of_ble_eq_true rfl) ?_
  intro p_ e_ s_ m_ args_ below_ meth_ c_ A_ Q_ hQ G hr hin
  refine j_iload_n G dL_cell_0 rfl ?_
  refine j_aload_n G dL_cell_1 rfl ?_
  refine j_scl G hL2 dL_cell_2 ?_
  refine j_icmp_ge G 12 dL_cell_3 (by decide) (by omega) (by omega) (fun c3 => ?_) (fun c3 => ?_)
  · refine j_ldc G (v := 790386105) 790386105 (by decide +kernel) (TW_of 553 (by decide +kernel) (by decide +kernel)) dL_cell_12 ?_
    refine j_iload_n G dL_cell_14 rfl ?_
    refine j_iconst G dL_cell_15 ?_
    refine j_iadd G dL_cell_16 ?_
    refine j_imul G dL_cell_17 ?_
    refine jr_I G hQ hr dL_cell_18 (by first | decide | omega) (by first | decide | omega) ?_
    trivial
  · refine j_aload_n G dL_cell_6 rfl ?_
    refine j_iload_n G dL_cell_7 rfl ?_
    refine j_scr G dL_cell_8 (by omega) (by omega) (by omega) (fun r8 => ?_)
    refine j_goto G 18 dL_cell_9 (by decide) ?_
    refine jr_I G hQ hr dL_cell_18 (by first | decide | omega) (by first | decide | omega) ?_
    trivial
set_option maxRecDepth 100000 in
set_option maxHeartbeats 8000000 in
theorem c_X7_depth_s {l : Launch} {D : va_G} {cys : Nat → ClassId} {ad : Nat → Int → Nat} {L : List Nat} {g : Nat → va_E} {X : Int64} {Z : ZT} (hi : injA ad) {S : ZT} {aw n : Nat} {d q : Int} (hD0 : DPW cys ad L g S aw d) (hT : TOK S d) (hq : 0 ≤ q ∧ q < S 2 d 4) (ih : ∀ w : Int, 0 ≤ w → w < S 2 d 4 → S 4 d w < S 4 d q → CM l D cys ad yX7_depth cX7_depth 3 (some .int) n (22 * n) 0 0 [.ref aw, .int (iI d), .int (iI w)] L g X Z (PI L g X Z (fun r => r = S 4 d w))) : CM l D cys ad yX7_depth cX7_depth 3 (some .int) (n+1) (22*(n+1)) 0 0 [.ref aw, .int (iI d), .int (iI q)] L g X Z (PI L g X Z (fun r => r = S 4 d q)) := by
  refine cm_start hi (by decide +kernel) (Nat.le_of_ble_eq_true rfl) ?_
  intro p_ e_ s_ m_ args_ below_ meth_ c_ A_ Q_ hQ G hr hin
  obtain ⟨fs, pa, N, b, mb, f9, W, Wm, h1, h2, h3, h4, h5, h6, h7, h8, h9, h10, h11⟩ := hD0
  have hT1 := hT.1
  have hqm := hT.at hq.1 hq.2
  unfold MOK at hqm
  refine j_iload_n G dX7_depth_0 rfl ?_
  refine j_if_ne G 8 dX7_depth_1 (by decide) (by omega) (fun c1 => ?_) (fun c1 => ?_)
  · refine j_iconst G dX7_depth_8 ?_
    refine j_aload_n G dX7_depth_9 rfl ?_
    refine j_iload_n G dX7_depth_10 rfl ?_
    refine j_aload_n G dX7_depth_11 rfl ?_
    refine jo_get G 3 h1 dX7_depth_12 rfl h2 (by decide) lf7_29 (Or.inl rfl) inT7 ?_
    refine j_iload_n G dX7_depth_15 rfl ?_
    refine jp_ld G h4 dX7_depth_16 (by omega) (by omega) (by omega) h6 ?_
    refine j_iload_n G dX7_depth_17 rfl ?_
    refine j_dlA G dX7_depth_18 h7 (by first | omega | decide) (by omega) (by omega) ?_
    rw [h9 q (by omega) (by omega)]
    have hqp := hqm.2.2.2 (by omega)
    refine j_cR_I G cvX7_depth (TW_of 606 (by decide +kernel) (by decide +kernel)) (ih (S 3 d q) hqp.1 hqp.2.1 (by omega)) dX7_depth_19 ⟨by dsimp only; omega, by dsimp only; omega⟩ ⟨by dsimp only; omega, by dsimp only; omega⟩ rfl rfl (Nat.le_of_ble_eq_true rfl) (rvO G h1 rfl rfl) (fun r19 h19 => ?_)
    subst r19
    refine j_iadd G dX7_depth_22 ?_
    refine jr_I G hQ hr dX7_depth_23 (by first | decide | omega) (by first | decide | omega) ?_
    first | omega | (refine ⟨?_, ?_⟩ <;> (try intros) <;> first | rfl | omega | (exfalso; omega)) | simp
  · refine j_iconst G dX7_depth_4 ?_
    refine j_goto G 23 dX7_depth_5 (by decide) ?_
    refine jr_I G hQ hr dX7_depth_23 (by first | decide | omega) (by first | decide | omega) ?_
    first | omega | (refine ⟨?_, ?_⟩ <;> (try intros) <;> first | rfl | omega | (exfalso; omega)) | simp
theorem c_X7_depth {l : Launch} {D : va_G} {cys : Nat → ClassId} {ad : Nat → Int → Nat} {L : List Nat} {g : Nat → va_E} {X : Int64} {Z : ZT} (hi : injA ad) {S : ZT} {aw : Nat} {d : Int} (hD0 : DPW cys ad L g S aw d) (hT : TOK S d) : ∀ (n : Nat) (q : Int), 0 ≤ q → q < S 2 d 4 → S 4 d q ≤ n → CM l D cys ad yX7_depth cX7_depth 3 (some .int) (n + 1) (22 * (n + 1)) 0 0 [.ref aw, .int (iI d), .int (iI q)] L g X Z (PI L g X Z (fun r => r = S 4 d q)) := by
  intro n
  induction n with
  | zero =>
    intro q q0 q1 q2
    refine c_X7_depth_s (n := 0) hi hD0 hT ⟨q0, q1⟩ (fun w w0 w1 w2 => ?_)
    have := (hT.at w0 w1).1
    omega
  | succ n ih =>
    intro q q0 q1 q2
    exact c_X7_depth_s (n := n + 1) hi hD0 hT ⟨q0, q1⟩ (fun w w0 w1 w2 => ih w w0 w1 (by omega))
set_option maxRecDepth 100000 in
set_option maxHeartbeats 8000000 in
theorem c_X7_on_s {l : Launch} {D : va_G} {cys : Nat → ClassId} {ad : Nat → Int → Nat} {L : List Nat} {g : Nat → va_E} {X : Int64} {Z : ZT} (hi : injA ad) {S : ZT} {aw n : Nat} {d q lv : Int} (hD0 : DPW cys ad L g S aw d) (hT : TOK S d) (hq : 0 ≤ q ∧ q < S 2 d 4) (hlv : 0 ≤ lv ∧ lv ≤ 3) (ih : ∀ (w : Int) (L1 : List Nat) (g1 : Nat → va_E), 0 ≤ w → w < S 2 d 4 → S 4 d q < S 4 d w → DPW cys ad L1 g1 S aw d → CM l D cys ad yX7_on cX7_on 6 (some (.object "java/util/ArrayList")) (8 + n) (200 + 25 * n) (5 * (pre S d w).length - 3) (130 * (pre S d w).length - 85) [.ref aw, .int (iI d), .int (iI w), .int (iI lv)] L1 g1 X Z (PGA L1 g1 X Z (fun r L9 g9 X9 Z9 => ALS cys ad L1 L9 g9 r (wk S d w lv) ∧ EXT L1 g1 L9 g9 ∧ X9 = X ∧ Z9 = Z))) : CM l D cys ad yX7_on cX7_on 6 (some (.object "java/util/ArrayList")) (8+(n+1)) (200+25*(n+1)) (5*(pre S d q).length-3) (130*(pre S d q).length-85) [.ref aw, .int (iI d), .int (iI q), .int (iI lv)] L g X Z (PGA L g X Z (fun r L9 g9 X9 Z9 => ALS cys ad L L9 g9 r (wk S d q lv) ∧ EXT L g L9 g9 ∧ X9 = X ∧ Z9 = Z)) := by
  refine cm_start hi (by decide +kernel) (Nat.le_of_ble_eq_true rfl) ?_
  intro p_ e_ s_ m_ args_ below_ meth_ c_ A_ Q_ hQ G hr hin
  have hT1 := hT.1
  have hqm := hT.at hq.1 hq.2
  unfold MOK at hqm
  have hpl : (pre S d q).length = (sibs S d q 1).length + 1 := by rw [pre_unf hT hq.1 hq.2, sibs_1 hT hq.1]; rfl
  have hp24 := pre_len hT hq.1 hq.2
  have hwl := wk_len lv hT hq.1 hq.2
  have K : ∀ (nn : Nat) (k : Int) (L1 : List Nat) (g1 : Nat → va_E) (W1 : List Int) (a0 cells slots : Nat), (S 2 d 4 - k).toNat = nn → 1 ≤ k → k ≤ S 2 d 4 → EXT L g L1 g1 → ALS cys ad L L1 g1 a0 W1 → W1 ++ (sibs S d q k).filter (fun x => decide (S 4 d x = lv)) = wk S d q lv → cells + 5 * (sibs S d q k).length ≤ 5 * (pre S d q).length - 3 → slots + 130 * (sibs S d q k).length ≤ 130 * (pre S d q).length - 85 → JJ p_ l e_ { frames := (8+(n+1)), cells := (5*(pre S d q).length-3), slots := (130*(pre S d q).length-85), locals := (200+25*(n+1)) } s_ m_ args_ below_ meth_ c_ D cys ad A_ Q_ 6 cells slots L1 g1 X Z 35 [(0, .ref aw), (1, .int (iI d)), (2, .int (iI q)), (3, .int (iI lv)), (4, .ref a0), (5, .int (iI k))] [] := by
    intro nn
    induction nn with
    | zero =>
      intro k L1 g1 W1 a0 cells slots hn hk0 hk1 hX hA hW hc hs
      obtain ⟨fs, pa, N, b, mb, f9, W, Wm, h1, h2, h3, h4, h5, h6, h7, h8, h9, h10, h11, h12⟩ := hD0.ext hX
      rw [sibs_end (by omega), List.filter_nil, List.append_nil] at hW
      refine j_iload G dX7_on_35 rfl ?_
      refine j_aload_n G dX7_on_37 rfl ?_
      refine jo_get G 2 h1 dX7_on_38 rfl h3 (by decide) lf7_25 (Or.inl rfl) inT7 ?_
      refine j_iload_n G dX7_on_41 rfl ?_
      refine j_dlA G dX7_on_42 h10 (by first | omega | decide) (by omega) (by omega) ?_
      rw [h12]
      refine j_icmp_ge G 79 dX7_on_43 (by decide) (by omega) (by omega) (fun c43 => ?_) (fun c43 => ?_)
      · refine j_aload G dX7_on_79 rfl ?_
        refine jr_GA G hQ hr (Or.inl ⟨_, rfl⟩) dX7_on_81 (by first | decide | omega) (by first | decide | omega) ?_
        rw [← hW]
        exact ⟨hA, hX, rfl, rfl⟩
      · exfalso; omega
    | succ nn ihn =>
      intro k L1 g1 W1 a0 cells slots hn hk0 hk1 hX hA hW hc hs
      obtain ⟨fs, pa, N, b, mb, f9, W, Wm, h1, h2, h3, h4, h5, h6, h7, h8, h9, h10, h11, h12⟩ := hD0.ext hX
      have hss := sibs_s (S := S) (d := d) (p := q) (k := k) (by omega)
      refine j_iload G dX7_on_35 rfl ?_
      refine j_aload_n G dX7_on_37 rfl ?_
      refine jo_get G 2 h1 dX7_on_38 rfl h3 (by decide) lf7_25 (Or.inl rfl) inT7 ?_
      refine j_iload_n G dX7_on_41 rfl ?_
      refine j_dlA G dX7_on_42 h10 (by first | omega | decide) (by omega) (by omega) ?_
      rw [h12]
      refine j_icmp_ge G 79 dX7_on_43 (by decide) (by omega) (by omega) (fun c43 => ?_) (fun c43 => ?_)
      · exfalso; omega
      · refine j_aload_n G dX7_on_46 rfl ?_
        refine jo_get G 3 h1 dX7_on_47 rfl h2 (by decide) lf7_29 (Or.inl rfl) inT7 ?_
        refine j_iload_n G dX7_on_50 rfl ?_
        refine jp_ld G h4 dX7_on_51 (by omega) (by omega) (by omega) h6 ?_
        refine j_iload G dX7_on_52 rfl ?_
        refine j_dlA G dX7_on_54 h7 (by first | omega | decide) (by omega) (by omega) ?_
        rw [h9 k (by omega) (by omega)]
        have hkr := hT.par (m := k) (by omega) (by omega)
        refine j_iload_n G dX7_on_55 rfl ?_
        refine j_icmp_ne G 73 dX7_on_56 (by decide) (by omega) (by omega) (fun c56 => ?_) (fun c56 => ?_)
        · rw [if_neg c56, List.nil_append] at hss
          rw [hss] at hW hc hs
          refine j_iinc G dX7_on_73 rfl (by decide) rfl ?_
          refine j_goto G 35 dX7_on_76 (by decide) ?_
          refine j_keep [0, 1, 2, 3, 4, 5] ?_
          first
          | exact ihn (k + 1) L1 g1 W1 a0 _ _ (by omega) (by omega) (by omega) hX hA hW (by omega) (by omega)
          | exact ihn (k + 1) L69 g69 _ a0 _ _ (by omega) (by omega) (by omega) ⟨p5.1, fun x hx => (p5.2 x hx).trans (hX66.2 x hx)⟩ p6 (by rw [List.filter_append] at hW; rw [List.append_assoc]; exact hW) (by omega) (by omega)
        · rw [if_pos c56] at hss
          rw [hss] at hW hc hs
          rw [List.length_append] at hc hs
          have hkd := kid_dep hT hq.1 (by omega) (by omega) c56
          have hp1 : 1 ≤ (pre S d k).length := by rw [pre_unf hT (by omega) (by omega)]; exact Nat.le_add_left 1 _
          have hWl : W1.length + (wk S d k lv).length ≤ 24 := by
            have h := congrArg List.length hW
            rw [List.filter_append, List.length_append, List.length_append] at h
            unfold wk at h hwl ⊢
            omega
          refine j_aload G dX7_on_59 rfl ?_
          refine j_aload_n G dX7_on_61 rfl ?_
          refine j_iload_n G dX7_on_62 rfl ?_
          refine j_iload G dX7_on_63 rfl ?_
          refine j_iload_n G dX7_on_65 rfl ?_
          refine j_cR_GA G cvX7_on (TW_of 669 (by decide +kernel) (by decide +kernel)) (ih k L1 g1 (by omega) (by omega) (by omega) (hD0.ext hX)) dX7_on_66 ⟨by dsimp only; omega, by dsimp only; omega⟩ ⟨by dsimp only; omega, by dsimp only; omega⟩ rfl rfl (Nat.le_of_ble_eq_true rfl) (rvO G h1 rfl rfl) (fun r66 L66 g66 X66 Z66 h66 => ?_)
          obtain ⟨p1, p2, p3, p4⟩ := h66
          subst X66 Z66
          have hA66 := hA.ext p2
          have hX66 := hX.tr p2
          obtain ⟨mc0, e0, N0, f0, hO66, -⟩ := hA66.2.2
          refine j_cR_GI G cvJx4a65c_addAll_f0b43 (TW_of 777 (by decide +kernel) (by decide +kernel)) (c_Jx4a65c_addAll_f0b43 hi hX66.1 hA66 p1 hWl) dX7_on_69 ⟨by dsimp only; omega, by dsimp only; omega⟩ ⟨by dsimp only; omega, by dsimp only; omega⟩ rfl rfl (Nat.le_of_ble_eq_true rfl) (rvO G hO66 rfl rfl) (fun r69 L69 g69 X69 Z69 h69 => ?_)
          obtain ⟨p5, p6, p7, p8⟩ := h69
          subst X69 Z69
          refine j_pop G dX7_on_72 rfl ?_
          refine j_iinc G dX7_on_73 rfl (by decide) rfl ?_
          refine j_goto G 35 dX7_on_76 (by decide) ?_
          refine j_keep [0, 1, 2, 3, 4, 5] ?_
          first
          | exact ihn (k + 1) L1 g1 W1 a0 _ _ (by omega) (by omega) (by omega) hX hA hW (by omega) (by omega)
          | exact ihn (k + 1) L69 g69 _ a0 _ _ (by omega) (by omega) (by omega) ⟨p5.1, fun x hx => (p5.2 x hx).trans (hX66.2 x hx)⟩ p6 (by rw [List.filter_append] at hW; rw [List.append_assoc]; exact hW) (by omega) (by omega)
  refine jo_new G (ci := 9) (fs := [.int 0, .null, .int 0]) rfl inTL tyJx4a65c_ok fsXL (TW_of 673 (by decide +kernel) (by decide +kernel)) (TW_of 674 (by decide +kernel) (by decide +kernel)) (TW_of 52 (by decide +kernel) (by decide +kernel)) dX7_on_0 ⟨by dsimp only; omega, by dsimp only; omega⟩ (fun a0 na0 ns0 => ?_)
  have hO0 : OB ad (L ++ [a0]) (va_up g a0 (.inr (9, [.int 0, .null, .int 0]))) a0 9 [.int 0, .null, .int 0] := ⟨List.mem_append_right _ (List.mem_singleton.mpr rfl), ns0, va_up_self _ _ _⟩
  have hX0 := (EXT.rf L g).push na0 (.inr (9, [.int 0, .null, .int 0]))
  have hX4 : EXT L g (L ++ [a0]) (va_up (va_up g a0 (.inr (9, [.int 0, .null, .int 0]))) a0 (.inr (9, [.int (iI 0), .ref (ad 42 1), .int (iI 0)]))) := hX0.up na0 _
  have hO4 : OB ad (L ++ [a0]) (va_up (va_up g a0 (.inr (9, [.int 0, .null, .int 0]))) a0 (.inr (9, [.int (iI 0), .ref (ad 42 1), .int (iI 0)]))) a0 9 [.int (iI 0), .ref (ad 42 1), .int (iI 0)] := ⟨List.mem_append_right _ (List.mem_singleton.mpr rfl), ns0, va_up_self _ _ _⟩
  have hOw := hD0.ext hX4
  obtain ⟨fs, pa, N, b, mb, f9, W, Wm, h1, -⟩ := id hOw
  refine j_dup G dX7_on_3 rfl ?_
  refine j_cI_GV G (TW_of 676 (by decide +kernel) (by decide +kernel)) (TW_of 52 (by decide +kernel) (by decide +kernel)) (TW_of 677 (by decide +kernel) (by decide +kernel)) ⟨by decide +kernel, by decide +kernel, by decide +kernel⟩ rfl (TW_of 675 (by decide +kernel) (by decide +kernel)) (c_Jx4a65c_init_da8c8 hi hO0) dX7_on_4 ⟨by dsimp only; omega, by dsimp only; omega⟩ ⟨by dsimp only; omega, by dsimp only; omega⟩ rfl rfl (Nat.le_of_ble_eq_true rfl) (fun L4 g4 X4 Z4 h4 => ?_)
  obtain ⟨e1, e2, e3, e4⟩ := h4
  subst L4 g4 X4 Z4
  refine j_astore G dX7_on_7 (by decide) rfl ?_
  refine j_aload_n G dX7_on_9 rfl ?_
  refine j_iload_n G dX7_on_10 rfl ?_
  refine j_iload_n G dX7_on_11 rfl ?_
  refine j_cR_I G cvX7_depth (TW_of 606 (by decide +kernel) (by decide +kernel)) (c_X7_depth hi hOw hT 3 q hq.1 hq.2 (by omega)) dX7_on_12 ⟨by dsimp only; omega, by dsimp only; omega⟩ ⟨by dsimp only; omega, by dsimp only; omega⟩ rfl rfl (Nat.le_of_ble_eq_true rfl) (rvO G h1 rfl rfl) (fun r12 h12 => ?_)
  subst r12
  refine j_iload_n G dX7_on_15 rfl ?_
  refine j_icmp_ne G 32 dX7_on_16 (by decide) (by omega) (by omega) (fun c16 => ?_) (fun c16 => ?_)
  · refine j_iconst G dX7_on_32 ?_
    refine j_istore G dX7_on_33 (by decide) rfl ?_
    refine j_keep [0, 1, 2, 3, 4, 5] ?_
    refine K _ 1 _ _ [] a0 _ _ rfl ?_ ?_ hX4 ⟨na0, fun x hx => absurd hx List.not_mem_nil, 0, ad 42 1, 0, fun _ => none, hO4, Or.inl ⟨rfl, rfl⟩, fun z => absurd rfl z, fun _ => rfl, Nat.le_refl _, by decide, fun i hi => absurd hi (Nat.not_lt_zero _), ICO.no⟩ ?_ ?_ ?_
    · omega
    · omega
    · rw [List.nil_append, wk_sib hT hq.1 hq.2 (by omega)]
    · omega
    · omega
  · refine j_aload G dX7_on_19 rfl ?_
    refine j_iload_n G dX7_on_21 rfl ?_
    refine j_cT_R G csJ6_valueOf_2dffe (TW_of 699 (by decide +kernel) (by decide +kernel)) (c_J6_valueOf_2dffe hi (x := q) (by omega)) dX7_on_22 ⟨by dsimp only; omega, by dsimp only; omega⟩ ⟨by dsimp only; omega, by dsimp only; omega⟩ rfl rfl (Nat.le_of_ble_eq_true rfl) (fun r22 h22 => ?_)
    subst r22
    refine j_cR_GI G cvJx4a65c_add_9ea2d (TW_of 719 (by decide +kernel) (by decide +kernel)) (c_Jx4a65c_add_9ea2d hi (L0 := L) (y := q) (k := 0) hX4.1 na0 hO4 (by omega)) dX7_on_25 ⟨by dsimp only; omega, by dsimp only; omega⟩ ⟨by dsimp only; omega, by dsimp only; omega⟩ rfl rfl (Nat.le_of_ble_eq_true rfl) (rvO G hO4 rfl rfl) (fun r25 L25 g25 X25 Z25 h25 => ?_)
    obtain ⟨p5, p6, p7, p8⟩ := h25
    subst X25 Z25
    refine j_pop G dX7_on_28 rfl ?_
    refine j_aload G dX7_on_29 rfl ?_
    refine jr_GA G hQ hr (Or.inl ⟨_, rfl⟩) dX7_on_31 (by first | decide | omega) (by first | decide | omega) ?_
    have hlv : S 4 d q = lv := by omega
    subst hlv
    rw [wk_me hT hq.1 hq.2]
    refine ⟨p6, ⟨p5.1, fun x hx => ?_⟩, rfl, rfl⟩
    have hne : x ≠ a0 := by rintro rfl; exact na0 hx
    rw [p5.2 x hx, va_up_ne _ _ hne, va_up_ne _ _ hne]

