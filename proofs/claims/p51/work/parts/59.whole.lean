/-! the law is walked -/
set_option maxRecDepth 100000 in
set_option maxHeartbeats 8000000 in
theorem start_walk {p : Program} {l : Launch} {e : Env} {s : State} {m : MethodId} {below : List Frame} {meth : Method} {c : Code} {D : va_G} {cys : Nat → ClassId} {b : Nat} (hst : l.stackTraces = false) (G : GK p l s m #[Value.ref b] meth c D cys (fun q => s.heap.size ≤ q) code RL 10) (hr : meth.sig.returnType = ret) (ex : Nat → Int → Nat) (hb : ex 40 0 = b) (hL2 : ex 40 1 < 1000) (hAmb : ∀ ad : Nat → Int → Nat, (∀ k, 24 ≤ k → ad k = ex k) → AmbX ad (fun q => s.heap.size ≤ q) s s.heap) : KK p l e room_1 s m #[Value.ref b] below meth c D (fun q => s.heap.size ≤ q) (lw_Z below #[Value.ref b] s) 10 0 0 [] [] 0 [(0, .ref b)] [] := by
  refine k_new G (ci := 6) (fs := [.null, .null, .null, .null, .null, .int 0, .int 0, .int 0, .int 0, .null, .null, .null]) rfl inT6 tyX6_ok fsX6 (TW_of 62 (by decide +kernel) (by decide +kernel)) (TW_of 63 (by decide +kernel) (by decide +kernel)) (TW_of 36 (by decide +kernel) (by decide +kernel)) dL_law_0 ⟨by decide, by decide⟩ (fun a6 => ?_)
  refine k_dup G dL_law_3 rfl ?_
  refine k_call G (TW_of 65 (by decide +kernel) (by decide +kernel)) (TW_of 36 (by decide +kernel) (by decide +kernel)) (TW_of 66 (by decide +kernel) (by decide +kernel)) ⟨by decide +kernel, by decide +kernel, by decide +kernel⟩ rfl (TW_of 64 (by decide +kernel) (by decide +kernel)) (ck_X6 a6) dL_law_4 ⟨by decide, by decide⟩ ⟨by decide, by decide⟩ (Nat.le_of_ble_eq_true rfl) (fun tl6 h6 => ?_)
  refine k_astore_n G dL_law_7 (by decide) rfl ?_
  obtain ⟨cb1, cb2, cb3, cr4, cb5, cb6, cb7, cb8, cb9, cb10, cb11, cb12, cb13, cb14, cb15, cb16, cb17, cb18, cb19, cb20, cb21, cb22, cb23, cb24, cb25, cb26, cb27, cr27, cb28, cb29, cb30, cb31, cb32, cb33, cb34, cb35, cb36, cb37, cb38, cb39, cb40, cb41, cb42, cb43, rfl⟩ := h6
  obtain ⟨q, hq⟩ : ∃ q : Nat → Nat, q = fun n => ([a6, cb1, cb2, cb3, (cr4 0), (cr4 1), (cr4 2), (cr4 3), cb5, cb6, cb7, cb8, cb9, cb10, cb11, cb12, cb13, cb14, cb15, cb16, cb17, cb18, cb19, cb20, cb21, cb22, cb23, cb24, cb25, cb26, cb27, (cr27 0), (cr27 1), (cr27 2), (cr27 3), (cr27 4), (cr27 5), (cr27 6), (cr27 7), (cr27 8), (cr27 9), (cr27 10), (cr27 11), (cr27 12), (cr27 13), (cr27 14), (cr27 15), (cr27 16), (cr27 17), (cr27 18), (cr27 19), (cr27 20), (cr27 21), (cr27 22), (cr27 23), cb28, cb29, cb30, cb31, cb32, cb33, cb34, cb35, cb36, cb37, cb38, cb39, cb40, cb41, cb42, cb43] : List Nat).getD n 0 := ⟨_, rfl⟩
  refine k_eq (tl' := TLf cys q cr4 cr27) (by rw [hq]; rfl) ?_
  have h4 : ∀ j, j < 4 → cr4 j = q (4 + j) := fun j hj => by rw [hq]; exact (match j, hj with
    | 0, _ => rfl
    | 1, _ => rfl
    | 2, _ => rfl
    | 3, _ => rfl
    | x + 4, h => absurd h (by omega))
  have h27 : ∀ j, j < 24 → cr27 j = q (31 + j) := fun j hj => by rw [hq]; exact (match j, hj with
    | 0, _ => rfl
    | 1, _ => rfl
    | 2, _ => rfl
    | 3, _ => rfl
    | 4, _ => rfl
    | 5, _ => rfl
    | 6, _ => rfl
    | 7, _ => rfl
    | 8, _ => rfl
    | 9, _ => rfl
    | 10, _ => rfl
    | 11, _ => rfl
    | 12, _ => rfl
    | 13, _ => rfl
    | 14, _ => rfl
    | 15, _ => rfl
    | 16, _ => rfl
    | 17, _ => rfl
    | 18, _ => rfl
    | 19, _ => rfl
    | 20, _ => rfl
    | 21, _ => rfl
    | 22, _ => rfl
    | 23, _ => rfl
    | x + 24, h => absurd h (by omega))
  have q0 : a6 = q 0 := by rw [hq]; rfl
  clear hq
  intro H locs ls hP hD hS hl
  rw [List.nil_append] at hP hD
  obtain ⟨ad, L, g, hi, hSL, hP1, hD1, e0, hex⟩ := start_mem h4 h27 hP hD ex
  have GJ : GG p l s m #[Value.ref b] meth c D cys ad (fun q => s.heap.size ≤ q) code RL 10 := ⟨G.x, G.b, G.ml, G.ow, G.ts, G.K, G.lk, G.fr, hi, hAmb ad hex⟩
  have e40 : ad 40 0 = b := by rw [hex 40 (by decide)]; exact hb
  have hlaw := law_begin (e := e) (below := below) hi hst GJ hr (by rw [hex 40 (by decide)]; exact hL2) (L := L) (g := g) (X := 0) (Z := Z00) (cells := 1000) (slots := 20000) ⟨WG_0, rfl, rfl, rfl⟩ (by decide) (by decide)
  refine (j_wid (cells' := 1000) (slots' := 20000) (by decide) (by decide) (j_keep [0, 1] ?_) : JJ p l e room_1 s m #[Value.ref b] below meth c D cys ad (fun q => s.heap.size ≤ q) (lw_Z below #[Value.ref b] s) 10 _ _ L g 0 Z00 8 _ []) H locs ls hSL hP1 hD1 hS hl
  rw [e40, e0, ← q0] at hlaw
  exact hlaw
set_option maxHeartbeats 4000000 in
theorem whole_start {p : Program} {e : Env} {s : State} {m : MethodId} {below : List Frame} {meth : Method} {c : Code} (l : Launch) (hflags : l.flags = flags0) {b L : Nat} {xs : Nat → Int32} (hL : L ≤ 260) (C0 : lw_At p s m meth c b L xs) : W p l e room_1 s m #[Value.ref b] below meth c s.heap [] 0 0 (lw_Z below #[Value.ref b] s) (entryFrame m ([Value.ref b] : List Value).toArray 10) := by
  obtain ⟨hx, hb, hr, hml, hown, hts0, hX, hbl, hlk, hgv⟩ := id C0
  have hts : ∀ w ∈ TW, w.before #[Value.ref b] s = true := fun w h => hts0 w (List.mem_filter.mp h).1
  have hgf := flat_of_before _ hgv
  obtain ⟨c0, i0, k0⟩ := u_known (C := RX0) (T := TX0) (N := 6) (n := 6) hts inT0 (hts _ (TW_of 123 (by decide +kernel) (by decide +kernel)))
  obtain ⟨c1, i1, k1⟩ := u_known (C := RX1) (T := TX1) (N := 4) (n := 4) hts inT1 (hts _ (TW_of 73 (by decide +kernel) (by decide +kernel)))
  obtain ⟨c2, i2, k2⟩ := u_known (C := RX2) (T := TX2) (N := 2) (n := 2) hts inT2 (hts _ (TW_of 173 (by decide +kernel) (by decide +kernel)))
  obtain ⟨c3, i3, k3⟩ := u_known (C := RX3) (T := TX3) (N := 2) (n := 2) hts inT3 (hts _ (TW_of 129 (by decide +kernel) (by decide +kernel)))
  obtain ⟨c4, i4, k4⟩ := u_known (C := RX4) (T := TX4) (N := 6) (n := 6) hts inT4 (hts _ (TW_of 190 (by decide +kernel) (by decide +kernel)))
  obtain ⟨c5, i5, k5⟩ := u_known (C := RX5) (T := TX5) (N := 4) (n := 4) hts inT5 (hts _ (TW_of 99 (by decide +kernel) (by decide +kernel)))
  obtain ⟨c6, i6, k6⟩ := u_known (C := RX6) (T := TX6) (N := 12) (n := 12) hts inT6 (hts _ (TW_of 63 (by decide +kernel) (by decide +kernel)))
  obtain ⟨c7, i7, k7⟩ := u_known (C := RX7) (T := TX7) (N := 9) (n := 9) hts inT7 (hts _ (TW_of 541 (by decide +kernel) (by decide +kernel)))
  obtain ⟨c8, i8, k8⟩ := u_known (C := RJ6) (T := TJ6) (N := 1) (n := 1) hts inTI (hts _ (TW_of 707 (by decide +kernel) (by decide +kernel)))
  obtain ⟨c9, i9, k9⟩ := u_known (C := RJx4a65c) (T := TJx4a65c) (N := 3) (n := 3) hts inTL (hts _ (TW_of 674 (by decide +kernel) (by decide +kernel)))
  have hAO : va_AO "java/lang/Object" s := va_AO.of (hts0 _ aoO_in)
  have hAT : va_AO "EbbTable$Tree" s := va_AO.of (hts0 _ aoT_in)
  have hAI : va_AOA .int s := hts0 _ aoI_in
  have hAZ : va_AOA .boolean s := hts0 _ aoZ_in
  obtain ⟨cI, kI, oI, a1, a2, a3⟩ := Cond.arrayClass_spec (hts _ (TW_of (w := .arrayClass .int) 97 (by decide +kernel) (by decide +kernel)))
  obtain ⟨cZ, kZ, oZ, z1, z2, z3⟩ := Cond.arrayClass_spec (hts _ (TW_of (w := .arrayClass .boolean) 121 (by decide +kernel) (by decide +kernel)))
  obtain ⟨oO, cO, kO, o1, -, o3, o4, o5⟩ := Cond.arrayOver_spec (args := #[]) hAO
  obtain ⟨oT, cT, kT, t1, -, t3, t4, t5⟩ := Cond.arrayOver_spec (args := #[]) hAT
  obtain ⟨oA, cA, kA, p1, -, p3, p4, p5⟩ := arrayOverA_spec (args := #[]) hAI
  obtain ⟨oB, cB, kB, q1, -, q3, q4, q5⟩ := arrayOverA_spec (args := #[]) hAZ
  have hK : va_K (fun n => ([c0, c1, c2, c3, c4, c5, c6, c7, c8, c9] : List ClassId).getD n 0, fun n => ([i0, i1, i2, i3, i4, i5, i6, i7, i8, i9] : List (Nat → Nat)).getD n (fun _ => 0)) vwCl (tysC (fun n => ([cI, cZ, cO, cT, cA, cB] : List ClassId).getD n 0)) s := by
    refine ⟨fun n q hq => ?_, fun n q hq => ?_⟩
    · have hn : n < 10 := (List.getElem?_eq_some_iff.mp hq).1
      exact (match n, hn, hq with
        | 0, _, hq => by cases hq; exact k0
        | 1, _, hq => by cases hq; exact k1
        | 2, _, hq => by cases hq; exact k2
        | 3, _, hq => by cases hq; exact k3
        | 4, _, hq => by cases hq; exact k4
        | 5, _, hq => by cases hq; exact k5
        | 6, _, hq => by cases hq; exact k6
        | 7, _, hq => by cases hq; exact k7
        | 8, _, hq => by cases hq; exact k8
        | 9, _, hq => by cases hq; exact k9
        | x + 10, h, _ => absurd h (by omega))
    · have hn : n < 6 := (List.getElem?_eq_some_iff.mp hq).1
      exact (match n, hn, hq with
        | 0, _, hq => by cases hq; exact ⟨fun _ _ => ⟨(fun _ h => by cases h), kI, a2, oI, a3⟩, a1⟩
        | 1, _, hq => by cases hq; exact ⟨fun _ _ => ⟨(fun _ h => by cases h), kZ, z2, oZ, z3⟩, z1⟩
        | 2, _, hq => by cases hq; exact ⟨fun _ _ => ⟨(fun _ h => by cases h), kO, o3, oO, o4⟩, kO, oO, o3, o4, o1, o5⟩
        | 3, _, hq => by cases hq; exact ⟨fun _ _ => ⟨(fun _ h => by cases h), kT, t3, oT, t4⟩, kT, oT, t3, t4, t1, t5⟩
        | 4, _, hq => by cases hq; exact ⟨fun _ _ => ⟨(fun _ h => by cases h), kA, p3, oA, p4⟩, p5⟩
        | 5, _, hq => by cases hq; exact ⟨fun _ _ => ⟨(fun _ h => by cases h), kB, q3, oB, q4⟩, q5⟩
        | x + 6, h, _ => absurd h (by omega))
  have hNN : NNS s := fun q hq => va_Nw.of rfl (hts0 _ (nnl_in q hq))
  have hNM : NMS s := ⟨fun q hq => va_Nw.of rfl (hts0 _ (nml_in q hq)), fun q hq => va_Nw.of rfl (hts0 _ (nfl_in q hq))⟩
  have hNC : NCS s := fun q hq => va_Nc.of (hgf _ (ncl_in q hq))
  have hc6 : s.vm.findClass RX6 = some c6 := k6.2.1
  have hna : ∀ a : Nat, a < s.heap.size → ¬ s.heap.size ≤ a := fun a ha => Nat.not_le.mpr ha
  have hAmb : Amb (fun q => s.heap.size ≤ q) s s.heap := by
    refine ⟨vx_Zqof (hts0 _ ls1_in) (hts0 _ ini_in) (hgf _ unas_in) hna, vx_Zqof (hts0 _ ls2_in) (hts0 _ ini_in) (hgf _ sent_in) hna, fun w hw => ?_, fun q hq => ?_⟩
    · exact va_Nw.of (by rcases NGL_is hw with ⟨a, b, rfl⟩ | ⟨y, rfl⟩ <;> rfl) (hts0 _ (ngl_in w hw))
    · have h1 := hts0 _ (strl_in q hq)
      have hq0 : s.vm.findClass q.1 = some c6 := by rw [strl_own q hq]; exact hc6
      obtain ⟨k9, cf9, n9, a9, -, -, -, -, -, hev⟩ := Cond.stringRef_spec hq0 h1
      exact ⟨a9, vk_R.of h1 hev⟩
  have hlenI : (Term.length icT).eval #[Value.ref b] s none [] s = some (.int (Int32.ofNat 256)) := va_eqt (z := 256) (hgf _ ic1_in)
  obtain ⟨ic, hvC, hel⟩ := vb_Cof (A := fun q => s.heap.size ≤ q) (st := icT) rfl hlenI (hgf _ ic2_in) hna
  obtain ⟨tI, htI, hTI⟩ := va_Tof (A := fun q => s.heap.size ≤ q) (tm := icT) (ty := .object "java/lang/Integer") (N := 256) (f := fun j => .ref (ic j)) (by decide) (hgf _ ic3_in) hlenI hel hna
  have hlen0 : (Term.length alT).eval #[Value.ref b] s none [] s = some (.int (Int32.ofNat 0)) := va_eqt (z := 0) (hgf _ al2_in)
  obtain ⟨t0, ht0, hT0⟩ := va_Tof (A := fun q => s.heap.size ≤ q) (tm := alT) (ty := .object "java/lang/Object") (N := 0) (f := fun _ => .null) (by decide) (hgf _ al1_in) hlen0 (fun j hj => absurd hj (Nat.not_lt_zero j)) hna
  obtain ⟨mi, hmi⟩ := va_Mi.of (hgf _ mi_in)
  obtain ⟨nx, hnx⟩ : ∃ nx : Nat → Nat, ∀ j, Int32.ofNat (nx j) = xs j := Classical.axiomOfChoice (fun j => exN (xs j))
  have hFw : va_Fw alC yColl yJx4a65c_toArray_d5877 s := va_Fw.of (hts0 _ fw1_in) (hts0 _ fw2_in) (hts0 _ fw3_in) (hts0 _ fw4_in) (hts0 _ fw5_in)
  have hl := lv_entry ([.ref b]) (n := 10) (Nat.le_of_ble_eq_true rfl)
  rw [lg_entry_eq]
  refine start_walk (no_traces hflags) ⟨hx, hb, hml, hown, hts, ⟨hK, hAT, hAI, hAZ, hNN⟩, hlk, fun q h => h⟩ hr (fun k i => if k = 40 then (if i = 0 then b else L) else if k = 41 then ic i.toNat else if k = 42 then (if i = 0 then tI else if i = 1 then t0 else mi) else nx i.toNat) rfl (by show L < 1000; omega) (fun ad hex => ⟨hAmb, ?_, ?_, ?_, ?_⟩) s.heap [] _ (fun k q h => by simp at h) ⟨fun i j p q h => by simp at h, fun k q h => by simp at h⟩ va_S.rf hl
  · have e0 : ad 40 0 = b := by rw [hex 40 (by decide)]; rfl
    have e1 : ad 40 1 = L := by rw [hex 40 (by decide)]; rfl
    have e2 : scX ad = xs := by
      funext j
      show Int32.ofNat (ad 43 j) = xs j
      rw [hex 43 (by decide)]
      exact hnx j
    refine ⟨?_, by rw [e0]; exact hbl, by rw [e0]; exact hna b hbl⟩
    rw [e0, e1, e2]
    exact hX
  · have e1 : (fun k : Nat => ad 41 k) = ic := by
      funext j
      rw [hex 41 (by decide)]
      rfl
    have e2 : ad 42 0 = tI := by rw [hex 42 (by decide)]; rfl
    refine ⟨by rw [e1]; exact hvC, va_Zof (hts0 _ ic5_in) (hts0 _ ic7_in) (va_eqt (hgf _ ic4_in)) hna, by rw [e2]; exact va_Zof (hts0 _ ic6_in) (hts0 _ ic7_in) htI hna, ?_⟩
    have e3 : (fun k : Nat => Value.ref (ad 41 k)) = fun j => .ref (ic j) := by
      funext j
      rw [← e1]
    rw [e2, e3]
    exact hTI
  · have e1 : ad 42 1 = t0 := by rw [hex 42 (by decide)]; rfl
    refine ⟨?_, ?_, ?_⟩
    · rw [e1]; exact va_Zof (hts0 _ al4_in) (hts0 _ al5_in) ht0 hna
    · rw [e1]; exact hT0
    · rw [e1]; exact va_Oof (hgf _ al3_in) ht0 hna
  · have e1 : ad 42 2 = mi := by rw [hex 42 (by decide)]; rfl
    refine ⟨by rw [e1]; exact hmi, hAO, hAI, hAZ, hFw, hNC, hNM, hAT, hNN⟩
