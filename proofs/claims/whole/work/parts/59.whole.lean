/-! the start -/
theorem ngl_in : ∀ w ∈ NGL, w ∈ lw_tbl := by decide +kernel
theorem strl_in : ∀ q ∈ STRL, Cond.stringRef q.1 q.2.1 q.2.2 ∈ lw_tbl := by decide +kernel
theorem strl_own : ∀ q ∈ STRL, q.1 = RX6 := by decide +kernel
theorem nnl_in : ∀ q ∈ NNL, Cond.methodLinkNest q.1 q.2.1 q.2.2.1 q.2.2.2 ∈ lw_tbl := by decide +kernel
theorem ncl_in : ∀ q ∈ NCL, Cond.not (.castable q.1 q.2) ∈ flatC (Jvm.Cond.and given_1 narrow_1) := by decide +kernel
theorem unas_in : Cond.isRef (.static Bundle.tN "UNASSIGNED_STACK" Bundle.steD) ∈ flatC (Jvm.Cond.and given_1 narrow_1) := by decide +kernel
theorem sent_in : Cond.isRef (.static Bundle.tN "SUPPRESSED_SENTINEL" Bundle.listD) ∈ flatC (Jvm.Cond.and given_1 narrow_1) := by decide +kernel
theorem ls1_in : Cond.laysStatic Bundle.tN "UNASSIGNED_STACK" Bundle.steD ∈ lw_tbl := List.mem_of_getElem? (i := 550) (by decide +kernel)
theorem ls2_in : Cond.laysStatic Bundle.tN "SUPPRESSED_SENTINEL" Bundle.listD ∈ lw_tbl := List.mem_of_getElem? (i := 552) (by decide +kernel)
theorem ini_in : Cond.initialized Bundle.tN ∈ lw_tbl := List.mem_of_getElem? (i := 80) (by decide +kernel)
theorem aoT_in : Cond.arrayOver (.object "EbbTable$Tree") ∈ lw_tbl := List.mem_of_getElem? (i := 98) (by decide +kernel)
theorem aoI_in : Cond.arrayOver (.array .int) ∈ lw_tbl := List.mem_of_getElem? (i := 106) (by decide +kernel)
theorem aoZ_in : Cond.arrayOver (.array .boolean) ∈ lw_tbl := List.mem_of_getElem? (i := 964) (by decide +kernel)
theorem no_traces {l : Launch} (h : l.flags = flags0) : l.stackTraces = false := by
  unfold Launch.stackTraces
  rw [h]
  decide +kernel
set_option maxHeartbeats 4000000 in
theorem whole_start {p : Program} {e : Env} {s : State} {m : MethodId} {below : List Frame} {meth : Method} {c : Code} (l : Launch) (hflags : l.flags = flags0) {b L : Nat} {xs : Nat → Int32} (hL : L ≤ 2560) (C0 : lw_At p s m meth c b L xs) : W p l e room_1 s m #[Value.ref b] below meth c s.heap [] 0 0 (lw_Z below #[Value.ref b] s) (entryFrame m ([Value.ref b] : List Value).toArray 9) := by
  obtain ⟨hx, hb, hr, hml, hown, hts0, hX, hbl, hlk, hgv⟩ := id C0
  have hts : ∀ w ∈ TW, w.before #[Value.ref b] s = true := fun w h => hts0 w (List.mem_filter.mp h).1
  have hgf := flat_of_before _ hgv
  obtain ⟨c0, i0, k0⟩ := u_known (C := RX0) (T := TX0) (N := 6) (n := 6) hts inT0 (hts _ (TW_of 150 (by decide +kernel) (by decide +kernel)))
  obtain ⟨c1, i1, k1⟩ := u_known (C := RX1) (T := TX1) (N := 4) (n := 4) hts inT1 (hts _ (TW_of 100 (by decide +kernel) (by decide +kernel)))
  obtain ⟨c2, i2, k2⟩ := u_known (C := RX2) (T := TX2) (N := 2) (n := 2) hts inT2 (hts _ (TW_of 200 (by decide +kernel) (by decide +kernel)))
  obtain ⟨c3, i3, k3⟩ := u_known (C := RX3) (T := TX3) (N := 2) (n := 2) hts inT3 (hts _ (TW_of 156 (by decide +kernel) (by decide +kernel)))
  obtain ⟨c4, i4, k4⟩ := u_known (C := RX4) (T := TX4) (N := 6) (n := 6) hts inT4 (hts _ (TW_of 217 (by decide +kernel) (by decide +kernel)))
  obtain ⟨c5, i5, k5⟩ := u_known (C := RX5) (T := TX5) (N := 4) (n := 4) hts inT5 (hts _ (TW_of 126 (by decide +kernel) (by decide +kernel)))
  obtain ⟨c6, i6, k6⟩ := u_known (C := RX6) (T := TX6) (N := 12) (n := 12) hts inT6 (hts _ (TW_of 90 (by decide +kernel) (by decide +kernel)))
  obtain ⟨c7, i7, k7⟩ := u_known (C := RX7) (T := TX7) (N := 19) (n := 19) hts inT7 (hts _ (TW_of 957 (by decide +kernel) (by decide +kernel)))
  have hAT : va_AO "EbbTable$Tree" s := va_AO.of (hts0 _ aoT_in)
  have hAI : va_AOA .int s := hts0 _ aoI_in
  have hAZ : va_AOA .boolean s := hts0 _ aoZ_in
  obtain ⟨cI, kI, oI, a1, a2, a3⟩ := Cond.arrayClass_spec (hts _ (TW_of (w := .arrayClass .int) 124 (by decide +kernel) (by decide +kernel)))
  obtain ⟨cZ, kZ, oZ, z1, z2, z3⟩ := Cond.arrayClass_spec (hts _ (TW_of (w := .arrayClass .boolean) 148 (by decide +kernel) (by decide +kernel)))
  obtain ⟨cJ, kJ, oJ, j1, j2, j3⟩ := Cond.arrayClass_spec (hts _ (TW_of (w := .arrayClass .long) 1409 (by decide +kernel) (by decide +kernel)))
  obtain ⟨oT, cT, kT, t1, -, t3, t4, t5⟩ := Cond.arrayOver_spec (args := #[]) hAT
  obtain ⟨oA, cA, kA, p1, -, p3, p4, p5⟩ := arrayOverA_spec (args := #[]) hAI
  obtain ⟨oB, cB, kB, q1, -, q3, q4, q5⟩ := arrayOverA_spec (args := #[]) hAZ
  have hK : va_K (fun n => ([c0, c1, c2, c3, c4, c5, c6, c7] : List ClassId).getD n 0, fun n => ([i0, i1, i2, i3, i4, i5, i6, i7] : List (Nat → Nat)).getD n (fun _ => 0)) vwCl (tysC (fun n => ([cI, cZ, cJ, cT, cA, cB] : List ClassId).getD n 0)) s := by
    refine ⟨fun n q hq => ?_, fun n q hq => ?_⟩
    · have hn : n < 8 := (List.getElem?_eq_some_iff.mp hq).1
      exact (match n, hn, hq with
        | 0, _, hq => by cases hq; exact k0
        | 1, _, hq => by cases hq; exact k1
        | 2, _, hq => by cases hq; exact k2
        | 3, _, hq => by cases hq; exact k3
        | 4, _, hq => by cases hq; exact k4
        | 5, _, hq => by cases hq; exact k5
        | 6, _, hq => by cases hq; exact k6
        | 7, _, hq => by cases hq; exact k7
        | x + 8, h, _ => absurd h (by omega))
    · have hn : n < 6 := (List.getElem?_eq_some_iff.mp hq).1
      exact (match n, hn, hq with
        | 0, _, hq => by cases hq; exact ⟨fun _ _ => ⟨(fun _ h => by cases h), kI, a2, oI, a3⟩, a1⟩
        | 1, _, hq => by cases hq; exact ⟨fun _ _ => ⟨(fun _ h => by cases h), kZ, z2, oZ, z3⟩, z1⟩
        | 2, _, hq => by cases hq; exact ⟨fun _ _ => ⟨(fun _ h => by cases h), kJ, j2, oJ, j3⟩, j1⟩
        | 3, _, hq => by cases hq; exact ⟨fun _ _ => ⟨(fun _ h => by cases h), kT, t3, oT, t4⟩, kT, oT, t3, t4, t1, t5⟩
        | 4, _, hq => by cases hq; exact ⟨fun _ _ => ⟨(fun _ h => by cases h), kA, p3, oA, p4⟩, p5⟩
        | 5, _, hq => by cases hq; exact ⟨fun _ _ => ⟨(fun _ h => by cases h), kB, q3, oB, q4⟩, q5⟩
        | x + 6, h, _ => absurd h (by omega))
  have hNN : NNS s := fun q hq => va_Nw.of rfl (hts0 _ (nnl_in q hq))
  have hNC : NCS s := fun q hq => va_Nc.of (hgf _ (ncl_in q hq))
  have hc6 : s.vm.findClass RX6 = some c6 := k6.2.1
  have hAmb : Amb (fun q => s.heap.size ≤ q) s s.heap := by
    refine ⟨vx_Zqof (hts0 _ ls1_in) (hts0 _ ini_in) (hgf _ unas_in) (fun a ha => Nat.not_le.mpr ha), vx_Zqof (hts0 _ ls2_in) (hts0 _ ini_in) (hgf _ sent_in) (fun a ha => Nat.not_le.mpr ha), fun w hw => ?_, fun q hq => ?_⟩
    · exact va_Nw.of (by rcases NGL_is hw with ⟨a, b, rfl⟩ | ⟨y, rfl⟩ <;> rfl) (hts0 _ (ngl_in w hw))
    · have h1 := hts0 _ (strl_in q hq)
      have hq0 : s.vm.findClass q.1 = some c6 := by rw [strl_own q hq]; exact hc6
      obtain ⟨k9, cf9, n9, a9, -, -, -, -, -, hev⟩ := Cond.stringRef_spec hq0 h1
      exact ⟨a9, vk_R.of h1 hev⟩
  have hl := lv_entry ([.ref b]) (n := 9) (Nat.le_of_ble_eq_true rfl)
  rw [lg_entry_eq]
  exact start_walk (no_traces hflags) ⟨hx, hb, hml, hown, hts, ⟨hK, hAT, hAI, hAZ, hNN⟩, hlk, fun q h => h⟩ hNC hX hbl hL hr hAmb s.heap [] _ (fun k q h => by simp at h) ⟨fun i j p q h => by simp at h, fun k q h => by simp at h⟩ va_S.rf hl
