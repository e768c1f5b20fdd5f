/-! well formed stays well formed, call by call -/
def WG (S : ZT) : Prop := WF S ∧ ∀ v, 0 ≤ v → v < 6 → 0 ≤ S 13 0 v ∧ S 13 0 v ≤ 80
theorem WG.sp {S Z : ZT} (h : WG S) (hS : SP S Z) : WG Z := ⟨h.1.sp hS, by rw [hS.1 13 rfl]; exact h.2⟩
theorem WG.addDimension {S T : ZT} {lv : Int} (h : WG S) (hM : M_addDimension S lv T) (l0 : 1 ≤ lv) (l1 : lv ≤ 3) (hn : S 0 0 5 < 4) : WG T := by
  obtain ⟨⟨hF, h15⟩, m05, m06, m07, m08, m2, m3, m5, m6, m11⟩ := hM
  obtain ⟨h, h13⟩ := h
  refine ⟨?_, by rw [hF 13 rfl (by decide)]; exact h13⟩
  have t0 := h.n
  have hu := h.2.2.1 (S 0 0 5) (by omega) hn
  unfold WF TOK MOK UOK FOK LOK at *
  simp only [m05, m06, m07, m08, m6, m11, m2, m3, hF 4 rfl (by decide), hF 12 rfl (by decide), hF 13 rfl (by decide), hF 14 rfl (by decide)]
  refine ⟨by omega, fun d d0 d1 => ?_, fun d d0 d1 => ?_, by omega, fun k k0 k1 => by omega, by omega, h.2.2.2.2.2.2.1, fun v v0 v1 => by omega, ?_, by first | exact Or.inl rfl | exact Or.inl trivial | simp, h.2.2.2.2.2.2.2.2.2.2.1, fun q => by first | omega | simp at q, fun q => by first | omega | simp at q⟩
  · by_cases e : d = S 0 0 5
    · subst e
      simp only [true_and, if_true, show ((4 : Int) = 3) = False by simp, show ((5 : Int) = 3) = False by simp, show ((5 : Int) = 4) = False by simp, if_false, and_self, and_true]
      refine ⟨by omega, fun m m0 m1 => ?_, fun m m0 m1 => Or.inl (m5 _ m (by omega) (by omega) m0 m1)⟩
      have em : m = 0 := by omega
      subst em
      omega
    · simp only [e, false_and, if_false]
      have := h.2.1 d d0 (by omega)
      exact ⟨this.1, this.2.1, fun m m0 m1 => Or.inl (m5 d m d0 (by omega) m0 m1)⟩
  · have e : d ≠ S 0 0 5 := by omega
    simp only [e, false_and, if_false]
    exact h.2.2.1 d (by omega) d1
  · have q := h.2.2.2.2.2.2.2.2.1
    refine ⟨q.1, q.2.1, fun d d0 d1 => ?_⟩
    have := q.2.2 d d0 d1
    by_cases e : d = S 0 0 5
    · subst e
      simp only [true_and, if_true]
      omega
    · simp only [e, false_and, if_false]
      exact this
theorem WG.addMember {S T : ZT} {d p : Int} (h : WG S) (hM : M_addMember S d p T) (d0 : 0 ≤ d) (d1 : d < S 0 0 5) (p0 : 0 ≤ p) (p1 : p < S 2 d 4) (hp : S 4 d p ≠ S 2 d 3) (hs : S 2 d 4 < 24) : WG T := by
  obtain ⟨⟨hF, h15⟩, m2, m3, m4⟩ := hM
  obtain ⟨h, h13⟩ := h
  refine ⟨?_, by rw [hF 13 rfl (by decide)]; exact h13⟩
  have t0 := h.n
  have ht := h.t d0 d1
  have e3 : ∀ i, T 2 i 3 = S 2 i 3 := fun i => by rw [m2, if_neg (by omega)]
  have e5 : ∀ i, T 2 i 5 = S 2 i 5 := fun i => by rw [m2, if_neg (by omega)]
  have e4 : ∀ i, T 2 i 4 = if i = d then S 2 d 4 + 1 else S 2 i 4 := fun i => by
    rw [m2]
    by_cases e : i = d
    · rw [if_pos ⟨e, rfl⟩, if_pos e]
    · rw [if_neg (fun q => e q.1), if_neg e]
  have hpm := ht.at p0 p1
  unfold WF TOK MOK UOK FOK LOK at *
  simp only [e3, e4, e5, m3, m4, hF 0 rfl (by decide), hF 5 rfl (by decide), hF 6 rfl (by decide), hF 8 rfl (by decide), hF 9 rfl (by decide), hF 11 rfl (by decide), hF 12 rfl (by decide), hF 13 rfl (by decide), hF 14 rfl (by decide), (h15 _).1, (h15 _).2]
  refine ⟨h.1, fun i i0 i1 => ?_, fun i i0 i1 => ?_, h.2.2.2.1, fun k k0 k1 => ?_, h.2.2.2.2.2⟩
  · have hi := h.2.1 i i0 i1
    by_cases e : i = d
    · subst e
      simp only [true_and, if_true]
      have z0 : ¬ (0 : Int) = S 2 i 4 := by omega
      rw [if_neg z0]
      refine ⟨by omega, fun m m0 m1 => ?_, hi.2.2⟩
      by_cases em : m = S 2 i 4
      · subst em
        simp only [if_true]
        rw [if_neg (by omega : ¬ p = S 2 i 4)]
        omega
      · rw [if_neg em, if_neg em]
        have hm := hi.2.1 m m0 (by omega)
        refine ⟨hm.1, hm.2.1, hm.2.2.1, fun q => ?_⟩
        have := hm.2.2.2 q
        rw [if_neg (by omega : ¬ S 3 i m = S 2 i 4)]
        omega
    · simp only [e, false_and, if_false]
      exact hi
  · have e : i ≠ d := by omega
    simp only [e, false_and, if_false]
    exact h.2.2.1 i i0 i1
  · have hk := h.2.2.2.2.1 k k0 k1
    refine ⟨fun i i0 i1 => ?_, hk.2⟩
    have := hk.1 i i0 i1
    by_cases e : i = d
    · subst e
      simp only [true_and, if_true]
      rw [if_neg (by omega)]
      omega
    · simp only [e, false_and, if_false]
      exact this
theorem STLV_01 {S : ZT} (h : ∀ v, 0 ≤ v → v < 6 → S 14 0 v = 0 ∨ S 14 0 v = 1) {v : Int} (h0 : 0 ≤ v) (h1 : v < 6) : STLV S v = 0 ∨ STLV S v = 1 := by
  unfold STLV
  split
  · exact Or.inr rfl
  · exact h v h0 h1
theorem WG.move {S T : ZT} {d m p : Int} (h : WG S) (hM : M_move S d m p T) (d0 : 0 ≤ d) (d1 : d < S 0 0 5) (m0 : 0 ≤ m) (m1 : m < S 2 d 4) (p0 : 0 ≤ p) (p1 : p < S 2 d 4) (hne : m ≠ 0) (hp : S 4 d p = S 4 d m - 1) : WG T := by
  obtain ⟨⟨hF, h15⟩, m3, m14⟩ := hM
  obtain ⟨h, h13⟩ := h
  refine ⟨?_, by rw [hF 13 rfl (by decide)]; exact h13⟩
  have hst := fun v => STLV_01 h.2.2.2.2.2.2.1 (v := v)
  unfold WF TOK MOK UOK FOK LOK at *
  simp only [m3, m14, hF 0 rfl (by decide), hF 2 rfl (by decide), hF 4 rfl (by decide), hF 5 rfl (by decide), hF 6 rfl (by decide), hF 8 rfl (by decide), hF 9 rfl (by decide), hF 11 rfl (by decide), hF 12 rfl (by decide), hF 13 rfl (by decide), (h15 _).1, (h15 _).2]
  refine ⟨h.1, fun i i0 i1 => ?_, h.2.2.1, h.2.2.2.1, h.2.2.2.2.1, h.2.2.2.2.2.1, fun v v0 v1 => hst v v0 v1, h.2.2.2.2.2.2.2⟩
  have hi := h.2.1 i i0 i1
  by_cases e : i = d
  · subst e
    simp only [true_and]
    rw [if_neg (Ne.symm hne)]
    refine ⟨hi.1, fun k k0 k1 => ?_, hi.2.2⟩
    have hk := hi.2.1 k k0 k1
    by_cases em : k = m
    · subst em
      simp only [if_true]
      omega
    · rw [if_neg em]
      exact hk
  · simp only [e, false_and, if_false]
    exact hi
theorem WG.leaveOut {S T : ZT} {d m b : Int} (h : WG S) (hM : M_leaveOut S d m b T) (hb : b = 0 ∨ b = 1) : WG T := by
  obtain ⟨⟨hF, h15⟩, m5⟩ := hM
  obtain ⟨h, h13⟩ := h
  refine ⟨?_, by rw [hF 13 rfl (by decide)]; exact h13⟩
  unfold WF TOK MOK UOK FOK LOK at *
  simp only [m5, hF 0 rfl (by decide), hF 2 rfl (by decide), hF 3 rfl (by decide), hF 4 rfl (by decide), hF 6 rfl (by decide), hF 8 rfl (by decide), hF 9 rfl (by decide), hF 11 rfl (by decide), hF 12 rfl (by decide), hF 13 rfl (by decide), hF 14 rfl (by decide), (h15 _).1, (h15 _).2]
  refine ⟨h.1, fun i i0 i1 => ?_, h.2.2⟩
  have hi := h.2.1 i i0 i1
  refine ⟨hi.1, hi.2.1, fun k k0 k1 => ?_⟩
  split
  · exact hb
  · exact hi.2.2 k k0 k1
theorem WG.goTo {S T : ZT} {d m : Int} (h : WG S) (hM : M_goTo S d m T) (d1 : d < S 0 0 5) (m0 : 0 ≤ m) (m1 : m < S 2 d 4) : WG T :=
  ⟨h.1.goTo hM d1 m0 m1, by rw [hM.1.1 13 rfl (by decide)]; exact h.2⟩
theorem WG.add {S T : ZT} {v : Int} (h : WG S) (hM : M_add S v T) (v0 : -10000 ≤ v) (v1 : v ≤ 10000) (hl : ∀ d, 0 ≤ d → d < S 0 0 5 → S 4 d (S 2 d 5) = S 2 d 3) (hf : S 6 0 3 < 80) : WG T := by
  obtain ⟨⟨hF, h15⟩, m6, m9, m8, m14⟩ := hM
  obtain ⟨h, h13⟩ := h
  refine ⟨?_, by rw [hF 13 rfl (by decide)]; exact h13⟩
  have hst := fun v => STLV_01 h.2.2.2.2.2.2.1 (v := v)
  unfold WF TOK MOK UOK FOK LOK at *
  simp only [m6, m9, m14, hF 0 rfl (by decide), hF 2 rfl (by decide), hF 3 rfl (by decide), hF 4 rfl (by decide), hF 5 rfl (by decide), hF 11 rfl (by decide), hF 12 rfl (by decide), hF 13 rfl (by decide), (h15 _).1, (h15 _).2]
  refine ⟨h.1, h.2.1, h.2.2.1, by have := h.2.2.2.1; omega, fun k k0 k1 => ?_, h.2.2.2.2.2.1, fun v v0 v1 => hst v v0 v1, h.2.2.2.2.2.2.2⟩
  by_cases e : k = S 6 0 3
  · rw [if_pos e]
    refine ⟨fun d d0 d1 => ?_, v0, v1⟩
    rw [m8 d d0 d1, if_pos e]
    have := (h.2.1 d d0 d1).1
    exact ⟨by omega, by omega, hl d d0 d1⟩
  · rw [if_neg e]
    have hk := h.2.2.2.2.1 k k0 (by omega)
    refine ⟨fun d d0 d1 => ?_, hk.2⟩
    rw [m8 d d0 d1, if_neg e]
    exact hk.1 d d0 d1
theorem WG.drop {S T : ZT} {q : Int} (h : WG S) (hM : M_drop S q T) (q0 : 0 ≤ q) (q1 : q < S 6 0 3) : WG T := by
  obtain ⟨⟨hF, h15⟩, m6, m9, m8, m14⟩ := hM
  obtain ⟨h, h13⟩ := h
  refine ⟨?_, by rw [hF 13 rfl (by decide)]; exact h13⟩
  have hst := fun v => STLV_01 h.2.2.2.2.2.2.1 (v := v)
  unfold WF TOK MOK UOK FOK LOK at *
  simp only [m6, m9, m14, hF 0 rfl (by decide), hF 2 rfl (by decide), hF 3 rfl (by decide), hF 4 rfl (by decide), hF 5 rfl (by decide), hF 11 rfl (by decide), hF 12 rfl (by decide), hF 13 rfl (by decide), (h15 _).1, (h15 _).2]
  have hn := h.1
  refine ⟨h.1, h.2.1, h.2.2.1, by have := h.2.2.2.1; omega, fun k k0 k1 => ?_, h.2.2.2.2.2.1, fun v v0 v1 => hst v v0 v1, h.2.2.2.2.2.2.2⟩
  unfold gapF at *
  by_cases e : q ≤ k ∧ k < S 6 0 3 - 1
  · rw [if_pos e]
    have hk := h.2.2.2.2.1 (k + 1) (by omega) (by omega)
    refine ⟨fun d d0 d1 => ?_, hk.2⟩
    rw [m8 d d0 (by omega), if_pos e]
    exact hk.1 d d0 d1
  · rw [if_neg e]
    have hk := h.2.2.2.2.1 k k0 (by omega)
    refine ⟨fun d d0 d1 => ?_, hk.2⟩
    rw [m8 d d0 (by omega), if_neg e]
    exact hk.1 d d0 d1
theorem WG.bare {S T : ZT} {b : Int} (h : WG S) (hM : M_0 S 8 b T) (hb : b = 0 ∨ b = 1) : WG T := by
  obtain ⟨⟨hF, h15⟩, m0⟩ := hM
  obtain ⟨h, h13⟩ := h
  refine ⟨?_, by rw [hF 13 rfl (by decide)]; exact h13⟩
  unfold WF TOK MOK UOK FOK LOK at *
  simp only [m0, show ((5 : Int) = 8) = False by simp, show ((6 : Int) = 8) = False by simp, show ((7 : Int) = 8) = False by simp, if_false, if_true, hF 2 rfl (by decide), hF 3 rfl (by decide), hF 4 rfl (by decide), hF 5 rfl (by decide), hF 6 rfl (by decide), hF 8 rfl (by decide), hF 9 rfl (by decide), hF 11 rfl (by decide), hF 12 rfl (by decide), hF 13 rfl (by decide), hF 14 rfl (by decide), (h15 _).1, (h15 _).2]
  exact ⟨h.1, h.2.1, h.2.2.1, h.2.2.2.1, h.2.2.2.2.1, h.2.2.2.2.2.1, h.2.2.2.2.2.2.1, h.2.2.2.2.2.2.2.1, h.2.2.2.2.2.2.2.2.1, h.2.2.2.2.2.2.2.2.2.1, hb, h.2.2.2.2.2.2.2.2.2.2.2⟩
theorem WG.levels {S T : ZT} {L : Int} (h : WG S) (hM : M_0 S 6 L T) (hL : LOK S L) : WG T := by
  obtain ⟨⟨hF, h15⟩, m0⟩ := hM
  obtain ⟨h, h13⟩ := h
  refine ⟨?_, by rw [hF 13 rfl (by decide)]; exact h13⟩
  unfold WF TOK MOK UOK FOK LOK at *
  simp only [m0, show ((5 : Int) = 6) = False by simp, show ((8 : Int) = 6) = False by simp, show ((7 : Int) = 6) = False by simp, if_false, if_true, hF 2 rfl (by decide), hF 3 rfl (by decide), hF 4 rfl (by decide), hF 5 rfl (by decide), hF 6 rfl (by decide), hF 8 rfl (by decide), hF 9 rfl (by decide), hF 11 rfl (by decide), hF 12 rfl (by decide), hF 13 rfl (by decide), hF 14 rfl (by decide), (h15 _).1, (h15 _).2]
  exact ⟨h.1, h.2.1, h.2.2.1, h.2.2.2.1, h.2.2.2.2.1, h.2.2.2.2.2.1, h.2.2.2.2.2.2.1, h.2.2.2.2.2.2.2.1, hL, h.2.2.2.2.2.2.2.2.2⟩
theorem WG.keep {S T : ZT} (h : WG S) (hM : M_keep S T) (hv : S 11 0 3 < 6) : WG T := by
  obtain ⟨⟨hF, h15⟩, m11, m12, m13, m14⟩ := hM
  obtain ⟨h, h13⟩ := h
  have hc := CELLS_in h (S 0 0 6)
  have hf := h.f
  have h13' : ∀ v, 0 ≤ v → v < 6 → 0 ≤ T 13 0 v ∧ T 13 0 v ≤ 80 := fun v v0 v1 => by
    rw [m13]
    split
    · omega
    · exact h13 v v0 v1
  refine ⟨?_, h13'⟩
  unfold WF TOK MOK UOK FOK LOK at *
  simp only [m11, m12, m14, hF 0 rfl (by decide), hF 2 rfl (by decide), hF 3 rfl (by decide), hF 4 rfl (by decide), hF 5 rfl (by decide), hF 6 rfl (by decide), hF 8 rfl (by decide), hF 9 rfl (by decide), (h15 _).1, (h15 _).2]
  refine ⟨h.1, h.2.1, h.2.2.1, h.2.2.2.1, h.2.2.2.2.1, by have := h.2.2.2.2.2.1; omega, fun v v0 v1 => ?_, fun v v0 v1 => ?_, h.2.2.2.2.2.2.2.2⟩
  · split
    · exact Or.inl rfl
    · exact h.2.2.2.2.2.2.1 v v0 v1
  · refine ⟨?_, h13' v v0 (by omega)⟩
    by_cases e : v = S 11 0 3
    · rw [if_pos e]; exact h.2.2.2.2.2.2.2.2.1
    · rw [if_neg e]; exact (h.2.2.2.2.2.2.2.1 v v0 (by omega)).1
theorem WG.dropView {S T : ZT} {q : Int} (h : WG S) (hM : M_dropView S q T) (q0 : 0 ≤ q) (q1 : q < S 11 0 3) : WG T := by
  obtain ⟨⟨hF, h15⟩, m11, m12, m13, m14⟩ := hM
  obtain ⟨h, h13⟩ := h
  have hvv := h.v
  have h13' : ∀ v, 0 ≤ v → v < 6 → 0 ≤ T 13 0 v ∧ T 13 0 v ≤ 80 := fun v v0 v1 => by
    rw [m13]
    unfold gapF
    split
    · exact h13 (v + 1) (by omega) (by omega)
    · exact h13 v v0 v1
  refine ⟨?_, h13'⟩
  unfold WF TOK MOK UOK FOK LOK at *
  simp only [m11, m12, m14, hF 0 rfl (by decide), hF 2 rfl (by decide), hF 3 rfl (by decide), hF 4 rfl (by decide), hF 5 rfl (by decide), hF 6 rfl (by decide), hF 8 rfl (by decide), hF 9 rfl (by decide), (h15 _).1, (h15 _).2]
  refine ⟨h.1, h.2.1, h.2.2.1, h.2.2.2.1, h.2.2.2.2.1, by omega, fun v v0 v1 => ?_, fun v v0 v1 => ?_, h.2.2.2.2.2.2.2.2⟩
  · unfold gapF
    split
    · exact h.2.2.2.2.2.2.1 (v + 1) (by omega) (by omega)
    · exact h.2.2.2.2.2.2.1 v v0 v1
  · refine ⟨?_, h13' v v0 (by omega)⟩
    unfold gapF
    by_cases e : q ≤ v ∧ v < S 11 0 3 - 1
    · rw [if_pos e]; exact (h.2.2.2.2.2.2.2.1 (v + 1) (by omega) (by omega)).1
    · rw [if_neg e]; exact (h.2.2.2.2.2.2.2.1 v v0 (by omega)).1
theorem WG.refresh {S T : ZT} {q : Int} (h : WG S) (hM : M_refresh S q T) : WG T := by
  obtain ⟨⟨hF, h15⟩, m13, m14⟩ := hM
  obtain ⟨h, h13⟩ := h
  have hc := CELLS_in h (S 12 0 q)
  have hf := h.f
  have h13' : ∀ v, 0 ≤ v → v < 6 → 0 ≤ T 13 0 v ∧ T 13 0 v ≤ 80 := fun v v0 v1 => by
    rw [m13]
    split
    · omega
    · exact h13 v v0 v1
  have hvv := h.v
  refine ⟨?_, h13'⟩
  unfold WF TOK MOK UOK FOK LOK at *
  simp only [m14, hF 0 rfl (by decide), hF 2 rfl (by decide), hF 3 rfl (by decide), hF 4 rfl (by decide), hF 5 rfl (by decide), hF 6 rfl (by decide), hF 8 rfl (by decide), hF 9 rfl (by decide), hF 11 rfl (by decide), hF 12 rfl (by decide), (h15 _).1, (h15 _).2]
  refine ⟨h.1, h.2.1, h.2.2.1, h.2.2.2.1, h.2.2.2.2.1, h.2.2.2.2.2.1, fun v v0 v1 => ?_, fun v v0 v1 => ?_, h.2.2.2.2.2.2.2.2⟩
  · split
    · exact Or.inl rfl
    · exact h.2.2.2.2.2.2.1 v v0 v1
  · exact ⟨(h.2.2.2.2.2.2.2.1 v v0 v1).1, h13' v v0 (by omega)⟩
