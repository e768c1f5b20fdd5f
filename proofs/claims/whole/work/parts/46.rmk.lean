/-! what the model tells is kept: the class's new state by its places -/
theorem RMZ.sp {S T Z : ZT} (h : RMZ S Z) (hS : SP S T) : RMZ T Z := by
  unfold RMZ at *
  simp only [hS.1 0 rfl, hS.1 2 rfl, hS.1 3 rfl, hS.1 5 rfl, hS.1 6 rfl, hS.1 9 rfl, hS.1 11 rfl, hS.1 12 rfl, hS.1 13 rfl, hS.1 14 rfl, (hS.2 _).1, (hS.2 _).2]
  exact h
theorem RML.sp {cys : Nat → ClassId} {ad : Nat → Int → Nat} {S T : ZT} {L : List Nat} {g : Nat → va_E} (h : RML cys ad S L g) (hS : SP S T) : RML cys ad T L g := by
  unfold RML at *
  simp only [hS.1 0 rfl, hS.1 6 rfl, hS.1 8 rfl]
  exact h
/-- the leaves stay where facts, dimensions and leaves stay -/
theorem RML.kp {cys : Nat → ClassId} {ad : Nat → Int → Nat} {S T : ZT} {L : List Nat} {g : Nat → va_E} (h : RML cys ad S L g) (h5 : T 0 0 5 = S 0 0 5) (h6 : T 6 0 3 = S 6 0 3) (h8 : T 8 = S 8) : RML cys ad T L g := by
  unfold RML at *
  rw [h5, h6, h8]
  exact h
theorem RML.none {cys : Nat → ClassId} {ad : Nat → Int → Nat} {S T : ZT} {L : List Nat} {g : Nat → va_E} (h : RML cys ad S L g) (h6 : T 6 0 3 = 0) : RML cys ad T L g := by
  obtain ⟨h1, lf, h3, -⟩ := h
  exact ⟨h1, lf, h3, fun k k0 k1 => by omega⟩
theorem M_goTo.sp {S T : ZT} {d q : Int} (hM : M_goTo S d q T) : SP (zS S 2 d 5 q) T := by
  obtain ⟨⟨hF, h15⟩, h2⟩ := hM
  refine ⟨fun k hk => ?_, fun i => by rw [zS_k (by decide)]; exact h15 i⟩
  by_cases e : k = 2
  · subst e
    funext i j
    rw [h2, zS_w]
  · rw [zS_k e]; exact hF k hk (by simp [e])
theorem RMZ.goTo {S T Z : ZT} {d q : Int} (h : RMZ S Z) (hM : M_goTo S d q T) (d0 : 0 ≤ d) (d1 : d < 4) : RMZ T (zS (zS Z 24 0 0 0) 31 0 d q) := ((h.th 0).pt d0 d1 q).sp hM.sp
theorem RMZ.leaveOut {S T Z : ZT} {d q b : Int} (h : RMZ S Z) (hM : M_leaveOut S d q b T) : RMZ T (zS (zS Z 24 0 0 0) 30 d q b) := by
  have h0 := h.th 0
  obtain ⟨⟨hF, h15⟩, h5⟩ := hM
  generalize zS Z 24 0 0 0 = Y at h0
  unfold RMZ at *
  simp only [hF 0 rfl (by decide), hF 2 rfl (by decide), hF 3 rfl (by decide), hF 6 rfl (by decide), hF 9 rfl (by decide), hF 11 rfl (by decide), hF 12 rfl (by decide), hF 13 rfl (by decide), hF 14 rfl (by decide), (h15 _).1, (h15 _).2, h5,
    zS_k (show (24 : Nat) ≠ 30 by decide), zS_k (show (25 : Nat) ≠ 30 by decide), zS_k (show (26 : Nat) ≠ 30 by decide), zS_k (show (31 : Nat) ≠ 30 by decide), zS_k (show (32 : Nat) ≠ 30 by decide), zS_k (show (28 : Nat) ≠ 30 by decide), zS_k (show (34 : Nat) ≠ 30 by decide), zS_k (show (35 : Nat) ≠ 30 by decide), zS_k (show (36 : Nat) ≠ 30 by decide), zS_k (show (37 : Nat) ≠ 30 by decide), zS_k (show (38 : Nat) ≠ 30 by decide)]
  refine ⟨h0.1, h0.2.1, h0.2.2.1, fun i m i0 i1 m0 m1 => ?_, h0.2.2.2.2⟩
  rw [zS_w, h0.2.2.2.1 i m i0 i1 m0 m1]
theorem RMZ.bare {S T Z : ZT} {b : Int} (h : RMZ S Z) (hM : M_0 S 8 b T) : RMZ T (zS (zS Z 24 0 0 0) 24 0 13 b) := by
  have h0 := h.th 0
  obtain ⟨⟨hF, h15⟩, h5⟩ := hM
  generalize zS Z 24 0 0 0 = Y at h0
  unfold RMZ at *
  simp only [hF 2 rfl (by decide), hF 3 rfl (by decide), hF 5 rfl (by decide), hF 6 rfl (by decide), hF 9 rfl (by decide), hF 11 rfl (by decide), hF 12 rfl (by decide), hF 13 rfl (by decide), hF 14 rfl (by decide), (h15 _).1, (h15 _).2, h5, zS_v,
    zS_k (show (30 : Nat) ≠ 24 by decide), zS_k (show (25 : Nat) ≠ 24 by decide), zS_k (show (26 : Nat) ≠ 24 by decide), zS_k (show (31 : Nat) ≠ 24 by decide), zS_k (show (32 : Nat) ≠ 24 by decide), zS_k (show (28 : Nat) ≠ 24 by decide), zS_k (show (34 : Nat) ≠ 24 by decide), zS_k (show (35 : Nat) ≠ 24 by decide), zS_k (show (36 : Nat) ≠ 24 by decide), zS_k (show (37 : Nat) ≠ 24 by decide), zS_k (show (38 : Nat) ≠ 24 by decide),
    show ((1 : Int) = 13) = False by simp, show ((8 : Int) = 13) = False by simp, show ((11 : Int) = 13) = False by simp, show ((14 : Int) = 13) = False by simp, show ((5 : Int) = 8) = False by simp, show ((6 : Int) = 8) = False by simp, show ((7 : Int) = 8) = False by simp, if_false, if_true, true_and]
  exact ⟨⟨h0.1.1, h0.1.2.1, h0.1.2.2.1, h0.1.2.2.2.2⟩, h0.2⟩
