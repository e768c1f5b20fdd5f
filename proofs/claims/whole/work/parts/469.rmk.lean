/-! what the model tells is kept: drill, the advice -/
theorem drF_k (d : Int) : ∀ (n : Nat) (S : ZT), (∀ k : Nat, k ≠ 2 → drF d n S k = S k) ∧ (∀ i j, ¬ (i = d ∧ j = 5) → drF d n S 2 i j = S 2 i j)
  | 0, _ => ⟨fun _ _ => rfl, fun _ _ _ => rfl⟩
  | n + 1, S => by
    have eD : drF d (n + 1) S = if (kids S d).length = 0 then S else drF d n (zS S 2 d 5 ((kids S d).getD (rkF (lsum S d) (kids S d).length 0).toNat 0)) := rfl
    rw [eD]
    by_cases e : (kids S d).length = 0
    · rw [if_pos e]; exact ⟨fun _ _ => rfl, fun _ _ _ => rfl⟩
    · rw [if_neg e]
      have ih := drF_k d n (zS S 2 d 5 ((kids S d).getD (rkF (lsum S d) (kids S d).length 0).toNat 0))
      exact ⟨fun k hk => by rw [ih.1 k hk, zS_k hk], fun i j hne => by rw [ih.2 i j hne, zS_w, if_neg hne]⟩
theorem drF_goTo (d : Int) (n : Nat) (S : ZT) : M_goTo S d (drF d n S 2 d 5) (drF d n S) := by
  have h := drF_k d n S
  refine ⟨⟨fun k _ hk => h.1 k (fun e => hk (by simp [e])), fun i => by rw [h.1 15 (by decide)]; exact ⟨rfl, rfl⟩⟩, fun i j => ?_⟩
  by_cases e : i = d ∧ j = 5
  · rw [if_pos e, e.1, e.2]
  · rw [if_neg e]; exact h.2 i j e
theorem RMZ.advise {S T Z Y : ZT} (h : RMZ S Z) (hW : WF S) (hS : SP (zS S 0 0 6 (adF S 256).2) T) (hu : ∀ k' i', ¬ (k' = 32 ∧ i' = 0) → Y k' i' = zS Z 24 0 0 0 k' i') (h32 : ∀ d, Y 32 0 d = if 0 ≤ d ∧ d < S 0 0 5 then dg (S 0 0 5) (adM S 256).2 d else Z 32 0 d) : RMZ T Y := by
  refine RMZ.sp ?_ hS
  have h0 := h.th 0
  have hn := hW.n
  have ha := (ADV hW).2
  have hM := adM_in hW 256 (by decide)
  have hk : ∀ k : Nat, k ≠ 32 → Y k = zS Z 24 0 0 0 k := fun k a => funext fun i => hu k i (fun z => a z.1)
  have hz : ∀ d, S 0 0 5 ≤ d → 0 ≤ d → d < 4 → Z 32 0 d = 0 := fun d a d0 b => by
    have h1 := (h.d d0 b).2.2.2
    have h2 := hW.lv.2.2 d d0 b
    have h3 := (hW.2.2.1 d a b).1
    have h4 := lvl_in (S 0 0 6) d
    omega
  generalize zS Z 24 0 0 0 = Y0 at h0 hk
  unfold RMZ at *
  simp only [zS_k (show (2 : Nat) ≠ 0 by decide), zS_k (show (3 : Nat) ≠ 0 by decide), zS_k (show (5 : Nat) ≠ 0 by decide), zS_k (show (6 : Nat) ≠ 0 by decide), zS_k (show (9 : Nat) ≠ 0 by decide), zS_k (show (11 : Nat) ≠ 0 by decide), zS_k (show (12 : Nat) ≠ 0 by decide), zS_k (show (13 : Nat) ≠ 0 by decide), zS_k (show (14 : Nat) ≠ 0 by decide), zS_k (show (15 : Nat) ≠ 0 by decide), zS_v, show ((5 : Int) = 6) = False by simp, show ((7 : Int) = 6) = False by simp, show ((8 : Int) = 6) = False by simp, if_false, if_true, hk 24 (by decide), hk 25 (by decide), hk 26 (by decide), hk 28 (by decide), hk 31 (by decide), hk 30 (by decide), hk 34 (by decide), hk 35 (by decide), hk 36 (by decide), hk 37 (by decide), hk 38 (by decide), h32]
  refine ⟨h0.1, fun i i0 i1 => ?_, h0.2.2⟩
  have := h0.2.1 i i0 i1
  refine ⟨this.1, this.2.1, this.2.2.1, ?_⟩
  rw [ha]
  by_cases e : i < S 0 0 5
  · rw [if_pos ⟨i0, e⟩, dg_lvl i0 e hn.2 hM.2.2.1]
  · rw [if_neg (fun z => e z.2), lvl_hi hn.1 (by omega) i1, hz i (by omega) i0 i1]
