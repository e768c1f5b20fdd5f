/-! what a call leaves: the class's places and the model's -/
def HI (Z Y : ZT) : Prop := ∀ k : Nat, 24 ≤ k → Y k = Z k
def LO (Z Y : ZT) : Prop := ∀ k : Nat, k < 24 → Y k = Z k
theorem scr_hi {k : Nat} (h : 24 ≤ k) : scr k = false := by
  unfold scr
  simp only [Bool.or_eq_false_iff, beq_eq_false_iff_ne]
  omega
theorem HI.rf (Z : ZT) : HI Z Z := fun _ _ => rfl
theorem HI.sp {Z Y : ZT} (h : SP Z Y) : HI Z Y := fun k hk => h.1 k (scr_hi hk)
theorem HI.tr {Z Y W : ZT} (h : HI Z Y) (h2 : HI Y W) : HI Z W := fun k hk => (h2 k hk).trans (h k hk)
theorem HI.fr {ks : List Nat} {Z Y : ZT} (h : FRM ks Z Y) (hk : ∀ k ∈ ks, k < 24) : HI Z Y := fun k h1 => h.1 k (scr_hi h1) (fun m => by have := hk k m; omega)
theorem LO.m (Z : ZT) (i j v : Int) {k : Nat} (hk : 24 ≤ k) : LO Z (zS Z k i j v) := fun k' h => zS_k (by omega)
theorem LO.tr {Z Y W : ZT} (h : LO Z Y) (h2 : LO Y W) : LO Z W := fun k hk => (h2 k hk).trans (h k hk)
theorem RMZ.hi {S Z Y : ZT} (h : RMZ S Z) (hk : HI Z Y) : RMZ S Y := by
  unfold RMZ at *
  rw [hk 24 (by decide), hk 25 (by decide), hk 26 (by decide), hk 28 (by decide), hk 30 (by decide), hk 31 (by decide), hk 32 (by decide), hk 34 (by decide), hk 35 (by decide), hk 36 (by decide), hk 37 (by decide), hk 38 (by decide)]
  exact h
theorem RMZ.lo {S T Z : ZT} (h : RMZ S Z) (hk : LO S T) : RMZ T Z := by
  unfold RMZ at *
  rw [hk 0 (by decide), hk 2 (by decide), hk 3 (by decide), hk 5 (by decide), hk 6 (by decide), hk 9 (by decide), hk 11 (by decide), hk 12 (by decide), hk 13 (by decide), hk 14 (by decide), hk 15 (by decide)]
  exact h
theorem LO.sp {S T : ZT} (hk : LO S T) : SP S (fun k => if k < 24 then T k else S k) := by
  refine ⟨fun k _ => ?_, fun i => ?_⟩
  · show (if k < 24 then T k else S k) = S k
    by_cases e : k < 24
    · rw [if_pos e]; exact hk k e
    · rw [if_neg e]
  · show T 15 i 4 = S 15 i 4 ∧ T 15 i 5 = S 15 i 5
    rw [hk 15 (by decide)]
    exact ⟨rfl, rfl⟩
theorem WF.lo {S T : ZT} (h : WF S) (hk : LO S T) : WF T := by
  have e0 := hk 0 (by decide)
  have e2 := hk 2 (by decide)
  have e3 := hk 3 (by decide)
  have e4 := hk 4 (by decide)
  have e5 := hk 5 (by decide)
  have e6 := hk 6 (by decide)
  have e8 := hk 8 (by decide)
  have e9 := hk 9 (by decide)
  have e11 := hk 11 (by decide)
  have e12 := hk 12 (by decide)
  have e13 := hk 13 (by decide)
  have e14 := hk 14 (by decide)
  have e15 := hk 15 (by decide)
  unfold WF LOK TOK UOK FOK MOK at *
  rw [e0, e2, e3, e4, e5, e6, e8, e9, e11, e12, e13, e14, e15]
  exact h
theorem WG.lo {S T : ZT} (h : WG S) (hk : LO S T) : WG T := ⟨h.1.lo hk, by rw [hk 13 (by decide)]; exact h.2⟩
/-- the leaves stay known -/
def KEEPL (Z Y : ZT) : Prop := ∀ (cys : Nat → ClassId) (ad : Nat → Int → Nat) (L : List Nat) (g : Nat → va_E), RML cys ad Z L g → RML cys ad Y L g
theorem KEEPL.of {Z Y : ZT} (h5 : Y 0 0 5 = Z 0 0 5) (h6 : Y 6 0 3 = Z 6 0 3) (h8 : Y 8 = Z 8) : KEEPL Z Y := fun _ _ _ _ h => RML.kp h h5 h6 h8
theorem KEEPL.lo {Z Y : ZT} (h : LO Z Y) : KEEPL Z Y := KEEPL.of (by rw [h 0 (by decide)]) (by rw [h 6 (by decide)]) (h 8 (by decide))
theorem KEEPL.tr {Z Y W : ZT} (h : KEEPL Z Y) (h2 : KEEPL Y W) : KEEPL Z W := fun cys ad L g q => h2 cys ad L g (h cys ad L g q)
theorem KEEPL.sp {Z Y : ZT} (h : SP Z Y) : KEEPL Z Y := fun _ _ _ _ q => RML.sp q h
/-- what stands between two calls -/
def GOOD (Z : ZT) : Prop := WG Z ∧ RMZ Z Z
theorem GOOD.of {Z1 Z2 : ZT} (h : WG Z1) (hR : RMZ Z1 Z2) (hk : LO Z1 Z2) : GOOD Z2 := ⟨h.lo hk, hR.lo hk⟩
/-- a call that only asks: t is the number that is thrown -/
theorem ag_ask {Z Z1 Z2 : ZT} {t : Int} (hG : GOOD Z) (hS : SP Z Z1) (hM : MTH t Z1 Z2) : GOOD Z2 ∧ KEEPL Z Z2 ∧ Z2 24 0 0 = t := by
  have hM : Z2 = zS Z1 24 0 0 t := hM
  subst hM
  have h1 : WG Z1 := hG.1.sp hS
  have h2 : RMZ Z1 Z1 := (hG.2.hi (HI.sp hS)).sp hS
  have hl : LO Z1 (zS Z1 24 0 0 t) := LO.m Z1 0 0 t (by decide)
  exact ⟨GOOD.of h1 (h2.th t) hl, (KEEPL.sp hS).tr (KEEPL.lo hl), zS_s⟩
theorem WG_drF (d : Int) : ∀ (n : Nat) (S : ZT), WG S → 0 ≤ d → d < S 0 0 5 → WG (drF d n S)
  | 0, _, h, _, _ => h
  | n + 1, S, h, d0, d1 => by
    have eD : drF d (n + 1) S = if (kids S d).length = 0 then S else drF d n (zS S 2 d 5 ((kids S d).getD (rkF (lsum S d) (kids S d).length 0).toNat 0)) := rfl
    rw [eD]
    by_cases e : (kids S d).length = 0
    · rw [if_pos e]; exact h
    · rw [if_neg e]
      have hk := kids_ok h.1 d0 d1
      have hr := rkF_in (lsum S d) (kids S d).length 0 (by omega) (by omega)
      have hm := hk.2 _ (getD_mem (W := kids S d) (j := rkF (lsum S d) (kids S d).length 0) hr.1 hr.2.1)
      refine WG_drF d n _ (h.goTo (M_goTo.z S d _) d1 hm.1 hm.2) d0 ?_
      rw [zS_k (by decide)]; exact d1
