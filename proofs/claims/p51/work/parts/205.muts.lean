/-! what each call does to the state: S before, T behind -/
def FRM (ks : List Nat) (S T : ZT) : Prop := (∀ k : Nat, scr k = false → k ∉ ks → T k = S k) ∧ ∀ i, T 15 i 4 = S 15 i 4 ∧ T 15 i 5 = S 15 i 5
def STLV (S : ZT) (v : Int) : Int := if 0 ≤ v ∧ v < S 11 0 3 then 1 else S 14 0 v
def M_addDimension (S : ZT) (lv : Int) (T : ZT) : Prop := FRM [0, 2, 3, 5, 6, 11] S T ∧ T 0 0 5 = S 0 0 5 + 1 ∧ T 0 0 6 = S 0 0 6 ∧ T 0 0 7 = 0 ∧ T 0 0 8 = S 0 0 8 ∧
  (∀ d j, T 2 d j = if d = S 0 0 5 ∧ j = 3 then lv else if d = S 0 0 5 ∧ j = 4 then 1 else S 2 d j) ∧ (∀ d j, T 3 d j = if d = S 0 0 5 ∧ j = 0 then -1 else S 3 d j) ∧ (∀ d j, 0 ≤ d → d ≤ S 0 0 5 → 0 ≤ j → j < 24 → T 5 d j = 0) ∧ T 6 0 3 = 0 ∧ T 11 0 3 = 0
def M_addMember (S : ZT) (d p : Int) (T : ZT) : Prop := FRM [2, 3, 4] S T ∧ (∀ i j, T 2 i j = if i = d ∧ j = 4 then S 2 d 4 + 1 else S 2 i j) ∧ (∀ i j, T 3 i j = if i = d ∧ j = S 2 d 4 then p else S 3 i j) ∧ (∀ i j, T 4 i j = if i = d ∧ j = S 2 d 4 then S 4 d p + 1 else S 4 i j)
def M_move (S : ZT) (d m p : Int) (T : ZT) : Prop := FRM [3, 14] S T ∧ (∀ i j, T 3 i j = if i = d ∧ j = m then p else S 3 i j) ∧ ∀ v, T 14 0 v = STLV S v
def M_leaveOut (S : ZT) (d m b : Int) (T : ZT) : Prop := FRM [5] S T ∧ ∀ i j, T 5 i j = if i = d ∧ j = m then b else S 5 i j
def M_goTo (S : ZT) (d m : Int) (T : ZT) : Prop := FRM [2] S T ∧ ∀ i j, T 2 i j = if i = d ∧ j = 5 then m else S 2 i j
def M_add (S : ZT) (v : Int) (T : ZT) : Prop := FRM [6, 8, 9, 14] S T ∧ T 6 0 3 = S 6 0 3 + 1 ∧ (∀ j, T 9 0 j = if j = S 6 0 3 then v else S 9 0 j) ∧ (∀ d, 0 ≤ d → d < S 0 0 5 → ∀ j, T 8 d j = if j = S 6 0 3 then S 2 d 5 else S 8 d j) ∧ ∀ v, T 14 0 v = STLV S v
def M_drop (S : ZT) (q : Int) (T : ZT) : Prop := FRM [6, 8, 9, 14] S T ∧ T 6 0 3 = S 6 0 3 - 1 ∧ (∀ j, T 9 0 j = gapF q (S 6 0 3 - 1) (S 9 0) j) ∧ (∀ d, 0 ≤ d → d < 4 → ∀ j, T 8 d j = gapF q (S 6 0 3 - 1) (S 8 d) j) ∧ ∀ v, T 14 0 v = STLV S v
def M_setAxes (S : ZT) (r rl w wl : Int) (T : ZT) : Prop := (∀ k : Nat, scr k = false → k ≠ 0 → T k = S k) ∧ T 0 0 5 = S 0 0 5 ∧ T 0 0 6 = S 0 0 6 ∧ T 0 0 7 = 1 ∧ T 0 0 8 = S 0 0 8 ∧ T 15 0 4 = r ∧ T 15 0 5 = rl ∧ T 15 1 4 = w ∧ T 15 1 5 = wl
def M_0 (S : ZT) (f v : Int) (T : ZT) : Prop := FRM [0] S T ∧ ∀ j, T 0 0 j = if j = f then v else S 0 0 j
def M_keep (S : ZT) (T : ZT) : Prop := FRM [11, 12, 13, 14] S T ∧ T 11 0 3 = S 11 0 3 + 1 ∧ (∀ j, T 12 0 j = if j = S 11 0 3 then S 0 0 6 else S 12 0 j) ∧ (∀ j, T 13 0 j = if j = S 11 0 3 then CELLS S (S 0 0 6) else S 13 0 j) ∧ (∀ j, T 14 0 j = if j = S 11 0 3 then 0 else S 14 0 j)
def M_dropView (S : ZT) (v : Int) (T : ZT) : Prop := FRM [11, 12, 13, 14] S T ∧ T 11 0 3 = S 11 0 3 - 1 ∧ (∀ j, T 12 0 j = gapF v (S 11 0 3 - 1) (S 12 0) j) ∧ (∀ j, T 13 0 j = gapF v (S 11 0 3 - 1) (S 13 0) j) ∧ (∀ j, T 14 0 j = gapF v (S 11 0 3 - 1) (S 14 0) j)
def M_refresh (S : ZT) (v : Int) (T : ZT) : Prop := FRM [13, 14] S T ∧ (∀ j, T 13 0 j = if j = v then CELLS S (S 12 0 v) else S 13 0 j) ∧ (∀ j, T 14 0 j = if j = v then 0 else S 14 0 j)
theorem FRM.of {S Z : ZT} (h : SP S Z) (ks : List Nat) : FRM ks S Z := ⟨fun k hk _ => h.1 k hk, h.2⟩
theorem FRM.st {S Z : ZT} {ks : List Nat} (h : FRM ks S Z) {k : Nat} (hk : k ∈ ks) (h15 : k ≠ 15) (i j v : Int) : FRM ks S (zS Z k i j v) :=
  ⟨fun k' hk' hn => by rw [zS_k (by rintro rfl; exact hn hk)]; exact h.1 k' hk' hn, fun i' => by rw [zS_k (Ne.symm h15)]; exact h.2 i'⟩
theorem FRM.tr {S Z Y : ZT} {ks : List Nat} (h : FRM ks S Z) (h2 : ∀ k : Nat, scr k = false → k ∉ ks → Y k = Z k) (h3 : ∀ i, Y 15 i 4 = Z 15 i 4 ∧ Y 15 i 5 = Z 15 i 5) : FRM ks S Y :=
  ⟨fun k hk hn => (h2 k hk hn).trans (h.1 k hk hn), fun i => ⟨(h3 i).1.trans (h.2 i).1, (h3 i).2.trans (h.2 i).2⟩⟩
theorem zS_w {Z : ZT} {k : Nat} {i i' j j' v : Int} : zS Z k i j v k i' j' = if i' = i ∧ j' = j then v else Z k i' j' := by
  by_cases e : i' = i
  · subst e
    rw [zS_v]
    by_cases e2 : j' = j
    · rw [if_pos e2, if_pos ⟨rfl, e2⟩]
    · rw [if_neg e2, if_neg (fun q => e2 q.2)]
  · rw [zS_o (fun q => e q.2), if_neg (fun q => e q.1)]
