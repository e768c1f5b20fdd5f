/-! ranks, shares, levels changed -/
def rkP (s : Int → Int) (n : Nat) (q r : Int) : Prop := (0 ≤ r ∧ r < n ∧ ahd s r n = q ∧ ∀ j, 0 ≤ j → j < r → ahd s j n ≠ q) ∨ (r = -1 ∧ ∀ j : Int, 0 ≤ j → j < n → ahd s j n ≠ q)
theorem rkP_u {s : Int → Int} {n : Nat} {q r r' : Int} (h : rkP s n q r) (h' : rkP s n q r') : r = r' := by
  rcases h with h | h
  · rcases h' with h' | h'
    · rcases Int.lt_trichotomy r r' with c | c | c
      · exact absurd h.2.2.1 (h'.2.2.2 r h.1 c)
      · exact c
      · exact absurd h'.2.2.1 (h.2.2.2 r' h'.1 c)
    · exact absurd h.2.2.1 (h'.2 r h.1 h.2.1)
  · rcases h' with h' | h'
    · exact absurd h'.2.2.1 (h.2 r' h'.1 h'.2.1)
    · rw [h.1, h'.1]
noncomputable def rkF (s : Int → Int) (n : Nat) (q : Int) : Int := Classical.epsilon (rkP s n q)
theorem rk_eq {s : Int → Int} {n : Nat} {q r : Int} (h : rkP s n q r) : r = rkF s n q := rkP_u h (Classical.epsilon_spec ⟨r, h⟩)
theorem rk_of {s t : Int → Int} {n : Nat} {q r : Int} (h : ∀ j : Int, 0 ≤ j → j < n → t j = s j) (hr : rkP t n q r) : rkP s n q r := by
  rcases hr with w | w
  · refine Or.inl ⟨w.1, w.2.1, ?_, fun j j0 j1 => ?_⟩
    · rw [← ahd_congr h w.1 w.2.1]; exact w.2.2.1
    · rw [← ahd_congr h j0 (by omega)]; exact w.2.2.2 j j0 j1
  · refine Or.inr ⟨w.1, fun j j0 j1 => ?_⟩
    rw [← ahd_congr h j0 j1]; exact w.2 j j0 j1
theorem rk_Z {Z : ZT} {W : List Int} {s : Int → Int} {q r : Int} (hL : LST Z 3 W) (h : ∀ j, 0 ≤ j → j < 24 → Z 21 0 j = s j) (h24 : (W.length : Int) ≤ 24)
    (hr : (0 ≤ r ∧ r < Z 16 3 1 ∧ ahd (Z 21 0) r (Z 16 3 1).toNat = q ∧ ∀ j, 0 ≤ j → j < r → ahd (Z 21 0) j (Z 16 3 1).toNat ≠ q) ∨ (r = -1 ∧ ∀ j, 0 ≤ j → j < Z 16 3 1 → ahd (Z 21 0) j (Z 16 3 1).toNat ≠ q)) : rkP s W.length q r := by
  rw [hL.1, Int.toNat_natCast] at hr
  exact rk_of (fun j j0 j1 => h j j0 (by omega)) hr
theorem sumTo_le {f h : Int → Int} {n : Nat} (e : ∀ k : Int, 0 ≤ k → k < n → f k ≤ h k) : sumTo f n ≤ sumTo h n := by
  induction n with
  | zero => exact Int.le_refl _
  | succ n ih =>
    show sumTo f n + f n ≤ sumTo h n + h n
    have := ih (fun k h0 h1 => e k h0 (by omega))
    have := e n (by omega) (by omega)
    omega
theorem sumTo_lt {f h : Int → Int} {n : Nat} (e : ∀ k : Int, 0 ≤ k → k < n → f k ≤ h k) {c : Int} (c0 : 0 ≤ c) (c1 : c < n) (ec : f c < h c) : sumTo f n < sumTo h n := by
  induction n with
  | zero => omega
  | succ n ih =>
    show sumTo f n + f n < sumTo h n + h n
    have a := e n (by omega) (by omega)
    by_cases q : c = n
    · subst q
      have := sumTo_le (f := f) (h := h) (n := n) (fun k h0 h1 => e k h0 (by omega))
      omega
    · have := ih (fun k h0 h1 => e k h0 (by omega)) (by omega)
      omega
theorem iv_le {p q : Prop} (h : p → q) : iv p ≤ iv q := by
  by_cases e : p
  · rw [iv_t e, iv_t (h e)]; exact Int.le_refl _
  · rw [iv_f e]
    rcases iv_01 q with z | z <;> omega
theorem ahd_lt {s : Int → Int} {n : Nat} {c c' : Int} (c0 : 0 ≤ c') (c1 : c' < n) (h : s c < s c' ∨ (s c' = s c ∧ c' < c)) : ahd s c' n < ahd s c n := by
  unfold ahd
  refine sumTo_lt (fun k h0 h1 => iv_le (fun q => ?_)) c0 c1 ?_
  · rcases q with q | q <;> rcases h with h | h
    · exact Or.inl (by omega)
    · exact Or.inl (by omega)
    · exact Or.inl (by omega)
    · exact Or.inr (by omega)
  · show iv _ < iv _
    rw [iv_f (by omega), iv_t h]
    omega
theorem ahd_ne {s : Int → Int} {n : Nat} {c c' : Int} (c0 : 0 ≤ c) (c1 : c < n) (d0 : 0 ≤ c') (d1 : c' < n) (h : c ≠ c') : ahd s c n ≠ ahd s c' n := by
  rcases Int.lt_trichotomy (s c) (s c') with e | e | e
  · have := ahd_lt (s := s) (c := c) d0 d1 (Or.inl e); omega
  · rcases Int.lt_or_gt_of_ne h with f | f
    · have := ahd_lt (s := s) (c := c') c0 c1 (Or.inr ⟨e, f⟩); omega
    · have := ahd_lt (s := s) (c := c) d0 d1 (Or.inr ⟨e.symm, f⟩); omega
  · have := ahd_lt (s := s) (c := c') c0 c1 (Or.inl e); omega
theorem sumTo_1 (n : Nat) : sumTo (fun _ => 1) n = n := by
  induction n with
  | zero => rfl
  | succ n ih =>
    show sumTo _ n + 1 = _
    rw [ih]; omega
theorem ahd_top {s : Int → Int} {n : Nat} {c : Int} (c0 : 0 ≤ c) (c1 : c < n) : ahd s c n < n := by
  have : ahd s c n < sumTo (fun _ => 1) n := by
    unfold ahd
    refine sumTo_lt (fun k _ _ => ?_) c0 c1 ?_
    · rcases iv_01 (s c < s k ∨ (s k = s c ∧ k < c)) with z | z <;> omega
    · show iv _ < 1
      rw [iv_f (by omega)]; omega
  rw [sumTo_1] at this
  exact this
def dnF (q x : Int) : Int := if x < q then x else x - 1
theorem rk_ex (s : Int → Int) (n : Nat) (q : Int) (h0 : 0 ≤ q) (h1 : q < n) : ∃ c : Int, 0 ≤ c ∧ c < n ∧ ahd s c n = q := by
  refine Classical.byContradiction fun hno => ?_
  have hne : ∀ c : Int, 0 ≤ c → c < n → ahd s c n ≠ q := fun c c0 c1 e => hno ⟨c, c0, c1, e⟩
  have hnd : ((List.range n).map (fun c : Nat => dnF q (ahd s c n))).Nodup := by
    unfold List.Nodup
    rw [List.pairwise_map]
    refine List.Pairwise.imp_of_mem ?_ (List.pairwise_lt_range (n := n))
    intro a b ha hb hab
    have ha := List.mem_range.mp ha
    have hb := List.mem_range.mp hb
    have e := ahd_ne (s := s) (n := n) (c := a) (c' := b) (by omega) (by omega) (by omega) (by omega) (by omega)
    have ea := hne a (by omega) (by omega)
    have eb := hne b (by omega) (by omega)
    revert e ea eb
    generalize ahd s (a : Int) n = x
    generalize ahd s (b : Int) n = y
    intro e ea eb
    unfold dnF
    split <;> split <;> omega
  have := nd_len (n - 1) _ hnd (fun x hx => by
    obtain ⟨a, ha, rfl⟩ := List.mem_map.mp hx
    have ha := List.mem_range.mp ha
    have e1 := ahd_bd s a n
    have e2 := ahd_top (s := s) (n := n) (c := a) (by omega) (by omega)
    have ea := hne a (by omega) (by omega)
    revert e1 e2 ea
    generalize ahd s (a : Int) n = y
    intro e1 e2 ea
    unfold dnF
    split <;> omega)
  rw [List.length_map, List.length_range] at this
  omega
theorem rkF_in (s : Int → Int) (n : Nat) (q : Int) (h0 : 0 ≤ q) (h1 : q < n) : 0 ≤ rkF s n q ∧ rkF s n q < n ∧ ahd s (rkF s n q) n = q := by
  obtain ⟨c, c0, c1, c2⟩ := rk_ex s n q h0 h1
  have : rkP s n q c := Or.inl ⟨c0, c1, c2, fun j j0 j1 e => ahd_ne (s := s) (n := n) j0 (by omega) c0 c1 (by omega) (by rw [e, c2])⟩
  rw [← rk_eq this]
  exact ⟨c0, c1, c2⟩
theorem rkF_no (s : Int → Int) (n : Nat) (q : Int) (h1 : n ≤ q) : rkF s n q = -1 := by
  have : rkP s n q (-1) := Or.inr ⟨rfl, fun j j0 j1 => by have := ahd_top (s := s) j0 j1; omega⟩
  exact (rk_eq this).symm
noncomputable def srF (s : Int → Int) (n : Nat) (q : Int) : Int := if rkF s n q = -1 then 0 else s (rkF s n q)
noncomputable def tgF (s : Int → Int) (n : Nat) : Nat → Int
  | 0 => 0
  | t + 1 => tgF s n t + srF s n t
theorem tgF_s {s : Int → Int} {n : Nat} {a : Int} (h : 0 ≤ a) : tgF s n (a + 1).toNat = tgF s n a.toNat + srF s n a := by
  rw [show (a + 1).toNat = a.toNat + 1 by omega]
  show tgF s n a.toNat + srF s n (a.toNat : Int) = _
  rw [Int.toNat_of_nonneg h]
def WR (x : Int) : Int := (iI x).toInt
theorem WR_in (x : Int) : inR (WR x) := inR_of _
theorem iI_WR (x : Int) : iI (WR x) = iI x := iI_of _
def fwP (s : Int → Int) (n : Nat) (E r : Int) : Prop := (0 ≤ r ∧ r ≤ n ∧ E ≤ WR (tgF s n r.toNat * 1000) ∧ ∀ t, 0 ≤ t → t < r → WR (tgF s n t.toNat * 1000) < E) ∨ (r = -1 ∧ ∀ t : Int, 0 ≤ t → t ≤ n → WR (tgF s n t.toNat * 1000) < E)
theorem fwP_u {s : Int → Int} {n : Nat} {E r r' : Int} (h : fwP s n E r) (h' : fwP s n E r') : r = r' := by
  rcases h with h | h
  · rcases h' with h' | h'
    · rcases Int.lt_trichotomy r r' with c | c | c
      · have := h'.2.2.2 r h.1 c; omega
      · exact c
      · have := h.2.2.2 r' h'.1 c; omega
    · have := h'.2 r h.1 h.2.1; omega
  · rcases h' with h' | h'
    · have := h.2 r' h'.1 h'.2.1; omega
    · rw [h.1, h'.1]
theorem iI_div {a b : Int} (ha : inR a) (hb : inR b) (hn : a ≠ -2147483648) : iI a / iI b = iI (a.tdiv b) := by
  rw [← iI_of (iI a / iI b), Int32.toInt_div_of_ne_left _ _ (fun h => hn (by
    have := congrArg Int32.toInt h
    rw [iI_toInt ha] at this
    exact this)), iI_toInt ha, iI_toInt hb]
def setL (L d v : Int) : Int := L + (v - lvl L d) * 4 ^ (3 - d).toNat
theorem shl_set {x d : Int} (h0 : -3 ≤ x) (h1 : x ≤ 3) (d0 : 0 ≤ d) (d1 : d < 4) : iI x <<< (iI ((3 - d) * 2) &&& 31) = iI (x * 4 ^ (3 - d).toNat) := by
  have key : ∀ (x : Fin 7) (d : Fin 4), iI ((x.val : Int) - 3) <<< (iI ((3 - (d.val : Int)) * 2) &&& 31) = iI (((x.val : Int) - 3) * 4 ^ (3 - (d.val : Int)).toNat) := by decide +kernel
  have := key ⟨(x + 3).toNat, by omega⟩ ⟨d.toNat, by omega⟩
  simp only [Int.toNat_of_nonneg d0, Int.toNat_of_nonneg (show 0 ≤ x + 3 by omega), Int.add_sub_cancel] at this
  exact this
theorem setL_ok {L d v : Int} (h0 : 0 ≤ L) (h1 : L < 256) (d0 : 0 ≤ d) (d1 : d < 4) (v0 : 0 ≤ v) (v1 : v < 4) : (0 ≤ setL L d v ∧ setL L d v < 256) ∧ ∀ e, 0 ≤ e → e < 4 → lvl (setL L d v) e = if e = d then v else lvl L e := by
  have hd : d = 0 ∨ d = 1 ∨ d = 2 ∨ d = 3 := by omega
  have p0 : (4 : Int) ^ (3 - 0 : Int).toNat = 64 := by decide
  have p1 : (4 : Int) ^ (3 - 1 : Int).toNat = 16 := by decide
  have p2 : (4 : Int) ^ (3 - 2 : Int).toNat = 4 := by decide
  have p3 : (4 : Int) ^ (3 - 3 : Int).toNat = 1 := by decide
  unfold setL lvl
  rcases hd with rfl | rfl | rfl | rfl
  · rw [p0]; refine ⟨by simp; omega, fun e e0 e1 => ?_⟩
    rcases (by omega : e = 0 ∨ e = 1 ∨ e = 2 ∨ e = 3) with rfl | rfl | rfl | rfl <;> simp <;> omega
  · rw [p1]; refine ⟨by simp; omega, fun e e0 e1 => ?_⟩
    rcases (by omega : e = 0 ∨ e = 1 ∨ e = 2 ∨ e = 3) with rfl | rfl | rfl | rfl <;> simp <;> omega
  · rw [p2]; refine ⟨by simp; omega, fun e e0 e1 => ?_⟩
    rcases (by omega : e = 0 ∨ e = 1 ∨ e = 2 ∨ e = 3) with rfl | rfl | rfl | rfl <;> simp <;> omega
  · rw [p3]; refine ⟨by simp; omega, fun e e0 e1 => ?_⟩
    rcases (by omega : e = 0 ∨ e = 1 ∨ e = 2 ∨ e = 3) with rfl | rfl | rfl | rfl <;> simp <;> omega
/-! well formed stays well formed: what is no state, and the point -/
theorem WF.sp {S Z : ZT} (h : WF S) (hS : SP S Z) : WF Z := by
  unfold WF TOK MOK UOK FOK LOK at *
  simp only [hS.1 0 rfl, hS.1 2 rfl, hS.1 3 rfl, hS.1 4 rfl, hS.1 5 rfl, hS.1 6 rfl, hS.1 8 rfl, hS.1 9 rfl, hS.1 11 rfl, hS.1 12 rfl, hS.1 13 rfl, hS.1 14 rfl, (hS.2 _).1, (hS.2 _).2]
  exact h
theorem WF.goTo {S T : ZT} {d m : Int} (h : WF S) (hM : M_goTo S d m T) (d1 : d < S 0 0 5) (m0 : 0 ≤ m) (m1 : m < S 2 d 4) : WF T := by
  obtain ⟨⟨hF, h15⟩, h2⟩ := hM
  have e3 : ∀ i, T 2 i 3 = S 2 i 3 := fun i => by rw [h2, if_neg (by omega)]
  have e4 : ∀ i, T 2 i 4 = S 2 i 4 := fun i => by rw [h2, if_neg (by omega)]
  have e5 : ∀ i, T 2 i 5 = if i = d then m else S 2 i 5 := fun i => by
    rw [h2]
    by_cases e : i = d
    · rw [if_pos ⟨e, rfl⟩, if_pos e]
    · rw [if_neg (fun q => e q.1), if_neg e]
  unfold WF TOK MOK UOK FOK LOK at *
  simp only [hF 0 rfl (by decide), e3, e4, e5, hF 3 rfl (by decide), hF 4 rfl (by decide), hF 5 rfl (by decide), hF 6 rfl (by decide), hF 8 rfl (by decide), hF 9 rfl (by decide), hF 11 rfl (by decide), hF 12 rfl (by decide), hF 13 rfl (by decide), hF 14 rfl (by decide), (h15 _).1, (h15 _).2]
  refine ⟨h.1, fun d' d0' d1' => ?_, fun d' d0' d1' => ?_, h.2.2.2⟩
  · have := h.2.1 d' d0' d1'
    by_cases e : d' = d
    · subst e
      rw [if_pos rfl]
      exact ⟨⟨this.1.1, this.1.2.1, this.1.2.2.1, this.1.2.2.2.1, m0, m1, this.1.2.2.2.2.2.2⟩, this.2⟩
    · rw [if_neg e]; exact this
  · rw [if_neg (by omega)]
    exact h.2.2.1 d' d0' d1'
noncomputable def drF (d : Int) : Nat → ZT → ZT
  | 0, S => S
  | n + 1, S => if (kids S d).length = 0 then S else drF d n (zS S 2 d 5 ((kids S d).getD (rkF (lsum S d) (kids S d).length 0).toNat 0))
theorem M_goTo.z (S : ZT) (d m : Int) : M_goTo S d m (zS S 2 d 5 m) :=
  ⟨(FRM.of (SP.rf S) _).st (by simp) (by decide) _ _ _, fun i j => by rw [zS_w]⟩
theorem kids_ok {S : ZT} (hW : WF S) {d : Int} (d0 : 0 ≤ d) (d1 : d < S 0 0 5) : ((kids S d).length : Int) ≤ 24 ∧ ∀ x ∈ kids S d, 0 ≤ x ∧ x < S 2 d 4 := by
  have ht := hW.t d0 d1
  have ht1 := ht.1
  have := wk_len (S 4 d (S 2 d 5) + 1) ht ht1.2.2.2.2.1 ht1.2.2.2.2.2.1
  refine ⟨by unfold kids; omega, fun x hx => (wk_in ht ht1.2.2.2.2.1 ht1.2.2.2.2.2.1 hx).1⟩
