/-! what the law's checks rest on: sums by parts, ranks, peaks, costs, finer levels, the advice -/
theorem sumTo_add (f h : Int → Int) (n : Nat) : sumTo (fun k => f k + h k) n = sumTo f n + sumTo h n := by
  induction n with
  | zero => rfl
  | succ n ih =>
    show sumTo (fun k => f k + h k) n + (f n + h n) = (sumTo f n + f n) + (sumTo h n + h n)
    rw [ih]; omega
theorem sumTo_0 (n : Nat) : sumTo (fun _ => 0) n = 0 := by
  induction n with
  | zero => rfl
  | succ n ih =>
    show sumTo (fun _ => 0) n + 0 = 0
    rw [ih]; rfl
theorem sumTo_swap (F : Int → Int → Int) (n m : Nat) : sumTo (fun j => sumTo (fun k => F j k) n) m = sumTo (fun k => sumTo (fun j => F j k) m) n := by
  induction m with
  | zero =>
    show (0 : Int) = sumTo (fun _ => 0) n
    rw [sumTo_0]
  | succ m ih =>
    show sumTo (fun j => sumTo (fun k => F j k) n) m + sumTo (fun k => F m k) n = sumTo (fun k => sumTo (fun j => F j k) m + F m k) n
    rw [ih, sumTo_add]
theorem sumTo_mul (f : Int → Int) (c : Int) (n : Nat) : sumTo (fun k => f k * c) n = sumTo f n * c := by
  induction n with
  | zero => show (0 : Int) = 0 * c; rw [Int.zero_mul]
  | succ n ih =>
    show sumTo (fun k => f k * c) n + f n * c = (sumTo f n + f n) * c
    rw [ih, Int.add_mul]
/-- just one of a list without repeats is so -/
theorem one_of {W : List Int} (hn : W.Nodup) (P : Int → Prop) {a : Int} (ha : a ∈ W) (hP : P a) (hu : ∀ x ∈ W, P x → x = a) : sumTo (fun j => iv (P (W.getD j.toNat 0))) W.length = 1 := by
  obtain ⟨i, hi⟩ := List.getElem?_of_mem ha
  have hil := (List.getElem?_eq_some_iff.mp hi).1
  have hia : W.getD i 0 = a := by rw [List.getD_eq_getElem?_getD, hi]; rfl
  have key : ∀ m : Nat, m ≤ W.length → sumTo (fun j => iv (P (W.getD j.toNat 0))) m = if i < m then 1 else 0 := by
    intro m
    induction m with
    | zero => intro _; rw [if_neg (by omega)]; rfl
    | succ m ih =>
      intro hm
      show sumTo (fun j => iv (P (W.getD j.toNat 0))) m + iv (P (W.getD ((m : Int).toNat) 0)) = _
      rw [ih (by omega), Int.toNat_natCast]
      by_cases e : m = i
      · subst e
        rw [hia, iv_t hP, if_neg (by omega), if_pos (by omega)]; rfl
      · rw [iv_f]
        · by_cases q : i < m
          · rw [if_pos q, if_pos (by omega)]; rfl
          · rw [if_neg q, if_neg (by omega)]; rfl
        · intro hp
          have hm2 : W.getD m 0 ∈ W := getD_mem (j := m) (by omega) (by omega)
          have hx := hu _ hm2 hp
          have := getD_inj hn (i := m) (j := i) (by omega) (by omega) (by omega) (by omega) (by rw [Int.toNat_natCast, Int.toNat_natCast, hia, hx])
          omega
  rw [key _ (Nat.le_refl _), if_pos hil]
theorem none_of {W : List Int} (P : Int → Prop) (hu : ∀ x ∈ W, ¬ P x) : sumTo (fun j => iv (P (W.getD j.toNat 0))) W.length = 0 := by
  rw [sumTo_congr (h := fun _ => 0) (fun k h0 h1 => iv_f (hu _ (getD_mem h0 h1))), sumTo_0]
/-- the member on a level above a leaf beneath a top -/
theorem abv_mem {S : ZT} {d m top lv : Int} (h : TOK S d) (h0 : 0 ≤ m) (h1 : m < S 2 d 4) (t0 : 0 ≤ top) (t1 : top < S 2 d 4) (hb : bel S d m top) (hl : S 4 d top ≤ lv) (hm : lv ≤ S 4 d m) : abv S d m lv ∈ wk S d top lv ∧ bel S d m (abv S d m lv) := by
  have ht := (h.at t0 t1).1
  have ha := abv_ok h h0 h1 (lv := lv) (by omega)
  have hd := ha.2.2.1 hm
  have hbl : bel S d m (abv S d m lv) := (bel_abv hd hm).mpr rfl
  refine ⟨wk_all h t0 t1 ha.1 ha.2.1 ⟨by omega, ?_⟩ hd, hbl⟩
  have e := hb.2
  rw [hd]
  unfold abv
  rw [← ancF_add, show (S 4 d m - lv).toNat + (lv - S 4 d top).toNat = (S 4 d m - S 4 d top).toNat by have := hb.1; omega]
  exact e
/-- a fact that is seen is beneath one child -/
theorem kid_one {S : ZT} (hW : WF S) {d : Int} (d0 : 0 ≤ d) (d1 : d < S 0 0 5) (hl : S 4 d (S 2 d 5) < S 2 d 3) {k : Int} (k0 : 0 ≤ k) (k1 : k < S 6 0 3) : sumTo (fun j => iv (seen S k ∧ bel S d (S 8 d k) ((kids S d).getD j.toNat 0))) (kids S d).length = iv (seen S k) := by
  have ht := hW.t d0 d1
  have ht1 := ht.1
  have hf := (hW.fk k0 k1).1 d d0 d1
  by_cases hs : seen S k
  · rw [iv_t hs]
    have hbp := (hs d d0 d1).1
    have ha := abv_mem ht hf.1 hf.2.1 ht1.2.2.2.2.1 ht1.2.2.2.2.2.1 hbp (lv := S 4 d (S 2 d 5) + 1) (by omega) (by omega)
    refine one_of (W := kids S d) (wk_nd _ ht ht1.2.2.2.2.1 ht1.2.2.2.2.2.1) (fun x => seen S k ∧ bel S d (S 8 d k) x) ha.1 ⟨hs, ha.2⟩ (fun x hx hp => ?_)
    have hxd := (wk_in ht ht1.2.2.2.2.1 ht1.2.2.2.2.2.1 hx).2.2
    exact ((bel_abv hxd (by omega)).mp hp.2).symm
  · rw [iv_f hs]
    exact none_of (W := kids S d) (fun x => seen S k ∧ bel S d (S 8 d k) x) (fun x _ hp => hs hp.1)
/-- children add up to what is beneath the point -/
theorem kids_sum {S : ZT} (hW : WF S) {d : Int} (d0 : 0 ≤ d) (d1 : d < S 0 0 5) (hl : S 4 d (S 2 d 5) < S 2 d 3) : sumTo (lsum S d) (kids S d).length = SUM S := by
  have hf := hW.f
  rw [sumTo_congr (h := fun j => sumTo (fun k => iv (seen S k ∧ bel S d (S 8 d k) ((kids S d).getD j.toNat 0)) * S 9 0 k) (S 6 0 3).toNat) (fun j j0 j1 => by
    unfold lsum csum
    rw [if_pos ⟨j0, j1⟩])]
  rw [sumTo_swap (fun j k => iv (seen S k ∧ bel S d (S 8 d k) ((kids S d).getD j.toNat 0)) * S 9 0 k)]
  unfold SUM
  refine sumTo_congr (fun k k0 k1 => ?_)
  rw [sumTo_mul (fun j => iv (seen S k ∧ bel S d (S 8 d k) ((kids S d).getD j.toNat 0)))]
  rw [kid_one hW d0 d1 hl k0 (by omega)]
theorem cnt_le {S : ZT} (hW : WF S) : CNT S ≤ S 6 0 3 := by
  have hf := hW.f
  have := sumTo_iv (fun k => seen S k) (S 6 0 3).toNat
  unfold CNT
  omega
theorem lsF_gsF {S : ZT} (hW : WF S) : ∀ n : Nat, (n : Int) ≤ S 6 0 3 → (sumTo (fun k => iv (seen S k)) n = 0 ∨ (lsF S n ≤ gsF S n ∧ lsF S n ≤ 10000 ∧ -10000 ≤ gsF S n))
  | 0, _ => Or.inl rfl
  | n + 1, hn => by
    have ih := lsF_gsF hW n (by omega)
    have hl := lsF_in hW n (by omega)
    have hg := gsF_in hW n (by omega)
    have hv := (hW.fk (k := n) (by omega) (by omega)).2
    have hs : sumTo (fun k => iv (seen S k)) (n + 1) = sumTo (fun k => iv (seen S k)) n + iv (seen S n) := rfl
    by_cases e : seen S n
    · refine Or.inr ?_
      unfold lsF gsF
      simp only [e, and_true]
      rcases ih with ih | ih
      · split <;> split <;> omega
      · split <;> split <;> omega
    · rw [hs, iv_f e, Int.add_zero]
      unfold lsF gsF
      simp only [e, and_false, if_false]
      exact ih
theorem least_le {S : ZT} (hW : WF S) (h : 0 < CNT S) : LEAST S ≤ GREAT S := by
  have hf := hW.f
  have hk := lsF_gsF hW (S 6 0 3).toNat (by omega)
  unfold CNT at h
  rcases hk with z | z
  · omega
  · unfold LEAST GREAT
    split <;> split <;> omega
theorem rank_le (s : Int → Int) (n : Nat) {k : Int} (h0 : 1 ≤ k) (h1 : k < n) : s (rkF s n k) ≤ s (rkF s n (k - 1)) := by
  have a := rkF_in s n k (by omega) h1
  have b := rkF_in s n (k - 1) (by omega) (by omega)
  refine Int.not_lt.mp (fun z => ?_)
  have := ahd_lt (s := s) (n := n) (c := rkF s n (k - 1)) a.1 a.2.1 (Or.inl z)
  omega
theorem pk_max (f : Int → Int) : ∀ n : Nat, (0 < n → 0 ≤ pkF f n) ∧ ∀ c : Int, 0 ≤ c → c < n → f c ≤ f (pkF f n)
  | 0 => ⟨fun h => absurd h (Nat.lt_irrefl 0), fun c c0 c1 => by omega⟩
  | n + 1 => by
    have ih := pk_max f n
    have hi := pkF_in f n
    unfold pkF
    by_cases e : pkF f n = -1 ∨ f (pkF f n) < f n
    · rw [if_pos e]
      refine ⟨fun _ => by omega, fun c c0 c1 => ?_⟩
      by_cases q : c = n
      · rw [q]; exact Int.le_refl _
      · have := ih.2 c c0 (by omega)
        rcases e with e | e
        · have := ih.1 (by omega); omega
        · omega
    · rw [if_neg e]
      refine ⟨fun _ => by omega, fun c c0 c1 => ?_⟩
      by_cases q : c = n
      · rw [q]; omega
      · exact ih.2 c c0 (by omega)
/-- a fact that is seen has its line in a table that has lines -/
theorem line_one {S : ZT} (hW : WF S) (hax : S 0 0 7 = 1) (hr : (LN S 0).length ≠ 0) (hc : (LN S 1).length ≠ 0) {i : Int} (i0 : 0 ≤ i) (i1 : i < 2) {k : Int} (k0 : 0 ≤ k) (k1 : k < S 6 0 3) (hs : seen S k) : sumTo (fun j => iv (bel S (S 15 i 4) (S 8 (S 15 i 4) k) ((LN S i).getD j.toNat 0))) (LN S i).length = 1 := by
  have hne : ∀ i, 0 ≤ i → i < 2 → ∃ x, x ∈ allL S i := fun i i0 i1 => by
    have h : (LN S i).length ≠ 0 := by
      rcases (show i = 0 ∨ i = 1 by omega) with rfl | rfl
      · exact hr
      · exact hc
    obtain ⟨x, hx⟩ := List.exists_mem_of_length_pos (Nat.pos_of_ne_zero h)
    exact ⟨x, (List.mem_filter.mp hx).1⟩
  have hal : ∀ i, 0 ≤ i → i < 2 → abv S (S 15 i 4) (S 8 (S 15 i 4) k) (S 15 i 5) ∈ allL S i ∧ bel S (S 15 i 4) (S 8 (S 15 i 4) k) (abv S (S 15 i 4) (S 8 (S 15 i 4) k) (S 15 i 5)) := fun i i0 i1 => by
    have ha := hW.ai hax i0 i1
    have ht := hW.t ha.1 ha.2.1
    have ht1 := ht.1
    have hf := (hW.fk k0 k1).1 _ ha.1 ha.2.1
    obtain ⟨x, hx⟩ := hne i i0 i1
    have hxi := wk_in ht ht1.2.2.2.2.1 ht1.2.2.2.2.2.1 hx
    have hb := hxi.2.1.1
    exact abv_mem ht hf.1 hf.2.1 ht1.2.2.2.2.1 ht1.2.2.2.2.2.1 (hs _ ha.1 ha.2.1).1 (by omega) (by omega)
  have h1 := hal i i0 i1
  have h2 := hal (1 - i) (by omega) (by omega)
  have ha := hW.ai hax i0 i1
  have hok := allL_ok hW hax i0 i1
  have hf := (hW.fk k0 k1).1 _ ha.1 ha.2.1
  refine one_of (W := LN S i) (hok.2.1.filter _) (fun x => bel S (S 15 i 4) (S 8 (S 15 i 4) k) x) (a := abv S (S 15 i 4) (S 8 (S 15 i 4) k) (S 15 i 5)) ?_ h1.2 (fun x hx hp => ?_)
  · refine List.mem_filter.mpr ⟨h1.1, ?_⟩
    simp only [decide_eq_true_eq]
    exact Or.inr ⟨k, k0, k1, hs, h1.2, _, h2.1, h2.2⟩
  · have hxd := (hok.2.2 x (List.mem_filter.mp hx).1).2
    exact ((bel_abv hxd (by omega)).mp hp).symm
theorem iv_and (p q : Prop) : iv (p ∧ q) = iv p * iv q := by
  by_cases a : p
  · by_cases b : q
    · rw [iv_t a, iv_t b, iv_t ⟨a, b⟩]; rfl
    · rw [iv_t a, iv_f b, iv_f (fun z => b z.2)]; rfl
  · rw [iv_f a, iv_f (fun z => a z.1), Int.zero_mul]
/-- the cells of a table add up to it -/
theorem table_sum {S : ZT} (hW : WF S) (hax : S 0 0 7 = 1) (hr : (LN S 0).length ≠ 0) (hc : (LN S 1).length ≠ 0) : sumTo (fun r => sumTo (fun w => tsum S ((LN S 0).getD r.toNat 0) ((LN S 1).getD w.toNat 0)) (LN S 1).length) (LN S 0).length = SUM S := by
  have hf := hW.f
  unfold tsum SUM
  have e1 : ∀ r : Int, sumTo (fun w => sumTo (fun k => iv (seen S k ∧ bel S (S 15 0 4) (S 8 (S 15 0 4) k) ((LN S 0).getD r.toNat 0) ∧ bel S (S 15 1 4) (S 8 (S 15 1 4) k) ((LN S 1).getD w.toNat 0)) * S 9 0 k) (S 6 0 3).toNat) (LN S 1).length = sumTo (fun k => iv (bel S (S 15 0 4) (S 8 (S 15 0 4) k) ((LN S 0).getD r.toNat 0)) * (iv (seen S k) * S 9 0 k)) (S 6 0 3).toNat := fun r => by
    rw [sumTo_swap (fun w k => iv (seen S k ∧ bel S (S 15 0 4) (S 8 (S 15 0 4) k) ((LN S 0).getD r.toNat 0) ∧ bel S (S 15 1 4) (S 8 (S 15 1 4) k) ((LN S 1).getD w.toNat 0)) * S 9 0 k)]
    refine sumTo_congr (fun k k0 k1 => ?_)
    by_cases hs : seen S k
    · rw [sumTo_congr (h := fun w => iv (bel S (S 15 1 4) (S 8 (S 15 1 4) k) ((LN S 1).getD w.toNat 0)) * (iv (bel S (S 15 0 4) (S 8 (S 15 0 4) k) ((LN S 0).getD r.toNat 0)) * (iv (seen S k) * S 9 0 k))) (fun w _ _ => by
        rw [iv_and, iv_and]
        generalize iv (seen S k) = a
        generalize iv (bel S (S 15 0 4) (S 8 (S 15 0 4) k) ((LN S 0).getD r.toNat 0)) = b
        generalize iv (bel S (S 15 1 4) (S 8 (S 15 1 4) k) ((LN S 1).getD w.toNat 0)) = c
        generalize S 9 0 k = v
        rw [Int.mul_comm a (b * c), Int.mul_assoc, Int.mul_comm b c, Int.mul_assoc]), sumTo_mul (fun w => iv (bel S (S 15 1 4) (S 8 (S 15 1 4) k) ((LN S 1).getD w.toNat 0))), line_one hW hax hr hc (i := 1) (by decide) (by decide) k0 (by omega) hs, Int.one_mul]
    · rw [iv_f hs, Int.zero_mul, Int.mul_zero, sumTo_congr (h := fun _ => 0) (fun w _ _ => by rw [iv_f (fun z => hs z.1), Int.zero_mul]), sumTo_0]
  rw [sumTo_congr (fun r _ _ => e1 r), sumTo_swap (fun r k => iv (bel S (S 15 0 4) (S 8 (S 15 0 4) k) ((LN S 0).getD r.toNat 0)) * (iv (seen S k) * S 9 0 k))]
  refine sumTo_congr (fun k k0 k1 => ?_)
  rw [sumTo_mul (fun r => iv (bel S (S 15 0 4) (S 8 (S 15 0 4) k) ((LN S 0).getD r.toNat 0)))]
  by_cases hs : seen S k
  · rw [line_one hW hax hr hc (i := 0) (by decide) (by decide) k0 (by omega) hs, Int.one_mul]
  · rw [iv_f hs, Int.zero_mul, Int.mul_zero]
/-- the view that answers -/
theorem vf_is (S : ZT) (L : Int) : ∀ n : Nat, prc S (vfF S L n) ≤ S 6 0 3 ∧ (0 ≤ vfF S L n → S 14 0 (vfF S L n) = 0 ∧ prc S (vfF S L n) < S 6 0 3)
  | 0 => ⟨by show (if (-1 : Int) = -1 then S 6 0 3 else _) ≤ _; rw [if_pos rfl]; exact Int.le_refl _, fun h => absurd h (by show ¬ (0 : Int) ≤ -1; decide)⟩
  | n + 1 => by
    have ih := vf_is S L n
    unfold vfF
    split
    · rename_i h
      have e : prc S (n : Int) = S 13 0 n := by unfold prc; rw [if_neg (by omega)]
      rw [e]
      exact ⟨by omega, fun _ => ⟨h.2.1, by omega⟩⟩
    · exact ih
theorem cost_le (S : ZT) (L : Int) : COST S L ≤ S 6 0 3 := (vf_is S L _).1
theorem vfor_is (S : ZT) (L : Int) (h : 0 ≤ VFOR S L) : S 14 0 (VFOR S L) = 0 ∧ S 13 0 (VFOR S L) = COST S L ∧ COST S L < S 6 0 3 := by
  have k := (vf_is S L (S 11 0 3).toNat).2 h
  refine ⟨k.1, ?_, k.2⟩
  unfold COST prc
  rw [if_neg (by omega)]
theorem vfor_no (S : ZT) (L : Int) (h : VFOR S L < 0) : COST S L = S 6 0 3 := by
  have k := vfF_in S L (S 11 0 3).toNat
  have e : VFOR S L = -1 := by unfold VFOR at h ⊢; omega
  unfold COST prc
  rw [e, if_pos rfl]
/-- finer levels have no fewer cells -/
theorem abv_abv {S : ZT} {d m a b : Int} (h : TOK S d) (h0 : 0 ≤ m) (h1 : m < S 2 d 4) (ha : 0 ≤ a) (hab : a ≤ b) : abv S d (abv S d m b) a = abv S d m a := by
  have hm := (h.at h0 h1).1
  have hb := abv_ok h h0 h1 (lv := b) (by omega)
  by_cases e : b ≤ S 4 d m
  · have hd := hb.2.2.1 e
    show ancF (S 3 d) (S 4 d (abv S d m b) - a).toNat (abv S d m b) = _
    rw [hd]
    unfold abv
    rw [← ancF_add, show (S 4 d m - b).toNat + (b - a).toNat = (S 4 d m - a).toNat by omega]
  · rw [hb.2.2.2 (by omega)]
theorem cells_mono {S : ZT} (hW : WF S) {L M : Int} (h : ∀ d, 0 ≤ d → d < S 0 0 5 → lvl L d ≤ lvl M d) : CELLS S L ≤ CELLS S M := by
  have hf := hW.f
  unfold CELLS
  refine sumTo_le (fun k k0 k1 => iv_le (fun q j j0 j1 hs => q j j0 j1 (fun d d0 d1 => ?_)))
  have ht := hW.t d0 d1
  have hj := (hW.fk j0 (by omega)).1 d d0 d1
  have hk := (hW.fk k0 (by omega)).1 d d0 d1
  have hl := (lvl_in L d).1
  rw [← abv_abv ht hj.1 hj.2.1 hl (h d d0 d1), ← abv_abv ht hk.1 hk.2.1 hl (h d d0 d1), hs d d0 d1]
/-! levels set: the state but for them -/
theorem six_ne (S : ZT) (v j : Int) (h : j ≠ 6) : zS S 0 0 6 v 0 0 j = S 0 0 j := zS_j h
theorem CELLS_6 (S : ZT) (v L : Int) : CELLS (zS S 0 0 6 v) L = CELLS S L := by
  unfold CELLS sameC abv
  rw [zS_k (show (6 : Nat) ≠ 0 by decide), zS_k (show (8 : Nat) ≠ 0 by decide), zS_k (show (3 : Nat) ≠ 0 by decide), zS_k (show (4 : Nat) ≠ 0 by decide), six_ne S v 5 (by decide)]
theorem vfF_6 (S : ZT) (v L : Int) : ∀ n : Nat, vfF (zS S 0 0 6 v) L n = vfF S L n
  | 0 => rfl
  | n + 1 => by
    have ih := vfF_6 S v L n
    unfold vfF prc
    rw [ih, zS_k (show (13 : Nat) ≠ 0 by decide), zS_k (show (14 : Nat) ≠ 0 by decide), zS_k (show (12 : Nat) ≠ 0 by decide), zS_k (show (6 : Nat) ≠ 0 by decide)]
theorem COST_6 (S : ZT) (v L : Int) : COST (zS S 0 0 6 v) L = COST S L := by
  unfold COST VFOR prc
  rw [vfF_6, zS_k (show (13 : Nat) ≠ 0 by decide), zS_k (show (11 : Nat) ≠ 0 by decide), zS_k (show (6 : Nat) ≠ 0 by decide)]
theorem GAIN_6 (S : ZT) (v L : Int) : GAIN (zS S 0 0 6 v) L = GAIN S L := by
  unfold GAIN
  refine sumTo_congr (fun a _ _ => ?_)
  rw [COST_6, CELLS_6]
/-- the advice is the best -/
theorem adF_max {S : ZT} : ∀ (n : Nat) (L : Int), 0 ≤ L → L < n → LOK S L → GAIN S L ≤ (adF S n).1
  | 0, L, h0, h1, _ => by omega
  | n + 1, L, h0, h1, h2 => by
    have ih := adF_max (S := S) n
    show GAIN S L ≤ (@ite _ (LOK S (n : Int) ∧ (adF S n).1 < GAIN S (n : Int)) (Classical.propDecidable _) (GAIN S (n : Int), (n : Int)) (adF S n)).1
    by_cases e : L = n
    · subst e
      by_cases q : (adF S n).1 < GAIN S n
      · rw [if_pos ⟨h2, q⟩]; exact Int.le_refl _
      · rw [if_neg (fun z => q z.2)]; omega
    · have := ih L h0 (by omega) h2
      split
      · rename_i z
        show GAIN S L ≤ GAIN S n
        omega
      · exact this
theorem adF_gain {S : ZT} : ∀ n : Nat, (adF S n).1 = -1 ∨ (GAIN S (adF S n).2 = (adF S n).1 ∧ LOK S (adF S n).2)
  | 0 => Or.inl rfl
  | n + 1 => by
    have ih := adF_gain (S := S) n
    have e : adF S (n + 1) = @ite _ (LOK S (n : Int) ∧ (adF S n).1 < GAIN S (n : Int)) (Classical.propDecidable _) (GAIN S (n : Int), (n : Int)) (adF S n) := rfl
    rw [e]
    by_cases q : LOK S (n : Int) ∧ (adF S n).1 < GAIN S (n : Int)
    · rw [if_pos q]
      exact Or.inr ⟨rfl, q.1⟩
    · rw [if_neg q]
      exact ih
theorem ad_is {S : ZT} (hW : WF S) : GAIN S (adF S 256).2 = (adF S 256).1 ∧ LOK S (adF S 256).2 ∧ 0 ≤ (adF S 256).1 := by
  have h0 := adF_max (S := S) 256 0 (by decide) (by decide) (LOK_0 hW)
  have g0 := (GAIN_in hW (L := 0) (by decide)).1
  rcases adF_gain (S := S) 256 with z | z
  · omega
  · exact ⟨z.1, z.2, by omega⟩
theorem lvl_ext {L M : Int} (l0 : 0 ≤ L) (l1 : L < 256) (m0 : 0 ≤ M) (m1 : M < 256) (h : ∀ e, 0 ≤ e → e < 4 → lvl L e = lvl M e) : L = M := by
  have h0 := h 0 (by decide) (by decide)
  have h1 := h 1 (by decide) (by decide)
  have h2 := h 2 (by decide) (by decide)
  have h3 := h 3 (by decide) (by decide)
  simp [lvl] at h0 h1 h2 h3
  omega
theorem setL_back {L d v : Int} (l0 : 0 ≤ L) (l1 : L < 256) (d0 : 0 ≤ d) (d1 : d < 4) (v0 : 0 ≤ v) (v1 : v < 4) : setL (setL L d v) d (lvl L d) = L := by
  have a := setL_ok l0 l1 d0 d1 v0 v1
  have hl := lvl_in L d
  have b := setL_ok a.1.1 a.1.2 d0 d1 hl.1 (by omega)
  refine lvl_ext b.1.1 b.1.2 l0 l1 (fun e e0 e1 => ?_)
  rw [b.2 e e0 e1]
  by_cases q : e = d
  · rw [if_pos q, q]
  · rw [if_neg q, a.2 e e0 e1, if_neg q]
theorem LOK.set {S : ZT} {L d v : Int} (h : LOK S L) (d0 : 0 ≤ d) (d1 : d < 4) (v0 : 0 ≤ v) (v1 : v ≤ S 2 d 3) (v3 : v < 4) : LOK S (setL L d v) := by
  have a := setL_ok h.1 h.2.1 d0 d1 v0 v3
  refine ⟨a.1.1, a.1.2, fun e e0 e1 => ?_⟩
  rw [a.2 e e0 e1]
  by_cases q : e = d
  · rw [if_pos q, q]; exact v1
  · rw [if_neg q]; exact h.2.2 e e0 e1
