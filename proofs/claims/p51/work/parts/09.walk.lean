/-! the walk through a tree: children one behind the other, each ahead of what is beneath it -/
def sibG (par : Int → Int) (f : Int → List Int) (p : Int) : Nat → Int → List Int
  | 0, _ => []
  | n + 1, k => (if par k = p then f k else []) ++ sibG par f p n (k + 1)
def preF (par : Int → Int) (sz : Int) : Nat → Int → List Int
  | 0, m => [m]
  | n + 1, m => m :: sibG par (preF par sz n) m sz.toNat 0
def pre (S : ZT) (d m : Int) : List Int := preF (S 3 d) (S 2 d 4) (3 - S 4 d m).toNat m
def sibs (S : ZT) (d p st : Int) : List Int := sibG (S 3 d) (pre S d) p (S 2 d 4 - st).toNat st
def aftF (S : ZT) (d : Int) : Nat → Int → List Int
  | 0, _ => []
  | n + 1, m => sibs S d (S 3 d m) (m + 1) ++ aftF S d n (S 3 d m)
def aft (S : ZT) (d top m : Int) : List Int := aftF S d (S 4 d m - S 4 d top).toNat m
def nxt (S : ZT) (d top m : Int) : List Int := sibs S d m 0 ++ aft S d top m
def wk (S : ZT) (d top lv : Int) : List Int := (pre S d top).filter (fun x => decide (S 4 d x = lv))
theorem sibG_congr {par : Int → Int} {f h : Int → List Int} {p : Int} : ∀ (n : Nat) (k : Int), (∀ j, k ≤ j → j < k + n → par j = p → f j = h j) → sibG par f p n k = sibG par h p n k
  | 0, _, _ => rfl
  | n + 1, k, e => by
    show _ ++ _ = _ ++ _
    rw [sibG_congr n (k + 1) (fun j a b c => e j (by omega) (by omega) c)]
    by_cases q : par k = p
    · rw [if_pos q, if_pos q, e k (by omega) (by omega) q]
    · rw [if_neg q, if_neg q]
theorem sibG_nil {par : Int → Int} {f : Int → List Int} {p : Int} : ∀ (n : Nat) (k : Int), (∀ j, k ≤ j → j < k + n → par j ≠ p) → sibG par f p n k = []
  | 0, _, _ => rfl
  | n + 1, k, e => by
    show _ ++ _ = _
    rw [sibG_nil n (k + 1) (fun j a b => e j (by omega) (by omega)), if_neg (e k (by omega) (by omega))]
    rfl
theorem sibG_mem {par : Int → Int} {f : Int → List Int} {p x : Int} : ∀ (n : Nat) (k : Int), x ∈ sibG par f p n k → ∃ j, k ≤ j ∧ j < k + n ∧ par j = p ∧ x ∈ f j
  | 0, _, h => by cases h
  | n + 1, k, h => by
    rcases List.mem_append.mp h with q | q
    · by_cases e : par k = p
      · rw [if_pos e] at q
        exact ⟨k, by omega, by omega, e, q⟩
      · rw [if_neg e] at q
        cases q
    · obtain ⟨j, a, b, c, e⟩ := sibG_mem n (k + 1) q
      exact ⟨j, by omega, by omega, c, e⟩
/-- the first child from st on, and what is behind it -/
theorem sibG_first {par : Int → Int} {f : Int → List Int} {p c : Int} : ∀ (n : Nat) (k : Int), k ≤ c → c < k + n → par c = p → (∀ j, k ≤ j → j < c → par j ≠ p) → sibG par f p n k = f c ++ sibG par f p (k + n - c - 1).toNat (c + 1)
  | 0, k, h0, h1, _, _ => by omega
  | n + 1, k, h0, h1, h2, h3 => by
    show _ ++ _ = _
    by_cases e : k = c
    · subst e
      rw [if_pos h2, show (k + ((n + 1 : Nat) : Int) - k - 1).toNat = n by omega]
    · rw [if_neg (h3 k (by omega) (by omega)), sibG_first n (k + 1) (by omega) (by omega) h2 (fun j a b => h3 j (by omega) b), List.nil_append, show k + 1 + (n : Int) - c - 1 = k + ((n + 1 : Nat) : Int) - c - 1 by omega]
theorem sibs_nil {S : ZT} {d p st : Int} (h : ∀ j, st ≤ j → j < S 2 d 4 → S 3 d j ≠ p) : sibs S d p st = [] := sibG_nil _ _ (fun j a b => h j a (by omega))
theorem sibs_first {S : ZT} {d p st c : Int} (h0 : st ≤ c) (h1 : c < S 2 d 4) (h2 : S 3 d c = p) (h3 : ∀ j, st ≤ j → j < c → S 3 d j ≠ p) : sibs S d p st = pre S d c ++ sibs S d p (c + 1) := by
  unfold sibs
  rw [sibG_first _ _ h0 (by omega) h2 h3, show st + ((S 2 d 4 - st).toNat : Int) - c - 1 = S 2 d 4 - (c + 1) by omega]
theorem kid_dep {S : ZT} {d m k : Int} (h : TOK S d) (hm : 0 ≤ m) (h0 : 0 ≤ k) (h1 : k < S 2 d 4) (e : S 3 d k = m) : 0 < k ∧ m < S 2 d 4 ∧ S 4 d k = S 4 d m + 1 := by
  have a := h.at h0 h1
  unfold MOK at a
  have b := h.1
  have hk : 0 < k := by
    rcases Int.lt_or_eq_of_le h0 with q | q
    · exact q
    · exfalso
      rw [← q] at e
      omega
  have c := a.2.2.2 hk
  rw [e] at c
  exact ⟨hk, c.2.1, c.2.2⟩
theorem pre_unf {S : ZT} {d m : Int} (h : TOK S d) (h0 : 0 ≤ m) (h1 : m < S 2 d 4) : pre S d m = m :: sibs S d m 0 := by
  have a := h.at h0 h1
  unfold MOK at a
  have b := h.1
  unfold pre
  by_cases e : S 4 d m = 3
  · rw [show (3 - S 4 d m).toNat = 0 by omega, sibs_nil (fun j q0 q1 q2 => by
      have c := kid_dep h h0 q0 q1 q2
      have := h.at q0 q1
      unfold MOK at this
      omega)]
    rfl
  · obtain ⟨n, hn⟩ : ∃ n : Nat, (3 - S 4 d m).toNat = n + 1 := ⟨(2 - S 4 d m).toNat, by omega⟩
    rw [hn]
    show m :: _ = m :: _
    unfold sibs
    rw [Int.sub_zero]
    congr 1
    refine sibG_congr _ _ (fun j q0 q1 q2 => ?_)
    have c := kid_dep h h0 q0 (by omega) q2
    unfold pre
    rw [show (3 - S 4 d j).toNat = n by omega]
theorem bel_rf (S : ZT) (d m : Int) : bel S d m m := by
  refine ⟨Int.le_refl _, ?_⟩
  rw [Int.sub_self]; rfl
/-- beneath a child, beneath its parent -/
theorem bel_up {S : ZT} {d x k m : Int} (h : TOK S d) (hm : 0 ≤ m) (h0 : 0 ≤ k) (h1 : k < S 2 d 4) (e : S 3 d k = m) (hb : bel S d x k) : bel S d x m ∧ S 4 d m < S 4 d x := by
  have c := kid_dep h hm h0 h1 e
  refine ⟨⟨by have := hb.1; omega, ?_⟩, by have := hb.1; omega⟩
  rw [show (S 4 d x - S 4 d m).toNat = (S 4 d x - S 4 d k).toNat + 1 by have := hb.1; omega, ancF_add, hb.2]
  exact e
theorem bel_lt {S : ZT} {d x m : Int} (h : TOK S d) (hx0 : 0 ≤ x) (hx1 : x < S 2 d 4) (hm : 0 ≤ S 4 d m) (hb : bel S d x m) : 0 ≤ m ∧ m < S 2 d 4 := by
  have := anc_dep h (S 4 d x - S 4 d m).toNat x hx0 hx1 (by have := hb.1; omega)
  rw [hb.2] at this
  exact ⟨this.1, this.2.1⟩
theorem pre_in {S : ZT} {d : Int} (h : TOK S d) : ∀ (n : Nat) (m : Int), 0 ≤ m → m < S 2 d 4 → (3 - S 4 d m).toNat = n → ∀ x ∈ pre S d m, (0 ≤ x ∧ x < S 2 d 4) ∧ bel S d x m := by
  intro n
  induction n with
  | zero =>
    intro m h0 h1 h2 x hx
    rw [pre_unf h h0 h1, sibs_nil (fun j q0 q1 q2 => by
      have c := kid_dep h h0 q0 q1 q2
      have := h.at q0 q1
      have b := h.1
      unfold MOK at this
      omega)] at hx
    rw [List.mem_singleton.mp hx]
    exact ⟨⟨h0, h1⟩, bel_rf S d m⟩
  | succ n ih =>
    intro m h0 h1 h2 x hx
    rw [pre_unf h h0 h1] at hx
    rcases List.mem_cons.mp hx with q | q
    · rw [q]
      exact ⟨⟨h0, h1⟩, bel_rf S d m⟩
    · obtain ⟨k, k0, k1, k2, k3⟩ := sibG_mem _ _ q
      have c := kid_dep h h0 k0 (by omega) k2
      have r := ih k k0 (by omega) (by omega) x k3
      exact ⟨r.1, (bel_up h h0 k0 (by omega) k2 r.2).1⟩
theorem pre_mem {S : ZT} {d m : Int} (h : TOK S d) (h0 : 0 ≤ m) (h1 : m < S 2 d 4) {x : Int} (hx : x ∈ pre S d m) : (0 ≤ x ∧ x < S 2 d 4) ∧ bel S d x m := pre_in h _ m h0 h1 rfl x hx
theorem bel_uniq {S : ZT} {d x a b : Int} (ha : bel S d x a) (hb : bel S d x b) (e : S 4 d a = S 4 d b) : a = b := by
  rw [← ha.2, ← hb.2, e]
theorem pre_nd {S : ZT} {d : Int} (h : TOK S d) : ∀ (n : Nat) (m : Int), 0 ≤ m → m < S 2 d 4 → (3 - S 4 d m).toNat = n → (pre S d m).Nodup := by
  intro n
  induction n with
  | zero =>
    intro m h0 h1 h2
    rw [pre_unf h h0 h1, sibs_nil (fun j q0 q1 q2 => by
      have c := kid_dep h h0 q0 q1 q2
      have := h.at q0 q1
      have b := h.1
      unfold MOK at this
      omega)]
    simp
  | succ n ih =>
    intro m h0 h1 h2
    rw [pre_unf h h0 h1]
    have hs : ∀ (j : Nat) (k : Int), 0 ≤ k → k + j ≤ S 2 d 4 → (sibG (S 3 d) (pre S d) m j k).Nodup := by
      intro j
      induction j with
      | zero => intro k _ _; exact List.nodup_nil
      | succ j ihj =>
        intro k k0 k1
        show List.Nodup (_ ++ _)
        by_cases e : S 3 d k = m
        · rw [if_pos e]
          have c := kid_dep h h0 k0 (by omega) e
          refine List.nodup_append.mpr ⟨ih k k0 (by omega) (by omega), ihj (k + 1) (by omega) (by omega), fun x hx y hy hxy => ?_⟩
          subst hxy
          have a := (pre_mem h k0 (by omega) hx).2
          obtain ⟨k', q0, q1, q2, q3⟩ := sibG_mem _ _ hy
          have b := (pre_mem h (by omega) (by omega) q3).2
          have c' := kid_dep h h0 (by omega) (by omega) q2
          have := bel_uniq a b (by omega)
          omega
        · rw [if_neg e, List.nil_append]
          exact ihj (k + 1) (by omega) (by omega)
    refine List.nodup_cons.mpr ⟨fun hm => ?_, hs _ 0 (by omega) (by omega)⟩
    obtain ⟨k, q0, q1, q2, q3⟩ := sibG_mem _ _ hm
    have b := (pre_mem h q0 (by omega) q3).2
    have := (bel_up h h0 q0 (by omega) q2 b).2
    omega
theorem nd_len : ∀ (n : Nat) (l : List Int), l.Nodup → (∀ x ∈ l, 0 ≤ x ∧ x < n) → l.length ≤ n
  | 0, l, _, h => by
    cases l with
    | nil => exact Nat.le_refl _
    | cons a r => have := h a List.mem_cons_self; omega
  | n + 1, l, hn, h => by
    have h1 := nd_len n (l.filter (fun x : Int => decide (x ≠ (n : Int)))) (hn.filter _) (fun x hx => by
      obtain ⟨a, b⟩ := List.mem_filter.mp hx
      have := h x a
      have b := of_decide_eq_true b
      omega)
    have h2 : l.length ≤ (l.filter (fun x : Int => decide (x ≠ (n : Int)))).length + 1 := by
      clear h h1
      induction l with
      | nil => simp
      | cons a r ih =>
        have hr := List.nodup_cons.mp hn
        by_cases e : a = (n : Int)
        · have : r.filter (fun x : Int => decide (x ≠ (n : Int))) = r := List.filter_eq_self.mpr (fun x hx => by
            refine decide_eq_true (fun z => ?_)
            rw [z, ← e] at hx
            exact hr.1 hx)
          rw [List.filter_cons_of_neg (by simp [e]), this]
          simp
        · rw [List.filter_cons_of_pos (by simp [e])]
          have := ih hr.2
          simp only [List.length_cons]
          omega
    omega
theorem pre_len {S : ZT} {d m : Int} (h : TOK S d) (h0 : 0 ≤ m) (h1 : m < S 2 d 4) : ((pre S d m).length : Int) ≤ S 2 d 4 := by
  have := nd_len (S 2 d 4).toNat (pre S d m) (pre_nd h _ m h0 h1 rfl) (fun x hx => by have := (pre_mem h h0 h1 hx).1; omega)
  omega
theorem bel_iff {S : ZT} {d m x : Int} (h : TOK S d) (h0 : 0 ≤ m) (h1 : m < S 2 d 4) (hx0 : 0 ≤ x) (hx1 : x < S 2 d 4) : bel S d m x ↔ ∃ j : Nat, (j : Int) ≤ S 4 d m ∧ ancF (S 3 d) j m = x := by
  have hx := h.at hx0 hx1
  unfold MOK at hx
  constructor
  · intro hb
    exact ⟨(S 4 d m - S 4 d x).toNat, by have := hb.1; omega, hb.2⟩
  · rintro ⟨j, hj, rfl⟩
    have := anc_dep h j m h0 h1 hj
    refine ⟨by omega, ?_⟩
    rw [show (S 4 d m - S 4 d (ancF (S 3 d) j m)).toNat = j by omega]
/-- the step of the walk, down or up -/
theorem nxt_kid {S : ZT} {d top m c : Int} (h : TOK S d) (hm : 0 ≤ m) (ht : S 4 d top ≤ S 4 d m) (c0 : 0 ≤ c) (c1 : c < S 2 d 4) (c2 : S 3 d c = m) (c3 : ∀ j, 0 ≤ j → j < c → S 3 d j ≠ m) : nxt S d top m = pre S d c ++ aft S d top c := by
  have k := kid_dep h hm c0 c1 c2
  unfold nxt aft
  rw [sibs_first c0 c1 c2 c3, show (S 4 d c - S 4 d top).toNat = (S 4 d m - S 4 d top).toNat + 1 by omega, List.append_assoc]
  show _ = _ ++ (sibs S d (S 3 d c) (c + 1) ++ aftF S d _ (S 3 d c))
  rw [c2]
theorem aft_sib {S : ZT} {d top m c : Int} (h : TOK S d) (h0 : 0 < m) (h1 : m < S 2 d 4) (ht : S 4 d top < S 4 d m) (c0 : m + 1 ≤ c) (c1 : c < S 2 d 4) (c2 : S 3 d c = S 3 d m) (c3 : ∀ j, m + 1 ≤ j → j < c → S 3 d j ≠ S 3 d m) : aft S d top m = pre S d c ++ aft S d top c := by
  have a := (h.at (by omega : 0 ≤ m) h1).2.2.2 h0
  have k := kid_dep h a.1 (by omega) c1 c2
  unfold aft
  rw [show (S 4 d m - S 4 d top).toNat = (S 4 d (S 3 d m) - S 4 d top).toNat + 1 by omega, show (S 4 d c - S 4 d top).toNat = (S 4 d (S 3 d m) - S 4 d top).toNat + 1 by omega]
  show sibs S d (S 3 d m) (m + 1) ++ aftF S d _ (S 3 d m) = _ ++ (sibs S d (S 3 d c) (c + 1) ++ aftF S d _ (S 3 d c))
  rw [c2, sibs_first c0 c1 c2 c3, List.append_assoc]
theorem aft_up {S : ZT} {d top m : Int} (h : TOK S d) (h0 : 0 < m) (h1 : m < S 2 d 4) (ht : S 4 d top < S 4 d m) (c3 : ∀ j, m + 1 ≤ j → j < S 2 d 4 → S 3 d j ≠ S 3 d m) : aft S d top m = aft S d top (S 3 d m) := by
  have a := (h.at (by omega : 0 ≤ m) h1).2.2.2 h0
  unfold aft
  rw [show (S 4 d m - S 4 d top).toNat = (S 4 d (S 3 d m) - S 4 d top).toNat + 1 by omega]
  show sibs S d (S 3 d m) (m + 1) ++ aftF S d _ (S 3 d m) = _
  rw [sibs_nil c3]
  rfl
theorem aft_top {S : ZT} {d top : Int} : aft S d top top = [] := by
  unfold aft
  rw [Int.sub_self]; rfl
/-! the same tree in another memory -/
def TE (Y Z : ZT) (d : Int) : Prop := Y 2 d = Z 2 d ∧ Y 3 d = Z 3 d ∧ Y 4 d = Z 4 d ∧ Y 5 d = Z 5 d
theorem TE.rf (Z : ZT) (d : Int) : TE Z Z d := ⟨rfl, rfl, rfl, rfl⟩
theorem TE.sym {Y Z : ZT} {d : Int} (h : TE Y Z d) : TE Z Y d := ⟨h.1.symm, h.2.1.symm, h.2.2.1.symm, h.2.2.2.symm⟩
theorem TE.of {S Z : ZT} (h : SP S Z) (d : Int) : TE Z S d := ⟨congrFun (h.1 2 rfl) d, congrFun (h.1 3 rfl) d, congrFun (h.1 4 rfl) d, congrFun (h.1 5 rfl) d⟩
theorem TE.ok {Y Z : ZT} {d : Int} (h : TE Y Z d) (t : TOK Z d) : TOK Y d := by
  unfold TOK MOK at *
  rw [h.1, h.2.1, h.2.2.1, h.2.2.2]
  exact t
theorem TE.e_bel {Y Z : ZT} {d : Int} (h : TE Y Z d) (m a : Int) : bel Y d m a ↔ bel Z d m a := by
  unfold bel
  rw [h.2.1, h.2.2.1]
theorem TE.e_abv {Y Z : ZT} {d : Int} (h : TE Y Z d) (m a : Int) : abv Y d m a = abv Z d m a := by
  unfold abv
  rw [h.2.1, h.2.2.1]
theorem TE.e_pre {Y Z : ZT} {d : Int} (h : TE Y Z d) : pre Y d = pre Z d := by
  funext m
  unfold pre
  rw [h.1, h.2.1, h.2.2.1]
theorem TE.e_sibs {Y Z : ZT} {d : Int} (h : TE Y Z d) (p st : Int) : sibs Y d p st = sibs Z d p st := by
  unfold sibs
  rw [h.e_pre, h.1, h.2.1]
theorem TE.e_aft {Y Z : ZT} {d : Int} (h : TE Y Z d) (top m : Int) : aft Y d top m = aft Z d top m := by
  have key : ∀ (n : Nat) (m : Int), aftF Y d n m = aftF Z d n m := by
    intro n
    induction n with
    | zero => intro m; rfl
    | succ n ih =>
      intro m
      show _ ++ _ = _ ++ _
      rw [h.e_sibs, h.2.1, ih]
  unfold aft
  rw [key, h.2.2.1]
theorem TE.e_nxt {Y Z : ZT} {d : Int} (h : TE Y Z d) (top m : Int) : nxt Y d top m = nxt Z d top m := by
  unfold nxt
  rw [h.e_sibs, h.e_aft]
theorem TE.e_wk {Y Z : ZT} {d : Int} (h : TE Y Z d) (top lv : Int) : wk Y d top lv = wk Z d top lv := by
  unfold wk
  rw [h.e_pre, h.2.2.1]
theorem TE.e_seenT {Y Z : ZT} {d : Int} (h : TE Y Z d) (m : Int) : seenT Y d m ↔ seenT Z d m := by
  unfold seenT
  rw [h.1, h.2.2.2]
  constructor
  · exact fun q => ⟨(h.e_bel _ _).mp q.1, fun a a0 a1 a2 a3 => q.2 a a0 a1 a2 ((h.e_bel _ _).mpr a3)⟩
  · exact fun q => ⟨(h.e_bel _ _).mpr q.1, fun a a0 a1 a2 a3 => q.2 a a0 a1 a2 ((h.e_bel _ _).mp a3)⟩
/-- a list of members, in its places -/
def LST (Z : ZT) (i : Int) (W : List Int) : Prop := Z 16 i 1 = W.length ∧ ∀ j : Nat, j < W.length → W[j]? = some (Z 17 i j)
theorem wk_in {S : ZT} {d top lv x : Int} (h : TOK S d) (h0 : 0 ≤ top) (h1 : top < S 2 d 4) (hx : x ∈ wk S d top lv) : (0 ≤ x ∧ x < S 2 d 4) ∧ bel S d x top ∧ S 4 d x = lv := by
  obtain ⟨a, b⟩ := List.mem_filter.mp hx
  have := pre_mem h h0 h1 a
  exact ⟨this.1, this.2, of_decide_eq_true b⟩
theorem wk_len {S : ZT} {d top : Int} (lv : Int) (h : TOK S d) (h0 : 0 ≤ top) (h1 : top < S 2 d 4) : ((wk S d top lv).length : Int) ≤ S 2 d 4 := by
  have := pre_len h h0 h1
  have := List.length_filter_le (fun x => decide (S 4 d x = lv)) (pre S d top)
  unfold wk
  omega
theorem suf_pre {S : ZT} {d top m : Int} (h : TOK S d) (h0 : 0 ≤ m) (h1 : m < S 2 d 4) : pre S d m ++ aft S d top m = m :: nxt S d top m := by
  rw [pre_unf h h0 h1]
  rfl
