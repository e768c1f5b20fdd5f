/-! a tree's walk has all that is beneath its top -/
theorem sibG_in {par : Int → Int} {f : Int → List Int} {p x : Int} : ∀ (n : Nat) (k j : Int), k ≤ j → j < k + n → par j = p → x ∈ f j → x ∈ sibG par f p n k
  | 0, k, j, h0, h1, _, _ => by omega
  | n + 1, k, j, h0, h1, h2, h3 => by
    show x ∈ _ ++ _
    by_cases e : k = j
    · subst e
      rw [if_pos h2]
      exact List.mem_append_left _ h3
    · exact List.mem_append_right _ (sibG_in n (k + 1) j (by omega) (by omega) h2 h3)
theorem pre_all {S : ZT} {d : Int} (h : TOK S d) : ∀ (n : Nat) (m x : Int), 0 ≤ m → m < S 2 d 4 → 0 ≤ x → x < S 2 d 4 → bel S d x m → S 4 d x - S 4 d m = n → x ∈ pre S d m
  | 0, m, x, m0, m1, x0, x1, hb, hn => by
    have e : x = m := by
      have := hb.2
      rw [show (S 4 d x - S 4 d m).toNat = 0 by omega] at this
      exact this
    rw [pre_unf h m0 m1, e]
    exact List.mem_cons_self
  | n + 1, m, x, m0, m1, x0, x1, hb, hn => by
    have hm := (h.at m0 m1).1
    have hc := anc_dep h n x x0 x1 (by omega)
    have hp : S 3 d (ancF (S 3 d) n x) = m := by
      have e := hb.2
      rw [show (S 4 d x - S 4 d m).toNat = n + 1 by omega, ancF_add] at e
      exact e
    have hbc : bel S d x (ancF (S 3 d) n x) := ⟨by omega, by rw [show (S 4 d x - S 4 d (ancF (S 3 d) n x)).toNat = n by omega]⟩
    have ih := pre_all h n (ancF (S 3 d) n x) x hc.1 hc.2.1 x0 x1 hbc (by omega)
    rw [pre_unf h m0 m1]
    exact List.mem_cons_of_mem _ (sibG_in _ _ _ hc.1 (by omega) hp ih)
theorem bel_root {S : ZT} {d x : Int} (h : TOK S d) (x0 : 0 ≤ x) (x1 : x < S 2 d 4) : bel S d x 0 := by
  have h1 := h.1
  have hm := h.at (m := 0) (by omega) (by omega)
  have hx := h.at x0 x1
  unfold MOK at hm hx
  have e0 : S 4 d 0 = 0 := hm.2.2.1.mpr rfl
  have ha := anc_dep h (S 4 d x).toNat x x0 x1 (by omega)
  have hz := h.at ha.1 ha.2.1
  unfold MOK at hz
  refine ⟨by omega, ?_⟩
  rw [e0, Int.sub_zero]
  exact hz.2.2.1.mp (by omega)
theorem wk_all {S : ZT} {d m x lv : Int} (h : TOK S d) (m0 : 0 ≤ m) (m1 : m < S 2 d 4) (x0 : 0 ≤ x) (x1 : x < S 2 d 4) (hb : bel S d x m) (hl : S 4 d x = lv) : x ∈ wk S d m lv :=
  List.mem_filter.mpr ⟨pre_all h (S 4 d x - S 4 d m).toNat m x m0 m1 x0 x1 hb (by have := hb.1; omega), decide_eq_true hl⟩
/-- a row of the World's tree; a leaf is there -/
def DR (Z : ZT) (d : Int) (Wd Wm : List Int) (P : Int → List Int) : Prop := Wd.getD d.toNat 0 = Z 2 d 3 ∧ Wm.getD d.toNat 0 = Z 2 d 4 ∧ ∀ m, 0 < m → m < Z 2 d 4 → (P d).getD m.toNat 0 = Z 3 d m
def LX (Z : ZT) (d : Int) : Prop := ∃ x, 0 ≤ x ∧ x < Z 2 d 4 ∧ Z 4 d x = Z 2 d 3
theorem LX.wk {Z : ZT} {d : Int} (h : LX Z d) (hT : TOK Z d) : 0 < (wk Z d 0 (Z 2 d 3)).length := by
  obtain ⟨x, x0, x1, x2⟩ := h
  have h1 := hT.1
  exact List.length_pos_of_mem (wk_all hT (by omega) (by omega) x0 x1 (bel_root hT x0 x1) x2)
/-- the dimensions ahead of j are told -/
def CO (Z : ZT) (j : Int) (Wd Wm : List Int) (P : Int → List Int) : Prop := ∀ d, 0 ≤ d → d < j → DR Z d Wd Wm P ∧ LX Z d
theorem DR.st {Z : ZT} {d i v w : Int} {Wd Wm : List Int} {P : Int → List Int} (h : DR Z d Wd Wm P) (hd : 0 ≤ d) (hi : 0 ≤ i) (hne : d ≠ i) : DR Z d (Wd.set i.toNat v) (Wm.set i.toNat w) P := by
  obtain ⟨h1, h2, h3⟩ := h
  refine ⟨?_, ?_, h3⟩
  · rw [getD_set_n (by omega)]; exact h1
  · rw [getD_set_n (by omega)]; exact h2
theorem DR.sm {Z : ZT} {d i w : Int} {Wd Wm : List Int} {P : Int → List Int} (h : DR Z d Wd Wm P) (hd : 0 ≤ d) (hi : 0 ≤ i) (hne : d ≠ i) : DR Z d Wd (Wm.set i.toNat w) P := by
  obtain ⟨h1, h2, h3⟩ := h
  refine ⟨h1, ?_, h3⟩
  rw [getD_set_n (by omega)]; exact h2
theorem DR.sr {Z : ZT} {d i : Int} {V : List Int} {Wd Wm : List Int} {P : Int → List Int} (h : DR Z d Wd Wm P) (hne : d ≠ i) : DR Z d Wd Wm (fun q => if q = i then V else P q) := by
  obtain ⟨h1, h2, h3⟩ := h
  refine ⟨h1, h2, ?_⟩
  dsimp only
  rw [if_neg hne]
  exact h3
/-- another dimension's tree stays -/
theorem DR.z {Z Z1 : ZT} {d : Int} {Wd Wm : List Int} {P : Int → List Int} (h : DR Z d Wd Wm P) (e2 : Z1 2 d 3 = Z 2 d 3 ∧ Z1 2 d 4 = Z 2 d 4) (e3 : ∀ m, 0 < m → m < Z 2 d 4 → Z1 3 d m = Z 3 d m) : DR Z1 d Wd Wm P := by
  obtain ⟨h1, h2, h3⟩ := h
  refine ⟨by rw [e2.1]; exact h1, by rw [e2.2]; exact h2, fun m m0 m1 => ?_⟩
  rw [e2.2] at m1
  rw [e3 m m0 m1]
  exact h3 m m0 m1
theorem LX.z {Z Z1 : ZT} {d : Int} (h : LX Z d) (e2 : Z1 2 d 3 = Z 2 d 3 ∧ Z 2 d 4 ≤ Z1 2 d 4) (e4 : ∀ m, 0 ≤ m → m < Z 2 d 4 → Z1 4 d m = Z 4 d m) : LX Z1 d := by
  obtain ⟨x, x0, x1, x2⟩ := h
  exact ⟨x, x0, by omega, by rw [e4 x x0 x1, e2.1]; exact x2⟩
