theorem dX7_fill_0 : decode cX7_fill 0 = .ok (.iconst 0, 1) := by decide +kernel
theorem dX7_fill_1 : decode cX7_fill 1 = .ok (.istore 4, 2) := by decide +kernel
theorem dX7_fill_3 : decode cX7_fill 3 = .ok (.iload 4, 2) := by decide +kernel
theorem dX7_fill_5 : decode cX7_fill 5 = .ok (.iload_n 3, 1) := by decide +kernel
theorem dX7_fill_6 : decode cX7_fill 6 = .ok (.if_icmp .ge 172, 3) := by decide +kernel
theorem dX7_fill_9 : decode cX7_fill 9 = .ok (.aload_n 2, 1) := by decide +kernel
theorem dX7_fill_10 : decode cX7_fill 10 = .ok (.bipush 16, 2) := by decide +kernel
theorem dX7_fill_12 : decode cX7_fill 12 = .ok (.iload 4, 2) := by decide +kernel
theorem dX7_fill_14 : decode cX7_fill 14 = .ok (.bipush 12, 2) := by decide +kernel
theorem dX7_fill_16 : decode cX7_fill 16 = .ok (.irem, 1) := by decide +kernel
theorem dX7_fill_17 : decode cX7_fill 17 = .ok (.iadd, 1) := by decide +kernel
theorem dX7_fill_18 : decode cX7_fill 18 = .ok (.invokestatic 40, 3) := by decide +kernel
theorem dX7_fill_21 : decode cX7_fill 21 = .ok (.iload 4, 2) := by decide +kernel
theorem dX7_fill_23 : decode cX7_fill 23 = .ok (.bipush 12, 2) := by decide +kernel
theorem dX7_fill_25 : decode cX7_fill 25 = .ok (.idiv, 1) := by decide +kernel
theorem dX7_fill_26 : decode cX7_fill 26 = .ok (.iconst 4, 1) := by decide +kernel
theorem dX7_fill_27 : decode cX7_fill 27 = .ok (.imul, 1) := by decide +kernel
theorem dX7_fill_28 : decode cX7_fill 28 = .ok (.ishr, 1) := by decide +kernel
theorem dX7_fill_29 : decode cX7_fill 29 = .ok (.istore 5, 2) := by decide +kernel
theorem dX7_fill_31 : decode cX7_fill 31 = .ok (.aload_n 0, 1) := by decide +kernel
theorem dX7_fill_32 : decode cX7_fill 32 = .ok (.getfield 18, 3) := by decide +kernel
theorem dX7_fill_35 : decode cX7_fill 35 = .ok (.newarray .int, 2) := by decide +kernel
theorem dX7_fill_37 : decode cX7_fill 37 = .ok (.astore 6, 2) := by decide +kernel
theorem dX7_fill_39 : decode cX7_fill 39 = .ok (.iconst 0, 1) := by decide +kernel
theorem dX7_fill_40 : decode cX7_fill 40 = .ok (.istore 7, 2) := by decide +kernel
theorem dX7_fill_42 : decode cX7_fill 42 = .ok (.iload 7, 2) := by decide +kernel
theorem dX7_fill_44 : decode cX7_fill 44 = .ok (.aload_n 0, 1) := by decide +kernel
theorem dX7_fill_45 : decode cX7_fill 45 = .ok (.getfield 18, 3) := by decide +kernel
theorem dX7_fill_48 : decode cX7_fill 48 = .ok (.if_icmp .ge 68, 3) := by decide +kernel
theorem dX7_fill_51 : decode cX7_fill 51 = .ok (.aload_n 0, 1) := by decide +kernel
theorem dX7_fill_52 : decode cX7_fill 52 = .ok (.iload 7, 2) := by decide +kernel
theorem dX7_fill_54 : decode cX7_fill 54 = .ok (.iconst 0, 1) := by decide +kernel
theorem dX7_fill_55 : decode cX7_fill 55 = .ok (.aload_n 0, 1) := by decide +kernel
theorem dX7_fill_56 : decode cX7_fill 56 = .ok (.getfield 22, 3) := by decide +kernel
theorem dX7_fill_59 : decode cX7_fill 59 = .ok (.iload 7, 2) := by decide +kernel
theorem dX7_fill_61 : decode cX7_fill 61 = .ok (.iaload, 1) := by decide +kernel
theorem dX7_fill_62 : decode cX7_fill 62 = .ok (.invokevirtual 79, 3) := by decide +kernel
theorem dX7_fill_65 : decode cX7_fill 65 = .ok (.astore 8, 2) := by decide +kernel
theorem dX7_fill_67 : decode cX7_fill 67 = .ok (.aload 6, 2) := by decide +kernel
theorem dX7_fill_69 : decode cX7_fill 69 = .ok (.iload 7, 2) := by decide +kernel
theorem dX7_fill_71 : decode cX7_fill 71 = .ok (.aload 8, 2) := by decide +kernel
theorem dX7_fill_73 : decode cX7_fill 73 = .ok (.iload 5, 2) := by decide +kernel
theorem dX7_fill_75 : decode cX7_fill 75 = .ok (.iconst 3, 1) := by decide +kernel
theorem dX7_fill_76 : decode cX7_fill 76 = .ok (.iload 7, 2) := by decide +kernel
theorem dX7_fill_78 : decode cX7_fill 78 = .ok (.imul, 1) := by decide +kernel
theorem dX7_fill_79 : decode cX7_fill 79 = .ok (.ishr, 1) := by decide +kernel
theorem dX7_fill_80 : decode cX7_fill 80 = .ok (.aload 8, 2) := by decide +kernel
theorem dX7_fill_82 : decode cX7_fill 82 = .ok (.invokevirtual 87, 3) := by decide +kernel
theorem dX7_fill_85 : decode cX7_fill 85 = .ok (.invokestatic 46, 3) := by decide +kernel
theorem dX7_fill_88 : decode cX7_fill 88 = .ok (.invokevirtual 91, 3) := by decide +kernel
theorem dX7_fill_91 : decode cX7_fill 91 = .ok (.checkcast 70, 3) := by decide +kernel
theorem dX7_fill_94 : decode cX7_fill 94 = .ok (.invokevirtual 95, 3) := by decide +kernel
theorem dX7_fill_97 : decode cX7_fill 97 = .ok (.iastore, 1) := by decide +kernel
theorem dX7_fill_98 : decode cX7_fill 98 = .ok (.aload_n 1, 1) := by decide +kernel
theorem dX7_fill_99 : decode cX7_fill 99 = .ok (.iload 7, 2) := by decide +kernel
theorem dX7_fill_101 : decode cX7_fill 101 = .ok (.aload 6, 2) := by decide +kernel
theorem dX7_fill_103 : decode cX7_fill 103 = .ok (.iload 7, 2) := by decide +kernel
theorem dX7_fill_105 : decode cX7_fill 105 = .ok (.iaload, 1) := by decide +kernel
theorem dX7_fill_106 : decode cX7_fill 106 = .ok (.invokevirtual 98, 3) := by decide +kernel
theorem dX7_fill_109 : decode cX7_fill 109 = .ok (.pop, 1) := by decide +kernel
theorem dX7_fill_110 : decode cX7_fill 110 = .ok (.iinc 7 1, 3) := by decide +kernel
theorem dX7_fill_113 : decode cX7_fill 113 = .ok (.goto (-71), 3) := by decide +kernel
theorem dX7_fill_116 : decode cX7_fill 116 = .ok (.aload_n 0, 1) := by decide +kernel
theorem dX7_fill_117 : decode cX7_fill 117 = .ok (.getfield 9, 3) := by decide +kernel
theorem dX7_fill_120 : decode cX7_fill 120 = .ok (.aload_n 0, 1) := by decide +kernel
theorem dX7_fill_121 : decode cX7_fill 121 = .ok (.getfield 101, 3) := by decide +kernel
theorem dX7_fill_124 : decode cX7_fill 124 = .ok (.aload 6, 2) := by decide +kernel
theorem dX7_fill_126 : decode cX7_fill 126 = .ok (.aastore, 1) := by decide +kernel
theorem dX7_fill_127 : decode cX7_fill 127 = .ok (.aload_n 0, 1) := by decide +kernel
theorem dX7_fill_128 : decode cX7_fill 128 = .ok (.getfield 15, 3) := by decide +kernel
theorem dX7_fill_131 : decode cX7_fill 131 = .ok (.aload_n 0, 1) := by decide +kernel
theorem dX7_fill_132 : decode cX7_fill 132 = .ok (.getfield 101, 3) := by decide +kernel
theorem dX7_fill_135 : decode cX7_fill 135 = .ok (.iload 5, 2) := by decide +kernel
theorem dX7_fill_137 : decode cX7_fill 137 = .ok (.iconst 2, 1) := by decide +kernel
theorem dX7_fill_138 : decode cX7_fill 138 = .ok (.ishr, 1) := by decide +kernel
theorem dX7_fill_139 : decode cX7_fill 139 = .ok (.bipush 41, 2) := by decide +kernel
theorem dX7_fill_141 : decode cX7_fill 141 = .ok (.invokestatic 46, 3) := by decide +kernel
theorem dX7_fill_144 : decode cX7_fill 144 = .ok (.bipush 12, 2) := by decide +kernel
theorem dX7_fill_146 : decode cX7_fill 146 = .ok (.isub, 1) := by decide +kernel
theorem dX7_fill_147 : decode cX7_fill 147 = .ok (.iastore, 1) := by decide +kernel
theorem dX7_fill_148 : decode cX7_fill 148 = .ok (.aload_n 1, 1) := by decide +kernel
theorem dX7_fill_149 : decode cX7_fill 149 = .ok (.aload_n 0, 1) := by decide +kernel
theorem dX7_fill_150 : decode cX7_fill 150 = .ok (.getfield 15, 3) := by decide +kernel
theorem dX7_fill_153 : decode cX7_fill 153 = .ok (.aload_n 0, 1) := by decide +kernel
theorem dX7_fill_154 : decode cX7_fill 154 = .ok (.getfield 101, 3) := by decide +kernel
theorem dX7_fill_157 : decode cX7_fill 157 = .ok (.iaload, 1) := by decide +kernel
theorem dX7_fill_158 : decode cX7_fill 158 = .ok (.invokevirtual 104, 3) := by decide +kernel
theorem dX7_fill_161 : decode cX7_fill 161 = .ok (.pop, 1) := by decide +kernel
theorem dX7_fill_162 : decode cX7_fill 162 = .ok (.aload_n 0, 1) := by decide +kernel
theorem dX7_fill_163 : decode cX7_fill 163 = .ok (.dup, 1) := by decide +kernel
theorem dX7_fill_164 : decode cX7_fill 164 = .ok (.getfield 101, 3) := by decide +kernel
theorem dX7_fill_167 : decode cX7_fill 167 = .ok (.iconst 1, 1) := by decide +kernel
theorem dX7_fill_168 : decode cX7_fill 168 = .ok (.iadd, 1) := by decide +kernel
theorem dX7_fill_169 : decode cX7_fill 169 = .ok (.putfield 101, 3) := by decide +kernel
theorem dX7_fill_172 : decode cX7_fill 172 = .ok (.iinc 4 1, 3) := by decide +kernel
theorem dX7_fill_175 : decode cX7_fill 175 = .ok (.goto (-172), 3) := by decide +kernel
theorem dX7_fill_178 : decode cX7_fill 178 = .ok (.iconst 0, 1) := by decide +kernel
theorem dX7_fill_179 : decode cX7_fill 179 = .ok (.istore 4, 2) := by decide +kernel
theorem dX7_fill_181 : decode cX7_fill 181 = .ok (.iload 4, 2) := by decide +kernel
theorem dX7_fill_183 : decode cX7_fill 183 = .ok (.aload_n 0, 1) := by decide +kernel
theorem dX7_fill_184 : decode cX7_fill 184 = .ok (.getfield 18, 3) := by decide +kernel
theorem dX7_fill_187 : decode cX7_fill 187 = .ok (.if_icmp .ge 23, 3) := by decide +kernel
theorem dX7_fill_190 : decode cX7_fill 190 = .ok (.aload_n 1, 1) := by decide +kernel
theorem dX7_fill_191 : decode cX7_fill 191 = .ok (.iload 4, 2) := by decide +kernel
theorem dX7_fill_193 : decode cX7_fill 193 = .ok (.aload_n 0, 1) := by decide +kernel
theorem dX7_fill_194 : decode cX7_fill 194 = .ok (.getfield 37, 3) := by decide +kernel
theorem dX7_fill_197 : decode cX7_fill 197 = .ok (.iload 4, 2) := by decide +kernel
theorem dX7_fill_199 : decode cX7_fill 199 = .ok (.iaload, 1) := by decide +kernel
theorem dX7_fill_200 : decode cX7_fill 200 = .ok (.invokevirtual 98, 3) := by decide +kernel
theorem dX7_fill_203 : decode cX7_fill 203 = .ok (.pop, 1) := by decide +kernel
theorem dX7_fill_204 : decode cX7_fill 204 = .ok (.iinc 4 1, 3) := by decide +kernel
theorem dX7_fill_207 : decode cX7_fill 207 = .ok (.goto (-26), 3) := by decide +kernel
theorem dX7_fill_210 : decode cX7_fill 210 = .ok (.return_, 1) := by decide +kernel
/-! by program: wip/whole/gen.py out of wip/whole/src/34.fill.eb -/
/-! the World's fill: facts at leaves -/
theorem c_X7_on {l : Launch} {D : va_G} {cys : Nat → ClassId} {ad : Nat → Int → Nat} {X : Int64} {Z : ZT} (hi : injA ad) {S : ZT} {aw : Nat} {d lv : Int} (hT : TOK S d) (hlv : 0 ≤ lv ∧ lv ≤ 3) : ∀ (n : Nat) (q : Int) (L : List Nat) (g : Nat → va_E), 0 ≤ q → q < S 2 d 4 → 3 - S 4 d q ≤ n → DPW cys ad L g S aw d → CM l D cys ad yX7_on cX7_on 6 (some (.object "java/util/ArrayList")) (8 + (n + 1)) (200 + 25 * (n + 1)) (5 * (pre S d q).length - 3) (130 * (pre S d q).length - 85) [.ref aw, .int (iI d), .int (iI q), .int (iI lv)] L g X Z (PGA L g X Z (fun r L9 g9 X9 Z9 => ALS cys ad L L9 g9 r (wk S d q lv) ∧ EXT L g L9 g9 ∧ X9 = X ∧ Z9 = Z)) := by
  intro n
  have hT1 := hT.1
  induction n with
  | zero =>
    intro q L g q0 q1 q2 hD
    refine c_X7_on_s (n := 0) hi hD hT ⟨q0, q1⟩ hlv (fun w L1 g1 w0 w1 w2 hD1 => ?_)
    have := (hT.at w0 w1).2.1
    omega
  | succ n ih =>
    intro q L g q0 q1 q2 hD
    exact c_X7_on_s (n := n + 1) hi hD hT ⟨q0, q1⟩ hlv (fun w L1 g1 w0 w1 w2 hD1 => ih w L1 g1 w0 w1 (by omega) hD1)
/-- the trees are those of Z -/
def TS (Z Z1 : ZT) : Prop := Z1 0 0 5 = Z 0 0 5 ∧ (∀ d, Z1 2 d 3 = Z 2 d 3 ∧ Z1 2 d 4 = Z 2 d 4) ∧ Z1 3 = Z 3 ∧ Z1 4 = Z 4
def FI (Z : ZT) (k : Int) (Z1 : ZT) : Prop := WG Z1 ∧ TS Z Z1 ∧ Z1 6 0 3 = k ∧ Z1 11 0 3 = 0
theorem FI.goTo {Z Z1 Z2 : ZT} {k d m : Int} (h : FI Z k Z1) (hM : M_goTo Z1 d m Z2) (d1 : d < Z1 0 0 5) (m0 : 0 ≤ m) (m1 : m < Z1 2 d 4) : FI Z k Z2 := by
  obtain ⟨h1, ⟨h2, h3, h4, h5⟩, h6, h7⟩ := h
  have hF := hM.1.1
  have e0 := hF 0 rfl (by decide)
  have e3 := hF 3 rfl (by decide)
  have e4 := hF 4 rfl (by decide)
  have e6 := hF 6 rfl (by decide)
  have e11 := hF 11 rfl (by decide)
  refine ⟨h1.goTo hM d1 m0 m1, ⟨by rw [e0]; exact h2, fun i => ?_, by rw [e3]; exact h4, by rw [e4]; exact h5⟩, by rw [e6]; exact h6, by rw [e11]; exact h7⟩
  rw [hM.2, hM.2, if_neg (by omega), if_neg (by omega)]
  exact h3 i
theorem FI.add {Z Z1 Z2 : ZT} {k v : Int} (h : FI Z k Z1) (hM : M_add Z1 v Z2) (v0 : -10000 ≤ v) (v1 : v ≤ 10000) (hl : ∀ d, 0 ≤ d → d < Z1 0 0 5 → Z1 4 d (Z1 2 d 5) = Z1 2 d 3) (hf : Z1 6 0 3 < 80) : FI Z (k + 1) Z2 := by
  obtain ⟨h1, ⟨h2, h3, h4, h5⟩, h6, h7⟩ := h
  have hF := hM.1.1
  have e0 := hF 0 rfl (by decide)
  have e2 := hF 2 rfl (by decide)
  have e3 := hF 3 rfl (by decide)
  have e4 := hF 4 rfl (by decide)
  have e11 := hF 11 rfl (by decide)
  exact ⟨h1.add hM v0 v1 hl hf, ⟨by rw [e0]; exact h2, fun i => by rw [e2]; exact h3 i, by rw [e3]; exact h4, by rw [e4]; exact h5⟩, by rw [hM.2.1, h6], by rw [e11]; exact h7⟩
/-- what is left of the World behind its making -/
def WRX (cys : Nat → ClassId) (ad : Nat → Int → Nat) (L : List Nat) (g : Nat → va_E) (aw : Nat) (n : Int) (Wd : List Int) : Prop := ∃ (dp : Nat) (v2 v3 v4 v5 v6 v7 v8 : Value), OB ad L g aw 7 [.int (iI n), .ref dp, v2, v3, v4, v5, v6, v7, v8] ∧ AR cys ad L g dp Wd ∧ Wd.length = n.toNat
theorem WMX.wr {cys : Nat → ClassId} {ad : Nat → Int → Nat} {L : List Nat} {g : Nat → va_E} {aw : Nat} {n nf : Int} {dp mb pa io pt lf va : Nat} {rw : Int → Nat} {f8 : Nat → Option Nat} {Wd Wm Wt V9 : List Int} {P : Int → List Int} (h : WMX cys ad L g aw n nf dp mb pa io pt lf va rw f8 Wd Wm Wt V9 P) : WRX cys ad L g aw n Wd := ⟨dp, _, _, _, _, _, _, _, h.o, h.d, h.len.1⟩
theorem WMX.dpw {cys : Nat → ClassId} {ad : Nat → Int → Nat} {L : List Nat} {g : Nat → va_E} {aw : Nat} {n nf : Int} {dp mb pa io pt lf va : Nat} {rw : Int → Nat} {f8 : Nat → Option Nat} {Wd Wm Wt V9 : List Int} {P : Int → List Int} {S : ZT} {d : Int} (h : WMX cys ad L g aw n nf dp mb pa io pt lf va rw f8 Wd Wm Wt V9 P) (d0 : 0 ≤ d) (d1 : d < n) (hm : Wm.getD d.toNat 0 = S 2 d 4) (hP : ∀ m, 0 < m → m < S 2 d 4 → (P d).getD m.toNat 0 = S 3 d m) : DPW cys ad L g S aw d := by
  obtain ⟨f9, p1, p2⟩ := h.p
  have hl := h.len
  exact ⟨_, pa, n.toNat, rw d, mb, f9, P d, Wm, h.o, rfl, rfl, p1, ⟨d0, by omega, by omega⟩, p2 d d0 d1, (h.r d0 d1).1, (h.r d0 d1).2, hP, h.m, hl.2.1, hm⟩
theorem getD_set_s {W : List Int} {j : Nat} {v : Int} (h : j < W.length) : (W.set j v).getD j 0 = v := by
  rw [List.getD_eq_getElem?_getD, List.getElem?_set_self h]; rfl
theorem getD_set_n {W : List Int} {i j : Nat} {v : Int} (h : i ≠ j) : (W.set j v).getD i 0 = W.getD i 0 := by
  rw [List.getD_eq_getElem?_getD, List.getD_eq_getElem?_getD, List.getElem?_set_ne (Ne.symm h)]
set_option maxRecDepth 100000 in
set_option maxHeartbeats 8000000 in
theorem c_X7_fill {l : Launch} {D : va_G} {cys : Nat → ClassId} {ad : Nat → Int → Nat} {L : List Nat} {g : Nat → va_E} {X : Int64} {Z : ZT} (hi : injA ad) {aw dp mb pa io pt lf va : Nat} {n q : Int} {rw : Int → Nat} {f8 : Nat → Option Nat} {Wd Wm Wt V9 : List Int} {P : Int → List Int} (hst : l.stackTraces = false) (hw : WMX cys ad L g aw n 0 dp mb pa io pt lf va rw f8 Wd Wm Wt V9 P) (hFI : FI Z 0 Z) (hn : Z 0 0 5 = n) (hTR : TRW Z n Wd Wm P) (hWt : ∀ d, 0 ≤ d → d < n → Wt.getD d.toNat 0 = 0) (hlf : ∀ d, 0 ≤ d → d < n → 0 < (wk Z d 0 (Z 2 d 3)).length) (hq : 0 ≤ q ∧ q ≤ 29) (hL2 : ad 40 1 < 1000) : CM l D cys ad yX7_fill cX7_fill 9 none 14 330 10600 269000 [.ref aw, .ref (ad 0 0), .ref (ad 40 0), .int (iI q)] L g X Z (PGV L g X Z (fun L9 g9 X9 Z9 => (∃ k, FI Z k Z9) ∧ WRX cys ad L9 g9 aw n Wd ∧ X9 = X)) := by
  refine cm_start hi (by decide +kernel) (Nat.le_of_ble_eq_true rfl) ?_
  intro p_ e_ s_ m_ args_ below_ meth_ c_ A_ Q_ hQ G hr hin
  have hlen := hw.len
  have hWF := hFI.1.1
  have fin : ∀ (nn : Nat) (j : Int) (L1 : List Nat) (g1 : Nat → va_E) (Z1 : ZT) (k nf : Int) (f8 : Nat → Option Nat) (V9 : List Int) (cells slots : Nat), (n - j).toNat = nn → 0 ≤ j → j ≤ n → WMX cys ad L1 g1 aw n nf dp mb pa io pt lf va rw f8 Wd Wm Wt V9 P → FI Z k Z1 → cells + 2 * nn ≤ 10600 → slots + 12 * nn ≤ 269000 → JJ p_ l e_ { frames := 14, cells := 10600, slots := 269000, locals := 330 } s_ m_ args_ below_ meth_ c_ D cys ad A_ Q_ 9 cells slots L1 g1 X Z1 181 [(0, .ref aw), (1, .ref (ad 0 0)), (2, .ref (ad 40 0)), (3, .int (iI q)), (4, .int (iI j))] [] := by
    intro nn
    induction nn with
    | zero =>
      intro j L1 g1 Z1 k nf f8 V9 cells slots hnn j0 j1 hw hF hc hs
      refine j_iload G dX7_fill_181 rfl ?_
      refine j_aload_n G dX7_fill_183 rfl ?_
      refine jo_get G 0 hw.o dX7_fill_184 rfl rfl (by decide) lf7_18 (Or.inl rfl) inT7 ?_
      refine j_icmp_ge G 210 dX7_fill_187 (by decide) (by omega) (by omega) (fun c187 => ?_) (fun c187 => ?_)
      · refine jr_GV G hQ hr dX7_fill_210 (by first | decide | omega) (by first | decide | omega) ?_
        exact ⟨⟨k, hF⟩, hw.wr, rfl⟩
      · exfalso; omega
    | succ nn ih =>
      intro j L1 g1 Z1 k nf f8 V9 cells slots hnn j0 j1 hw hF hc hs
      have hwt := hw.t
      have hF1 := hF.2.1
      have hg : 0 ≤ j ∧ j < Z1 0 0 5 := by rw [hF1.1]; omega
      have hT1 := (hF.1.1.t hg.1 hg.2).1
      have h0 : inR 0 := by decide
      have hjr : inR j := by omega
      refine j_iload G dX7_fill_181 rfl ?_
      refine j_aload_n G dX7_fill_183 rfl ?_
      refine jo_get G 0 hw.o dX7_fill_184 rfl rfl (by decide) lf7_18 (Or.inl rfl) inT7 ?_
      refine j_icmp_ge G 210 dX7_fill_187 (by decide) (by omega) (by omega) (fun c187 => ?_) (fun c187 => ?_)
      · exfalso; omega
      · refine j_aload_n G dX7_fill_190 rfl ?_
        refine j_iload G dX7_fill_191 rfl ?_
        refine j_aload_n G dX7_fill_193 rfl ?_
        refine jo_get G 5 hw.o dX7_fill_194 rfl rfl (by decide) lf7_37 (Or.inl rfl) inT7 ?_
        refine j_iload G dX7_fill_197 rfl ?_
        refine j_dlA G dX7_fill_199 hwt (by first | omega | decide) (by omega) (by omega) ?_
        rw [hWt j j0 (by omega)]
        refine j_cW_IZ G cvX6_goTo ml7_98 (cm_of (c_X6_goTo hi hst (SP.rf Z1) hF.1.1 hjr h0) (by intro E9 L9 g9 X9 Z9 hx9; have hx9 := hx9.1; omega)) dX7_fill_200 (by first | exact ⟨by decide, by decide⟩ | (constructor <;> dsimp only <;> omega)) (by first | exact ⟨by decide, by decide⟩ | (constructor <;> dsimp only <;> omega)) rfl rfl (Nat.le_of_ble_eq_true rfl) (by first | assumption | decide) rfl rfl rfl (fun r200 Z200 h200 => ?_)
        refine j_pop G dX7_fill_203 rfl ?_
        refine j_iinc G dX7_fill_204 rfl (by decide) rfl ?_
        refine j_goto G 181 dX7_fill_207 (by decide) ?_
        obtain ⟨-, -, hM⟩ := h200
        refine j_keep [0, 1, 2, 3, 4] ?_
        exact ih (j + 1) L1 g1 Z200 k nf f8 V9 _ _ (by omega) (by omega) (by omega) hw (hF.goTo hM (by omega) (by omega) (by omega)) (by omega) (by omega)
  have K : ∀ (nn k : Nat) (L1 : List Nat) (g1 : Nat → va_E) (Z1 : ZT) (f8 : Nat → Option Nat) (V9 : List Int) (cells slots : Nat), (q - k).toNat = nn → (k : Int) ≤ q → WMX cys ad L1 g1 aw n k dp mb pa io pt lf va rw f8 Wd Wm Wt V9 P → FI Z k Z1 → cells + 362 * nn ≤ 10590 → slots + 9200 * nn ≤ 268900 → JJ p_ l e_ { frames := 14, cells := 10600, slots := 269000, locals := 330 } s_ m_ args_ below_ meth_ c_ D cys ad A_ Q_ 9 cells slots L1 g1 X Z1 3 [(0, .ref aw), (1, .ref (ad 0 0)), (2, .ref (ad 40 0)), (3, .int (iI q)), (4, .int (iI k))] [] := by
    intro nn
    induction nn with
    | zero =>
      intro k L1 g1 Z1 f8 V9 cells slots hnn k1 hw hF hc hs
      refine j_iload G dX7_fill_3 rfl ?_
      refine j_iload_n G dX7_fill_5 rfl ?_
      refine j_icmp_ge G 178 dX7_fill_6 (by decide) (by omega) (by omega) (fun c6 => ?_) (fun c6 => ?_)
      · refine j_iconst G dX7_fill_178 ?_
        refine j_istore G dX7_fill_179 (by decide) rfl ?_
        refine j_keep [0, 1, 2, 3, 4] ?_
        exact fin _ 0 L1 g1 Z1 k k f8 V9 _ _ rfl (by omega) (by omega) hw hF (by omega) (by omega)
      · exfalso; omega
    | succ nn ih =>
      intro k L1 g1 Z1 f8 V9 cells slots hnn k1 hw hF hc hs
      have hk12 := Nat.mod_lt k (show 0 < 12 by decide)
      have J : ∀ (mm : Nat) (j : Int) (L2 : List Nat) (g2 : Nat → va_E) (Z2 : ZT) (at0 : Nat) (A2 : List Int) (x5 : Int) (cells slots : Nat), (n - j).toNat = mm → 0 ≤ j → j ≤ n → EXT L1 g1 L2 g2 → at0 ∉ L1 → AR cys ad L2 g2 at0 A2 → A2.length = n.toNat → FI Z k Z2 → (∀ i, 0 ≤ i → i < j → Z2 4 i (Z2 2 i 5) = Z2 2 i 3) → cells + 120 * mm + 1 + 362 * nn ≤ 10590 → slots + 3050 * mm + 6 + 9200 * nn ≤ 268900 → JJ p_ l e_ { frames := 14, cells := 10600, slots := 269000, locals := 330 } s_ m_ args_ below_ meth_ c_ D cys ad A_ Q_ 9 cells slots L2 g2 X Z2 42 [(0, .ref aw), (1, .ref (ad 0 0)), (2, .ref (ad 40 0)), (3, .int (iI q)), (4, .int (iI k)), (5, .int (iI x5)), (6, .ref at0), (7, .int (iI j))] [] := by
        intro mm
        induction mm with
        | zero =>
          intro j L2 g2 Z2 at0 A2 x5 cells slots hmm j0 j1 hX hat hA hAl hF2 hpt hc hs
          have hw := hw.ext hX
          have hk4 := hk4G G
          have hwl := hw.l
          have hw1 : WMX cys ad L2 (va_up g2 lf (eQ (cys 4) 80 (va_up f8 (k : Int).toNat (some at0)))) aw n k dp mb pa io pt lf va rw (va_up f8 (k : Int).toNat (some at0)) Wd Wm Wt V9 P := hw.sl _
          have hlen9 := hw1.len
          refine j_iload G dX7_fill_42 rfl ?_
          refine j_aload_n G dX7_fill_44 rfl ?_
          refine jo_get G 0 hw.o dX7_fill_45 rfl rfl (by decide) lf7_18 (Or.inl rfl) inT7 ?_
          refine j_icmp_ge G 116 dX7_fill_48 (by decide) (by omega) (by omega) (fun c48 => ?_) (fun c48 => ?_)
          · refine j_aload_n G dX7_fill_116 rfl ?_
            refine jo_get G 7 hw.o dX7_fill_117 rfl rfl (by decide) lf7_9 (Or.inl rfl) inT7 ?_
            refine j_aload_n G dX7_fill_120 rfl ?_
            refine jo_get G 6 hw.o dX7_fill_121 rfl rfl (by decide) lf7_101 (Or.inl rfl) inT7 ?_
            refine j_aload G dX7_fill_124 rfl ?_
            refine j_aastI G hk4 dX7_fill_126 hwl.1 hwl.2.1 hwl.2.2 hA (by decide) (by omega) (by omega) ?_
            refine j_aload_n G dX7_fill_127 rfl ?_
            clear hw hwl
            have hw := hw1
            have hw2 : ∀ v : Int, WMX cys ad L2 (va_up (va_up g2 lf (eQ (cys 4) 80 (va_up f8 (k : Int).toNat (some at0)))) va (dA cys (V9.set (k : Int).toNat v))) aw n k dp mb pa io pt lf va rw (va_up f8 (k : Int).toNat (some at0)) Wd Wm Wt (V9.set (k : Int).toNat v) P := fun v => hw1.sv _ v
            have hwv := hw1.v
            refine jo_get G 8 hw.o dX7_fill_128 rfl rfl (by decide) lf7_15 (Or.inl rfl) inT7 ?_
            refine j_aload_n G dX7_fill_131 rfl ?_
            refine jo_get G 6 hw.o dX7_fill_132 rfl rfl (by decide) lf7_101 (Or.inl rfl) inT7 ?_
            refine j_iload G dX7_fill_135 rfl ?_
            refine j_iconst G dX7_fill_137 ?_
            refine j_ishr G dX7_fill_138 (iI_of _).symm ?_
            refine j_bipush G dX7_fill_139 (by decide +kernel) ?_
            refine j_cN_I G csL_below (List.mem_of_getElem? (i := 1) rfl) (c_L_below hi (by omega)) dX7_fill_141 (by first | exact ⟨by decide, by decide⟩ | (constructor <;> dsimp only <;> omega)) (by first | exact ⟨by decide, by decide⟩ | (constructor <;> dsimp only <;> omega)) rfl rfl (Nat.le_of_ble_eq_true rfl) (fun r141 h141 => ?_)
            refine j_bipush G dX7_fill_144 (by decide +kernel) ?_
            refine j_isub G dX7_fill_146 ?_
            refine j_dst G dX7_fill_147 hwv (by first | omega | decide | (simp only [List.length_set, List.length_replicate]; decide)) (by omega) (by first | omega | (simp only [List.length_set, List.length_replicate]; decide)) ?_
            refine j_aload_n G dX7_fill_148 rfl ?_
            clear hw hwv
            have hw := hw2 (r141 - 12)
            have hwv := hw.v
            have hl2 := hw.len
            refine j_aload_n G dX7_fill_149 rfl ?_
            refine jo_get G 8 hw.o dX7_fill_150 rfl rfl (by decide) lf7_15 (Or.inl rfl) inT7 ?_
            refine j_aload_n G dX7_fill_153 rfl ?_
            refine jo_get G 6 hw.o dX7_fill_154 rfl rfl (by decide) lf7_101 (Or.inl rfl) inT7 ?_
            refine j_dlA G dX7_fill_157 hwv (by first | omega | decide) (by omega) (by omega) ?_
            rw [getD_set_s (by omega)]
            have hvr : inR (r141 - 12) := by omega
            have hS2 := SP.rf Z2
            have hW2 := hF2.1.1
            have hl5 := hF2.2.1.1
            have hf80 : Z2 6 0 3 < 80 := by have := hF2.2.2.1; omega
            refine j_cW_IZ G cvX6_add ml7_104 (cm_of (c_X6_add hi hst hS2 hW2 hvr) (by intro E9 L9 g9 X9 Z9 hx9; rcases hx9.1.1 with z | z; exact z.2 (by omega); exact z.2.2 ⟨⟨by omega, fun i i0 i1 => hpt i i0 (by omega)⟩, hf80⟩)) dX7_fill_158 (by first | exact ⟨by decide, by decide⟩ | (constructor <;> dsimp only <;> omega)) (by first | exact ⟨by decide, by decide⟩ | (constructor <;> dsimp only <;> omega)) rfl rfl (Nat.le_of_ble_eq_true rfl) (by first | assumption | decide) rfl rfl rfl (fun r158 Z158 h158 => ?_)
            refine j_pop G dX7_fill_161 rfl ?_
            obtain ⟨q1, q2, -, hM⟩ := h158
            refine j_aload_n G dX7_fill_162 rfl ?_
            refine j_dup G dX7_fill_163 rfl ?_
            refine jo_get G 6 hw.o dX7_fill_164 rfl rfl (by decide) lf7_101 (Or.inl rfl) inT7 ?_
            refine j_iconst G dX7_fill_167 ?_
            refine j_iadd G dX7_fill_168 ?_
            refine jo_put G 6 hw.o dX7_fill_169 rfl (by decide) (Nat.le_of_ble_eq_true rfl) lf7_101 (Or.inl rfl) rfl inT7 tyX7_ok nmX7 (ty := .int) (by decide +kernel) rfl rfl ?_
            refine j_iinc G dX7_fill_172 rfl (by decide) rfl ?_
            refine j_goto G 3 dX7_fill_175 (by decide) ?_
            refine j_keep [0, 1, 2, 3, 4] ?_
            have hw3 := hw.sn ((k : Int) + 1)
            have e1 : (((k + 1 : Nat) : Int)) = (k : Int) + 1 := by omega
            have ihx := ih (k + 1) L2 _ Z158 _ _ (cells + 1) (slots + 6) (by omega) (by omega) (by rw [e1]; exact hw3) (by rw [e1]; exact hF2.add hM q1.1 q1.2 q2.1.2 hf80) (by omega) (by omega)
            rw [e1] at ihx
            exact ihx
          · exfalso; omega
        | succ mm ihm =>
          intro j L2 g2 Z2 at0 A2 x5 cells slots hmm j0 j1 hX hat hA hAl hF2 hpt hc hs
          have hw := hw.ext hX
          have hwd := hw.d
          have hlen2 := hw.len
          have htr := hTR j j0 (by omega)
          have hTj := hFI.1.1.t j0 (show j < Z 0 0 5 by omega)
          have hTj1 := hTj.1
          have hp24 := pre_len hTj (m := 0) (by omega) (by omega)
          have hdp := hw.dpw (S := Z) j0 (by omega) htr.2.1 htr.2.2
          have hm0 := hTj.at (m := 0) (by omega) (by omega)
          unfold MOK at hm0
          have hwl0 := hlf j j0 (by omega)
          have hwl1 := wk_len (Z 2 j 3) hTj (top := 0) (by omega) (by omega)
          have hg2 : 0 ≤ j ∧ j < Z2 0 0 5 := by rw [hF2.2.1.1]; omega
          have hjr : inR j := by omega
          refine j_iload G dX7_fill_42 rfl ?_
          refine j_aload_n G dX7_fill_44 rfl ?_
          refine jo_get G 0 hw.o dX7_fill_45 rfl rfl (by decide) lf7_18 (Or.inl rfl) inT7 ?_
          refine j_icmp_ge G 116 dX7_fill_48 (by decide) (by omega) (by omega) (fun c48 => ?_) (fun c48 => ?_)
          · exfalso; omega
          · refine j_aload_n G dX7_fill_51 rfl ?_
            refine j_iload G dX7_fill_52 rfl ?_
            refine j_iconst G dX7_fill_54 ?_
            refine j_aload_n G dX7_fill_55 rfl ?_
            refine jo_get G 1 hw.o dX7_fill_56 rfl rfl (by decide) lf7_22 (Or.inl rfl) inT7 ?_
            refine j_iload G dX7_fill_59 rfl ?_
            refine j_dlA G dX7_fill_61 hwd (by first | omega | decide) (by omega) (by omega) ?_
            rw [htr.1]
            refine j_cR_GA G cvX7_on (TW_of 669 (by decide +kernel) (by decide +kernel)) (c_X7_on hi hTj (lv := Z 2 j 3) (by omega) 3 0 L2 g2 (by omega) (by omega) (by omega) hdp) dX7_fill_62 ⟨by dsimp only; omega, by dsimp only; omega⟩ ⟨by dsimp only; omega, by dsimp only; omega⟩ rfl rfl (Nat.le_of_ble_eq_true rfl) (rvO G hw.o rfl rfl) (fun r62 L62 g62 X62 Z62 h62 => ?_)
            obtain ⟨p1, p2, p3, p4⟩ := h62
            subst X62 Z62
            have hA62 := hA.ext p2
            have hX62 := hX.tr p2
            obtain ⟨mc0, e0, N0, f0, hO62, -⟩ := p1.2.2
            refine j_astore G dX7_fill_65 (by decide) rfl ?_
            refine j_aload G dX7_fill_67 rfl ?_
            refine j_iload G dX7_fill_69 rfl ?_
            refine j_aload G dX7_fill_71 rfl ?_
            refine j_iload G dX7_fill_73 rfl ?_
            refine j_iconst G dX7_fill_75 ?_
            refine j_iload G dX7_fill_76 rfl ?_
            refine j_imul G dX7_fill_78 ?_
            refine j_ishr G dX7_fill_79 (iI_of _).symm ?_
            refine j_aload G dX7_fill_80 rfl ?_
            refine j_cR_I G cvJx4a65c_size_8abf5 (TW_of 792 (by decide +kernel) (by decide +kernel)) (c_Jx4a65c_size_8abf5 hi hO62) dX7_fill_82 ⟨by dsimp only; omega, by dsimp only; omega⟩ ⟨by dsimp only; omega, by dsimp only; omega⟩ rfl rfl (Nat.le_of_ble_eq_true rfl) (rvO G hO62 rfl rfl) (fun r82 h82 => ?_)
            subst r82
            refine j_cN_I G csL_below (List.mem_of_getElem? (i := 1) rfl) (c_L_below hi (by omega)) dX7_fill_85 (by first | exact ⟨by decide, by decide⟩ | (constructor <;> dsimp only <;> omega)) (by first | exact ⟨by decide, by decide⟩ | (constructor <;> dsimp only <;> omega)) rfl rfl (Nat.le_of_ble_eq_true rfl) (fun r85 h85 => ?_)
            refine j_cR_R G cvJx4a65c_get_915e3 (TW_of 796 (by decide +kernel) (by decide +kernel)) (c_Jx4a65c_get_915e3 hi p1 h85) dX7_fill_88 ⟨by dsimp only; omega, by dsimp only; omega⟩ ⟨by dsimp only; omega, by dsimp only; omega⟩ rfl rfl (Nat.le_of_ble_eq_true rfl) (rvO G hO62 rfl rfl) (fun r88 h88 => ?_)
            subst r88
            have hx0 := p1.2.1.at (i := r85.toNat) (by omega)
            obtain ⟨x, hx⟩ : ∃ x : Int, x = (wk Z j 0 (Z 2 j 3)).getD r85.toNat 0 := ⟨_, rfl⟩
            have hxm : x ∈ wk Z j 0 (Z 2 j 3) := by rw [hx]; exact getD_mem h85.1 h85.2
            have hxk := wk_in hTj (top := 0) (by omega) (by omega) hxm
            rw [← hx] at hx0 ⊢
            refine jc_cast G (x := x + 128) (by omega) (by omega) (TW_of 810 (by decide +kernel) (by decide +kernel)) dX7_fill_91 ?_
            refine j_cR_I G cvJ6_intValue_8abf5 (TW_of 811 (by decide +kernel) (by decide +kernel)) (c_J6_intValue_8abf5 hi (x := x + 128) (by omega)) dX7_fill_94 ⟨by dsimp only; omega, by dsimp only; omega⟩ ⟨by dsimp only; omega, by dsimp only; omega⟩ rfl rfl (Nat.le_of_ble_eq_true rfl) (rvI G (by omega) (by omega)) (fun r94 h94 => ?_)
            rw [show x + 128 - 128 = x by omega] at h94
            subst r94
            refine j_dst G dX7_fill_97 hA62 (by omega) (by omega) (by omega) ?_
            have hA97 : AR cys ad L62 (va_up g62 at0 (dA cys (A2.set j.toNat x))) at0 (A2.set j.toNat x) := hA62.upw
            have hX97 : EXT L1 g1 L62 (va_up g62 at0 (dA cys (A2.set j.toNat x))) := hX62.up hat _
            have hl97 : (A2.set j.toNat x).length = n.toNat := by rw [List.length_set]; exact hAl
            refine j_aload_n G dX7_fill_98 rfl ?_
            refine j_iload G dX7_fill_99 rfl ?_
            refine j_aload G dX7_fill_101 rfl ?_
            refine j_iload G dX7_fill_103 rfl ?_
            refine j_dlA G dX7_fill_105 hA97 (by omega) (by omega) (by omega) ?_
            rw [getD_set_s (by omega)]
            have hxr : inR x := by omega
            have hxs : x < Z2 2 j 4 := by rw [(hF2.2.1.2.1 j).2]; omega
            refine j_cW_IZ G cvX6_goTo ml7_98 (cm_of (c_X6_goTo hi hst (SP.rf Z2) hF2.1.1 hjr hxr) (by intro E9 L9 g9 X9 Z9 hx9; have hx9 := hx9.1; omega)) dX7_fill_106 (by first | exact ⟨by decide, by decide⟩ | (constructor <;> dsimp only <;> omega)) (by first | exact ⟨by decide, by decide⟩ | (constructor <;> dsimp only <;> omega)) rfl rfl (Nat.le_of_ble_eq_true rfl) (by first | assumption | decide) rfl rfl rfl (fun r106 Z106 h106 => ?_)
            refine j_pop G dX7_fill_109 rfl ?_
            refine j_iinc G dX7_fill_110 rfl (by decide) rfl ?_
            refine j_goto G 42 dX7_fill_113 (by decide) ?_
            obtain ⟨-, -, hM⟩ := h106
            refine j_keep [0, 1, 2, 3, 4, 5, 6, 7] ?_
            refine ihm (j + 1) L62 _ Z106 at0 _ x5 _ _ (by omega) (by omega) (by omega) hX97 hat hA97 hl97 (hF2.goTo hM (by omega) (by omega) (by omega)) (fun i i0 i1 => ?_) (by omega) (by omega)
            have h4 := hM.1.1 4 rfl (by decide)
            rw [h4, hM.2, hM.2, if_neg (show ¬ (i = j ∧ (3 : Int) = 5) by omega)]
            by_cases e : i = j
            · subst e
              rw [if_pos ⟨rfl, rfl⟩, hF2.2.1.2.2.2, (hF2.2.1.2.1 i).1]
              exact hxk.2.2
            · rw [if_neg (fun z => e z.1)]
              exact hpt i i0 (by omega)
      have hlen1 := hw.len
      refine j_iload G dX7_fill_3 rfl ?_
      refine j_iload_n G dX7_fill_5 rfl ?_
      refine j_icmp_ge G 178 dX7_fill_6 (by decide) (by omega) (by omega) (fun c6 => ?_) (fun c6 => ?_)
      · exfalso; omega
      · refine j_aload_n G dX7_fill_9 rfl ?_
        refine j_bipush G dX7_fill_10 (by decide +kernel) ?_
        refine j_iload G dX7_fill_12 rfl ?_
        refine j_bipush G dX7_fill_14 (by decide +kernel) ?_
        refine j_irem G (by decide) (by decide) (rem31 (z := k) (n := 12) (by omega) (by decide) (by decide)) dX7_fill_16 ?_
        refine j_iadd G dX7_fill_17 ?_
        refine j_cN_I G csL_cell (List.mem_of_getElem? (i := 0) rfl) (c_L_cell hi (by omega) hL2) dX7_fill_18 (by first | exact ⟨by decide, by decide⟩ | (constructor <;> dsimp only <;> omega)) (by first | exact ⟨by decide, by decide⟩ | (constructor <;> dsimp only <;> omega)) rfl rfl (Nat.le_of_ble_eq_true rfl) (fun r18 h18 => ?_)
        refine j_iload G dX7_fill_21 rfl ?_
        refine j_bipush G dX7_fill_23 (by decide +kernel) ?_
        refine j_idiv G dX7_fill_25 (by decide +kernel) (iI_of _).symm ?_
        refine j_iconst G dX7_fill_26 ?_
        refine j_imul G dX7_fill_27 ?_
        refine j_ishr G dX7_fill_28 (iI_of _).symm ?_
        refine j_istore G dX7_fill_29 (by decide) rfl ?_
        refine j_aload_n G dX7_fill_31 rfl ?_
        refine jo_get G 0 hw.o dX7_fill_32 rfl rfl (by decide) lf7_18 (Or.inl rfl) inT7 ?_
        refine j_newI G dX7_fill_35 (TW_of 97 (by decide +kernel) (by decide +kernel)) (by omega) (by omega) (by first | exact ⟨by decide, by decide⟩ | (constructor <;> dsimp only <;> omega)) (fun a35 na35 ns35 => ?_)
        have hX35 := (EXT.rf L1 g1).push na35 (dA cys (List.replicate n.toNat 0))
        have hA35 : AR cys ad (L1 ++ [a35]) (va_up g1 a35 (dA cys (List.replicate n.toNat 0))) a35 (List.replicate n.toNat 0) := ⟨List.mem_append_right _ (List.mem_singleton.mpr rfl), ns35, va_up_self _ _ _⟩
        refine j_astore G dX7_fill_37 (by decide) rfl ?_
        refine j_iconst G dX7_fill_39 ?_
        refine j_istore G dX7_fill_40 (by decide) rfl ?_
        refine j_keep [0, 1, 2, 3, 4, 5, 6, 7] ?_
        refine J _ 0 _ _ Z1 a35 _ _ _ _ rfl ?_ ?_ hX35 na35 hA35 ?_ hF (fun i i0 i1 => by omega) ?_ ?_
        · omega
        · omega
        · rw [List.length_replicate]
        · omega
        · omega
  refine j_iconst G dX7_fill_0 ?_
  refine j_istore G dX7_fill_1 (by decide) rfl ?_
  refine j_keep [0, 1, 2, 3, 4] ?_
  exact K _ 0 L g Z f8 V9 _ _ rfl (by omega) hw hFI (by omega) (by omega)

