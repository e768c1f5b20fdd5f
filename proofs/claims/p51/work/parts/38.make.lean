theorem dX7_init_69 : decode cX7_init 69 = .ok (.iconst 0, 1) := by decide +kernel
theorem dX7_init_70 : decode cX7_init 70 = .ok (.istore 4, 2) := by decide +kernel
theorem dX7_init_72 : decode cX7_init 72 = .ok (.iload 4, 2) := by decide +kernel
theorem dX7_init_74 : decode cX7_init 74 = .ok (.iload_n 3, 1) := by decide +kernel
theorem dX7_init_75 : decode cX7_init 75 = .ok (.if_icmp .ge 194, 3) := by decide +kernel
theorem dX7_init_78 : decode cX7_init 78 = .ok (.aload_n 0, 1) := by decide +kernel
theorem dX7_init_79 : decode cX7_init 79 = .ok (.getfield 22, 3) := by decide +kernel
theorem dX7_init_82 : decode cX7_init 82 = .ok (.iload 4, 2) := by decide +kernel
theorem dX7_init_84 : decode cX7_init 84 = .ok (.iconst 1, 1) := by decide +kernel
theorem dX7_init_85 : decode cX7_init 85 = .ok (.aload_n 2, 1) := by decide +kernel
theorem dX7_init_86 : decode cX7_init 86 = .ok (.iload 4, 2) := by decide +kernel
theorem dX7_init_88 : decode cX7_init 88 = .ok (.invokestatic 40, 3) := by decide +kernel
theorem dX7_init_91 : decode cX7_init 91 = .ok (.iconst 3, 1) := by decide +kernel
theorem dX7_init_92 : decode cX7_init 92 = .ok (.invokestatic 46, 3) := by decide +kernel
theorem dX7_init_95 : decode cX7_init 95 = .ok (.iadd, 1) := by decide +kernel
theorem dX7_init_96 : decode cX7_init 96 = .ok (.iastore, 1) := by decide +kernel
theorem dX7_init_97 : decode cX7_init 97 = .ok (.aload_n 1, 1) := by decide +kernel
theorem dX7_init_98 : decode cX7_init 98 = .ok (.aload_n 0, 1) := by decide +kernel
theorem dX7_init_99 : decode cX7_init 99 = .ok (.getfield 22, 3) := by decide +kernel
theorem dX7_init_102 : decode cX7_init 102 = .ok (.iload 4, 2) := by decide +kernel
theorem dX7_init_104 : decode cX7_init 104 = .ok (.iaload, 1) := by decide +kernel
theorem dX7_init_105 : decode cX7_init 105 = .ok (.invokevirtual 50, 3) := by decide +kernel
theorem dX7_init_108 : decode cX7_init 108 = .ok (.pop, 1) := by decide +kernel
theorem dX7_init_109 : decode cX7_init 109 = .ok (.aload_n 0, 1) := by decide +kernel
theorem dX7_init_110 : decode cX7_init 110 = .ok (.getfield 25, 3) := by decide +kernel
theorem dX7_init_113 : decode cX7_init 113 = .ok (.iload 4, 2) := by decide +kernel
theorem dX7_init_115 : decode cX7_init 115 = .ok (.iconst 1, 1) := by decide +kernel
theorem dX7_init_116 : decode cX7_init 116 = .ok (.iastore, 1) := by decide +kernel
theorem dX7_init_117 : decode cX7_init 117 = .ok (.iconst 0, 1) := by decide +kernel
theorem dX7_init_118 : decode cX7_init 118 = .ok (.istore 5, 2) := by decide +kernel
theorem dX7_init_120 : decode cX7_init 120 = .ok (.iload 5, 2) := by decide +kernel
theorem dX7_init_122 : decode cX7_init 122 = .ok (.aload_n 0, 1) := by decide +kernel
theorem dX7_init_123 : decode cX7_init 123 = .ok (.getfield 22, 3) := by decide +kernel
theorem dX7_init_126 : decode cX7_init 126 = .ok (.iload 4, 2) := by decide +kernel
theorem dX7_init_128 : decode cX7_init 128 = .ok (.iaload, 1) := by decide +kernel
theorem dX7_init_129 : decode cX7_init 129 = .ok (.aload_n 2, 1) := by decide +kernel
theorem dX7_init_130 : decode cX7_init 130 = .ok (.iload 4, 2) := by decide +kernel
theorem dX7_init_132 : decode cX7_init 132 = .ok (.invokestatic 40, 3) := by decide +kernel
theorem dX7_init_135 : decode cX7_init 135 = .ok (.iconst 4, 1) := by decide +kernel
theorem dX7_init_136 : decode cX7_init 136 = .ok (.ishr, 1) := by decide +kernel
theorem dX7_init_137 : decode cX7_init 137 = .ok (.bipush 12, 2) := by decide +kernel
theorem dX7_init_139 : decode cX7_init 139 = .ok (.invokestatic 46, 3) := by decide +kernel
theorem dX7_init_142 : decode cX7_init 142 = .ok (.iadd, 1) := by decide +kernel
theorem dX7_init_143 : decode cX7_init 143 = .ok (.if_icmp .ge 120, 3) := by decide +kernel
theorem dX7_init_146 : decode cX7_init 146 = .ok (.iload 5, 2) := by decide +kernel
theorem dX7_init_148 : decode cX7_init 148 = .ok (.aload_n 0, 1) := by decide +kernel
theorem dX7_init_149 : decode cX7_init 149 = .ok (.getfield 22, 3) := by decide +kernel
theorem dX7_init_152 : decode cX7_init 152 = .ok (.iload 4, 2) := by decide +kernel
theorem dX7_init_154 : decode cX7_init 154 = .ok (.iaload, 1) := by decide +kernel
theorem dX7_init_155 : decode cX7_init 155 = .ok (.if_icmp .ge 8, 3) := by decide +kernel
theorem dX7_init_158 : decode cX7_init 158 = .ok (.iload 5, 2) := by decide +kernel
theorem dX7_init_160 : decode cX7_init 160 = .ok (.goto 37, 3) := by decide +kernel
theorem dX7_init_163 : decode cX7_init 163 = .ok (.aload_n 2, 1) := by decide +kernel
theorem dX7_init_164 : decode cX7_init 164 = .ok (.iconst 4, 1) := by decide +kernel
theorem dX7_init_165 : decode cX7_init 165 = .ok (.iconst 5, 1) := by decide +kernel
theorem dX7_init_166 : decode cX7_init 166 = .ok (.iload 4, 2) := by decide +kernel
theorem dX7_init_168 : decode cX7_init 168 = .ok (.imul, 1) := by decide +kernel
theorem dX7_init_169 : decode cX7_init 169 = .ok (.iload 5, 2) := by decide +kernel
theorem dX7_init_171 : decode cX7_init 171 = .ok (.iadd, 1) := by decide +kernel
theorem dX7_init_172 : decode cX7_init 172 = .ok (.bipush 12, 2) := by decide +kernel
theorem dX7_init_174 : decode cX7_init 174 = .ok (.irem, 1) := by decide +kernel
theorem dX7_init_175 : decode cX7_init 175 = .ok (.iadd, 1) := by decide +kernel
theorem dX7_init_176 : decode cX7_init 176 = .ok (.invokestatic 40, 3) := by decide +kernel
theorem dX7_init_179 : decode cX7_init 179 = .ok (.iload 5, 2) := by decide +kernel
theorem dX7_init_181 : decode cX7_init 181 = .ok (.bipush 6, 2) := by decide +kernel
theorem dX7_init_183 : decode cX7_init 183 = .ok (.irem, 1) := by decide +kernel
theorem dX7_init_184 : decode cX7_init 184 = .ok (.iconst 4, 1) := by decide +kernel
theorem dX7_init_185 : decode cX7_init 185 = .ok (.imul, 1) := by decide +kernel
theorem dX7_init_186 : decode cX7_init 186 = .ok (.ishr, 1) := by decide +kernel
theorem dX7_init_187 : decode cX7_init 187 = .ok (.aload_n 0, 1) := by decide +kernel
theorem dX7_init_188 : decode cX7_init 188 = .ok (.getfield 25, 3) := by decide +kernel
theorem dX7_init_191 : decode cX7_init 191 = .ok (.iload 4, 2) := by decide +kernel
theorem dX7_init_193 : decode cX7_init 193 = .ok (.iaload, 1) := by decide +kernel
theorem dX7_init_194 : decode cX7_init 194 = .ok (.invokestatic 46, 3) := by decide +kernel
theorem dX7_init_197 : decode cX7_init 197 = .ok (.istore 6, 2) := by decide +kernel
theorem dX7_init_199 : decode cX7_init 199 = .ok (.aload_n 0, 1) := by decide +kernel
theorem dX7_init_200 : decode cX7_init 200 = .ok (.iload 4, 2) := by decide +kernel
theorem dX7_init_202 : decode cX7_init 202 = .ok (.iload 6, 2) := by decide +kernel
theorem dX7_init_204 : decode cX7_init 204 = .ok (.invokevirtual 56, 3) := by decide +kernel
theorem dX7_init_207 : decode cX7_init 207 = .ok (.aload_n 0, 1) := by decide +kernel
theorem dX7_init_208 : decode cX7_init 208 = .ok (.getfield 22, 3) := by decide +kernel
theorem dX7_init_211 : decode cX7_init 211 = .ok (.iload 4, 2) := by decide +kernel
theorem dX7_init_213 : decode cX7_init 213 = .ok (.iaload, 1) := by decide +kernel
theorem dX7_init_214 : decode cX7_init 214 = .ok (.if_icmp .ne 6, 3) := by decide +kernel
theorem dX7_init_217 : decode cX7_init 217 = .ok (.iconst 0, 1) := by decide +kernel
theorem dX7_init_218 : decode cX7_init 218 = .ok (.istore 6, 2) := by decide +kernel
theorem dX7_init_220 : decode cX7_init 220 = .ok (.aload_n 0, 1) := by decide +kernel
theorem dX7_init_221 : decode cX7_init 221 = .ok (.getfield 29, 3) := by decide +kernel
theorem dX7_init_224 : decode cX7_init 224 = .ok (.iload 4, 2) := by decide +kernel
theorem dX7_init_226 : decode cX7_init 226 = .ok (.aaload, 1) := by decide +kernel
theorem dX7_init_227 : decode cX7_init 227 = .ok (.aload_n 0, 1) := by decide +kernel
theorem dX7_init_228 : decode cX7_init 228 = .ok (.getfield 25, 3) := by decide +kernel
theorem dX7_init_231 : decode cX7_init 231 = .ok (.iload 4, 2) := by decide +kernel
theorem dX7_init_233 : decode cX7_init 233 = .ok (.iaload, 1) := by decide +kernel
theorem dX7_init_234 : decode cX7_init 234 = .ok (.iload 6, 2) := by decide +kernel
theorem dX7_init_236 : decode cX7_init 236 = .ok (.iastore, 1) := by decide +kernel
theorem dX7_init_237 : decode cX7_init 237 = .ok (.aload_n 1, 1) := by decide +kernel
theorem dX7_init_238 : decode cX7_init 238 = .ok (.iload 4, 2) := by decide +kernel
theorem dX7_init_240 : decode cX7_init 240 = .ok (.iload 6, 2) := by decide +kernel
theorem dX7_init_242 : decode cX7_init 242 = .ok (.invokevirtual 59, 3) := by decide +kernel
theorem dX7_init_245 : decode cX7_init 245 = .ok (.pop, 1) := by decide +kernel
theorem dX7_init_246 : decode cX7_init 246 = .ok (.aload_n 0, 1) := by decide +kernel
theorem dX7_init_247 : decode cX7_init 247 = .ok (.getfield 25, 3) := by decide +kernel
theorem dX7_init_250 : decode cX7_init 250 = .ok (.iload 4, 2) := by decide +kernel
theorem dX7_init_252 : decode cX7_init 252 = .ok (.dup2, 1) := by decide +kernel
theorem dX7_init_253 : decode cX7_init 253 = .ok (.iaload, 1) := by decide +kernel
theorem dX7_init_254 : decode cX7_init 254 = .ok (.iconst 1, 1) := by decide +kernel
theorem dX7_init_255 : decode cX7_init 255 = .ok (.iadd, 1) := by decide +kernel
theorem dX7_init_256 : decode cX7_init 256 = .ok (.iastore, 1) := by decide +kernel
theorem dX7_init_257 : decode cX7_init 257 = .ok (.iinc 5 1, 3) := by decide +kernel
theorem dX7_init_260 : decode cX7_init 260 = .ok (.goto (-140), 3) := by decide +kernel
theorem dX7_init_263 : decode cX7_init 263 = .ok (.iinc 4 1, 3) := by decide +kernel
theorem dX7_init_266 : decode cX7_init 266 = .ok (.goto (-194), 3) := by decide +kernel
theorem dX7_init_269 : decode cX7_init 269 = .ok (.return_, 1) := by decide +kernel
/-! by program: wip/whole/gen.py out of wip/whole/src/38.make.eb -/
/-! the World's constructor: trees told by the script, in the class and in the World -/
theorem CO.z {Z Z1 : ZT} {j : Int} {Wd Wm : List Int} {P : Int → List Int} (h : CO Z j Wd Wm P) (e2 : ∀ d, 0 ≤ d → d < j → Z1 2 d 3 = Z 2 d 3 ∧ Z1 2 d 4 = Z 2 d 4) (e3 : ∀ d, 0 ≤ d → d < j → ∀ m, Z1 3 d m = Z 3 d m) (e4 : ∀ d, 0 ≤ d → d < j → ∀ m, Z1 4 d m = Z 4 d m) : CO Z1 j Wd Wm P := fun d d0 d1 => by
  have h1 := h d d0 d1
  have h2 := e2 d d0 d1
  exact ⟨h1.1.z h2 (fun m _ _ => e3 d d0 d1 m), h1.2.z ⟨h2.1, by omega⟩ (fun m _ _ => e4 d d0 d1 m)⟩
/-- the tree of the dimension that is being made -/
def CJ (Z : ZT) (j k : Int) (Wd Wm : List Int) (P : Int → List Int) : Prop := (WG Z ∧ Z 0 0 5 = j + 1 ∧ Z 6 0 3 = 0 ∧ Z 11 0 3 = 0) ∧ CO Z j Wd Wm P ∧ DR Z j Wd Wm P ∧ Z 2 j 4 = k + 1 ∧ ∀ i, 0 ≤ i → i ≤ k → i ≤ Z 2 j 3 → Z 4 j i = i
def CI (Z : ZT) (j : Int) (Wd Wm : List Int) (P : Int → List Int) : Prop := (WG Z ∧ Z 0 0 5 = j ∧ Z 6 0 3 = 0 ∧ Z 11 0 3 = 0) ∧ CO Z j Wd Wm P
theorem CJ.done {Z : ZT} {j k : Int} {Wd Wm : List Int} {P : Int → List Int} (h : CJ Z j k Wd Wm P) (j0 : 0 ≤ j) (hk : Z 2 j 3 ≤ k) : CI Z (j + 1) Wd Wm P := by
  obtain ⟨⟨h1, h2, h3, h4⟩, h5, h6, h7, h8⟩ := h
  refine ⟨⟨h1, h2, h3, h4⟩, fun d d0 d1 => ?_⟩
  by_cases e : d = j
  · subst e
    have hd := (h1.1.t d0 (by omega)).1
    exact ⟨h6, Z 2 d 3, by omega, by omega, h8 _ (by omega) hk (Int.le_refl _)⟩
  · exact h5 d d0 (by omega)
theorem CI.plant {Z Z1 : ZT} {j v : Int} {Wd Wm : List Int} {P : Int → List Int} (h : CI Z j Wd Wm P) (hM : M_addDimension Z v Z1) (j0 : 0 ≤ j) (j1 : j < 4) (v0 : 1 ≤ v) (v1 : v ≤ 3) (l1 : j.toNat < Wd.length) (l2 : j.toNat < Wm.length) (hWd : Wd.getD j.toNat 0 = v) : CJ Z1 j 0 Wd (Wm.set j.toNat 1) P := by
  obtain ⟨⟨h1, h2, h3, h4⟩, h5⟩ := h
  have hw := h1.addDimension hM v0 v1 (by omega)
  obtain ⟨⟨hF, h15⟩, m05, m06, m07, m08, m2, m3, m5, m6, m11⟩ := hM
  have e4 : Z1 4 = Z 4 := hF 4 rfl (by decide)
  have hT := hw.1.t (d := j) j0 (by omega)
  have hT1 := hT.1
  have hm := hT.at (m := 0) (by omega) (by omega)
  unfold MOK at hm
  have q3 : Z1 2 j 3 = v := by rw [m2, if_pos ⟨h2.symm, rfl⟩]
  have q4 : Z1 2 j 4 = 1 := by rw [m2, if_neg (by omega), if_pos ⟨h2.symm, rfl⟩]
  have hco : CO Z1 j Wd Wm P := h5.z (fun d d0 d1 => ⟨by rw [m2, if_neg (by omega), if_neg (by omega)], by rw [m2, if_neg (by omega), if_neg (by omega)]⟩) (fun d d0 d1 m => by rw [m3, if_neg (by omega)]) (fun d d0 d1 m => by rw [e4])
  refine ⟨⟨hw, by rw [m05, h2], m6, m11⟩, fun d d0 d1 => ⟨(hco d d0 d1).1.sm d0 j0 (by omega), (hco d d0 d1).2⟩, ⟨by rw [q3]; exact hWd, by rw [q4, getD_set_s l2], fun m m0 m1 => by omega⟩, by rw [q4]; rfl, fun i i0 i1 i2 => ?_⟩
  have e : i = 0 := by omega
  subst e
  exact hm.2.2.1.mpr rfl
theorem CJ.grow {Z Z1 : ZT} {j k a : Int} {Wd Wm : List Int} {P : Int → List Int} (h : CJ Z j k Wd Wm P) (hM : M_addMember Z j a Z1) (j0 : 0 ≤ j) (k0 : 0 ≤ k) (k1 : k < 23) (a0 : 0 ≤ a) (a1 : a < Z 2 j 4) (ha : Z 4 j a ≠ Z 2 j 3) (hk : k < Z 2 j 3 → a = k) (l2 : j.toNat < Wm.length) (l3 : (P j).length = 24) : CJ Z1 j (k + 1) Wd (Wm.set j.toNat (k + 2)) (fun q => if q = j then (P j).set (k + 1).toNat a else P q) := by
  obtain ⟨⟨h1, h2, h3, h4⟩, h5, ⟨h61, h62, h63⟩, h7, h8⟩ := h
  have hw := h1.addMember hM j0 (by omega) a0 a1 ha (by omega)
  have hd3 := (h1.1.t j0 (by omega)).1
  obtain ⟨⟨hF, h15⟩, m2, m3, m4⟩ := hM
  have e0 : Z1 0 = Z 0 := hF 0 rfl (by decide)
  have e6 : Z1 6 = Z 6 := hF 6 rfl (by decide)
  have e11 : Z1 11 = Z 11 := hF 11 rfl (by decide)
  have q3 : Z1 2 j 3 = Z 2 j 3 := by rw [m2, if_neg (by omega)]
  have q4 : Z1 2 j 4 = k + 2 := by rw [m2, if_pos ⟨rfl, rfl⟩]; omega
  have hco : CO Z1 j Wd Wm P := h5.z (fun d d0 d1 => ⟨by rw [m2, if_neg (by omega)], by rw [m2, if_neg (by omega)]⟩) (fun d d0 d1 m => by rw [m3, if_neg (by omega)]) (fun d d0 d1 m => by rw [m4, if_neg (by omega)])
  refine ⟨⟨hw, by rw [e0, h2], by rw [e6, h3], by rw [e11, h4]⟩, fun d d0 d1 => ⟨((hco d d0 d1).1.sm d0 j0 (by omega)).sr (by omega), (hco d d0 d1).2⟩, ⟨by rw [q3]; exact h61, by rw [q4, getD_set_s l2], fun m m0 m1 => ?_⟩, by rw [q4]; omega, fun i i0 i1 i2 => ?_⟩
  · dsimp only
    rw [if_pos rfl, m3]
    by_cases e : m = Z 2 j 4
    · rw [if_pos ⟨rfl, e⟩, show m.toNat = (k + 1).toNat by omega, getD_set_s (by omega)]
    · rw [if_neg (fun z => e z.2), getD_set_n (by omega)]
      exact h63 m m0 (by omega)
  · rw [q3] at i2
    rw [m4]
    by_cases e : i = Z 2 j 4
    · rw [if_pos ⟨rfl, e⟩, hk (by omega), h8 k (by omega) (Int.le_refl _) (by omega)]
      omega
    · rw [if_neg (fun z => e z.2)]
      exact h8 i i0 (by omega) i2
set_option maxRecDepth 100000 in
set_option maxHeartbeats 8000000 in
theorem c_X7_init {l : Launch} {D : va_G} {cys : Nat → ClassId} {ad : Nat → Int → Nat} {L : List Nat} {g : Nat → va_E} {X : Int64} {Z : ZT} (hi : injA ad) {L0 : List Nat} {g0 : Nat → va_E} {aw : Nat} {n : Int} (hst : l.stackTraces = false) (hL' : L = L0 ++ [aw]) (hg' : g = va_up g0 aw (.inr (7, [.int 0, .null, .null, .null, .null, .null, .int 0, .null, .null]))) (haw : aw ∉ L0) (hns : ¬ isS ad aw) (hn : 2 ≤ n ∧ n ≤ 3) (hZ : WG Z ∧ Z 0 0 5 = 0 ∧ Z 6 0 3 = 0 ∧ Z 11 0 3 = 0) (hL2 : ad 40 1 < 1000) : CM l D cys ad yX7_init cX7_init 7 none 12 200 160 1200 [.ref aw, .ref (ad 0 0), .ref (ad 40 0), .int (iI n)] L g X Z (PGV L g X Z (fun L9 g9 X9 Z9 => ∃ (dp mb pa io pt lf va : Nat) (rw : Int → Nat) (f8 : Nat → Option Nat) (Wd Wm Wt V9 : List Int) (P : Int → List Int), WMX cys ad L9 g9 aw n 0 dp mb pa io pt lf va rw f8 Wd Wm Wt V9 P ∧ CI Z9 n Wd Wm P ∧ (∀ d, 0 ≤ d → d < n → Wt.getD d.toNat 0 = 0) ∧ X9 = X)) := by
  refine cm_start hi (by decide +kernel) (Nat.le_of_ble_eq_true rfl) ?_
  intro p_ e_ s_ m_ args_ below_ meth_ c_ A_ Q_ hQ G hr hin
  have hini := hin rfl
  subst hL' hg'
  have M : ∀ (L2 : List Nat) (g2 : Nat → va_E) (dp mb pa io pt lf va : Nat) (rw : Int → Nat) (Wd Wm Wt V9 : List Int), (∀ d, 0 ≤ d → d < n → Wt.getD d.toNat 0 = 0) → WMX cys ad L2 g2 aw n 0 dp mb pa io pt lf va rw (fun _ => none) Wd Wm Wt V9 (fun _ => List.replicate 24 0) → JJ p_ l e_ { frames := 12, cells := 160, slots := 1200, locals := 200 } s_ m_ args_ below_ meth_ c_ D cys ad A_ Q_ 7 20 340 L2 g2 X Z 69 [(0, .ref aw), (1, .ref (ad 0 0)), (2, .ref (ad 40 0)), (3, .int (iI n))] [] := by
    intro L2 g2 dp mb pa io pt lf va rw Wd Wm Wt V9 hWt hw0
    have O : ∀ (nn : Nat) (j : Int) (g3 : Nat → va_E) (Z1 : ZT) (Wd Wm : List Int) (P : Int → List Int) (cells slots : Nat), (n - j).toNat = nn → 0 ≤ j → j ≤ n → WMX cys ad L2 g3 aw n 0 dp mb pa io pt lf va rw (fun _ => none) Wd Wm Wt V9 P → CI Z1 j Wd Wm P → cells + 46 * nn ≤ 160 → slots + 280 * nn ≤ 1200 → JJ p_ l e_ { frames := 12, cells := 160, slots := 1200, locals := 200 } s_ m_ args_ below_ meth_ c_ D cys ad A_ Q_ 7 cells slots L2 g3 X Z1 72 [(0, .ref aw), (1, .ref (ad 0 0)), (2, .ref (ad 40 0)), (3, .int (iI n)), (4, .int (iI j))] [] := by
      intro nn
      induction nn with
      | zero =>
        intro j g3 Z1 Wd Wm P cells slots hnn j0 j1 hw hC hc hs
        have ej : j = n := by omega
        subst ej
        refine j_iload G dX7_init_72 rfl ?_
        refine j_iload_n G dX7_init_74 rfl ?_
        refine j_icmp_ge G 269 dX7_init_75 (by decide) (by omega) (by omega) (fun c75 => ?_) (fun c75 => ?_)
        · refine jr_GV G hQ hr dX7_init_269 (by first | decide | omega) (by first | decide | omega) ?_
          exact ⟨dp, mb, pa, io, pt, lf, va, rw, _, Wd, Wm, Wt, V9, P, hw, hC, hWt, rfl⟩
        · exfalso; omega
      | succ nn ih =>
        intro j g3 Z1 Wd Wm P cells slots hnn j0 j1 hw hC hc hs
        have I : ∀ (kk : Nat) (k : Int) (g4 : Nat → va_E) (Z2 : ZT) (Wd Wm : List Int) (P : Int → List Int) (cells slots : Nat), (15 - k).toNat = kk → 0 ≤ k → k ≤ 15 → WMX cys ad L2 g4 aw n 0 dp mb pa io pt lf va rw (fun _ => none) Wd Wm Wt V9 P → CJ Z2 j k Wd Wm P → cells + 3 * kk + 46 * nn ≤ 160 → slots + 17 * kk + kk + 280 * nn ≤ 1200 → JJ p_ l e_ { frames := 12, cells := 160, slots := 1200, locals := 200 } s_ m_ args_ below_ meth_ c_ D cys ad A_ Q_ 7 cells slots L2 g4 X Z2 120 [(0, .ref aw), (1, .ref (ad 0 0)), (2, .ref (ad 40 0)), (3, .int (iI n)), (4, .int (iI j)), (5, .int (iI k))] [] := by
          intro kk
          induction kk with
          | zero =>
            intro k g4 Z2 Wd Wm P cells slots hkk k0 k1 hw hJ hc hs
            have hwd := hw.d
            have hlen := hw.len
            have hdr := hJ.2.2.1
            have hT1 := (hJ.1.1.1.t j0 (show j < Z2 0 0 5 by rw [hJ.1.2.1]; omega)).1
            refine j_iload G dX7_init_120 rfl ?_
            refine j_aload_n G dX7_init_122 rfl ?_
            refine jo_get G 1 hw.o dX7_init_123 rfl rfl (by decide) lf7_22 (Or.inl rfl) inT7 ?_
            refine j_iload G dX7_init_126 rfl ?_
            refine j_dlA G dX7_init_128 hwd (by first | omega | decide) (by omega) (by omega) ?_
            rw [hdr.1]
            refine j_aload_n G dX7_init_129 rfl ?_
            refine j_iload G dX7_init_130 rfl ?_
            refine j_cN_I G csL_cell (List.mem_of_getElem? (i := 0) rfl) (c_L_cell hi (by omega) hL2) dX7_init_132 (by first | exact ⟨by decide, by decide⟩ | (constructor <;> dsimp only <;> omega)) (by first | exact ⟨by decide, by decide⟩ | (constructor <;> dsimp only <;> omega)) rfl rfl (Nat.le_of_ble_eq_true rfl) (fun r132 h132 => ?_)
            refine j_iconst G dX7_init_135 ?_
            refine j_ishr G dX7_init_136 (iI_of _).symm ?_
            refine j_bipush G dX7_init_137 (by decide +kernel) ?_
            refine j_cN_I G csL_below (List.mem_of_getElem? (i := 1) rfl) (c_L_below hi (by omega)) dX7_init_139 (by first | exact ⟨by decide, by decide⟩ | (constructor <;> dsimp only <;> omega)) (by first | exact ⟨by decide, by decide⟩ | (constructor <;> dsimp only <;> omega)) rfl rfl (Nat.le_of_ble_eq_true rfl) (fun r139 h139 => ?_)
            refine j_iadd G dX7_init_142 ?_
            refine j_icmp_ge G 263 dX7_init_143 (by decide) (by omega) (by omega) (fun c143 => ?_) (fun c143 => ?_)
            · refine j_iinc G dX7_init_263 rfl (by decide) rfl ?_
              refine j_goto G 72 dX7_init_266 (by decide) ?_
              refine j_keep [0, 1, 2, 3, 4] ?_
              exact ih (j + 1) g4 Z2 Wd Wm P _ _ (by omega) (by omega) (by omega) hw (hJ.done j0 (by omega)) (by omega) (by omega)
            · exfalso; omega
          | succ kk ihk =>
            intro k g4 Z2 Wd Wm P cells slots hkk k0 k1 hw hJ hc hs
            have hwd := hw.d
            have hwm := hw.m
            have hlen := hw.len
            have hdr := hJ.2.2.1
            have hj5 : j < Z2 0 0 5 := by rw [hJ.1.2.1]; omega
            have hT := hJ.1.1.1.t j0 hj5
            have hT1 := hT.1
            have h24 := hJ.2.2.2.1
            have hdp := hw.dpw (S := Z2) j0 (by omega) hdr.2.1 hdr.2.2
            have hrow := hw.r j0 (show j < n by omega)
            obtain ⟨f9, hp1, hp2⟩ := hw.p
            have hjr : inR j := by omega
            have B : ∀ (a : Int) (cells slots : Nat), 0 ≤ a → a < Z2 2 j 4 → Z2 4 j a ≠ Z2 2 j 3 → (k < Z2 2 j 3 → a = k) → cells + 3 * (kk + 1) + 46 * nn ≤ 160 → slots + 18 * (kk + 1) + 280 * nn ≤ 1200 → JJ p_ l e_ { frames := 12, cells := 160, slots := 1200, locals := 200 } s_ m_ args_ below_ meth_ c_ D cys ad A_ Q_ 7 cells slots L2 g4 X Z2 220 [(0, .ref aw), (1, .ref (ad 0 0)), (2, .ref (ad 40 0)), (3, .int (iI n)), (4, .int (iI j)), (5, .int (iI k)), (6, .int (iI a))] [] := by
              intro a cells slots a0 a1 a2 a3 hc hs
              have hw1 := hw.sr j0 (show j < n by omega) (k + 1).toNat a
              have hwm1 := hw1.m
              have hw2 := hw1.sm j.toNat (k + 2)
              have har : inR a := by omega
              refine j_aload_n G dX7_init_220 rfl ?_
              refine jo_get G 3 hw.o dX7_init_221 rfl rfl (by decide) lf7_29 (Or.inl rfl) inT7 ?_
              refine j_iload G dX7_init_224 rfl ?_
              refine jp_ld G hp1 dX7_init_226 (by omega) (by omega) (by omega) (hp2 j j0 (by omega)) ?_
              refine j_aload_n G dX7_init_227 rfl ?_
              refine jo_get G 2 hw.o dX7_init_228 rfl rfl (by decide) lf7_25 (Or.inl rfl) inT7 ?_
              refine j_iload G dX7_init_231 rfl ?_
              refine j_dlA G dX7_init_233 hwm (by first | omega | decide) (by omega) (by omega) ?_
              rw [hdr.2.1, h24]
              refine j_iload G dX7_init_234 rfl ?_
              refine j_dst G dX7_init_236 hrow.1 (by first | omega | decide | (simp only [List.length_set, List.length_replicate]; decide)) (by omega) (by first | omega | (simp only [List.length_set, List.length_replicate]; decide)) ?_
              clear hw
              have hw := hw1
              refine j_aload_n G dX7_init_237 rfl ?_
              refine j_iload G dX7_init_238 rfl ?_
              refine j_iload G dX7_init_240 rfl ?_
              refine j_cW_IZ G cvX6_addMember ml7_59 (cm_of (c_X6_addMember hi hst (SP.rf Z2) hJ.1.1.1 hjr har) (by intro E9 L9 g9 X9 Z9 hx9; have hx9 := hx9.1; omega)) dX7_init_242 (by first | exact ⟨by decide, by decide⟩ | (constructor <;> dsimp only <;> omega)) (by first | exact ⟨by decide, by decide⟩ | (constructor <;> dsimp only <;> omega)) rfl rfl (Nat.le_of_ble_eq_true rfl) (by first | assumption | decide) rfl rfl rfl (fun r242 Z242 h242 => ?_)
              refine j_pop G dX7_init_245 rfl ?_
              refine j_aload_n G dX7_init_246 rfl ?_
              refine jo_get G 2 hw.o dX7_init_247 rfl rfl (by decide) lf7_25 (Or.inl rfl) inT7 ?_
              refine j_iload G dX7_init_250 rfl ?_
              refine j_dup2 G dX7_init_252 rfl rfl ?_
              refine j_dlA G dX7_init_253 hwm1 (by first | omega | decide) (by omega) (by omega) ?_
              rw [hdr.2.1, h24]
              refine j_iconst G dX7_init_254 ?_
              refine j_iadd G dX7_init_255 ?_
              rw [show k + 1 + 1 = k + 2 by omega]
              refine j_dst G dX7_init_256 hwm1 (by first | omega | decide | (simp only [List.length_set, List.length_replicate]; decide)) (by omega) (by first | omega | (simp only [List.length_set, List.length_replicate]; decide)) ?_
              refine j_iinc G dX7_init_257 rfl (by decide) rfl ?_
              refine j_goto G 120 dX7_init_260 (by decide) ?_
              obtain ⟨-, -, -, hM⟩ := h242
              refine j_keep [0, 1, 2, 3, 4, 5] ?_
              exact ihk (k + 1) _ Z242 Wd _ _ _ _ (by omega) (by omega) (by omega) hw2 (hJ.grow hM j0 k0 (by omega) a0 a1 a2 a3 (by omega) hrow.2) (by omega) (by omega)
            have C : ∀ (a : Int) (cells slots : Nat), 0 ≤ a → a < Z2 2 j 4 → (k < Z2 2 j 3 → a = k) → cells + 3 * (kk + 1) + 46 * nn ≤ 160 → slots + 18 * (kk + 1) + 280 * nn ≤ 1200 → JJ p_ l e_ { frames := 12, cells := 160, slots := 1200, locals := 200 } s_ m_ args_ below_ meth_ c_ D cys ad A_ Q_ 7 cells slots L2 g4 X Z2 199 [(0, .ref aw), (1, .ref (ad 0 0)), (2, .ref (ad 40 0)), (3, .int (iI n)), (4, .int (iI j)), (5, .int (iI k)), (6, .int (iI a))] [] := by
              intro a cells slots a0 a1 a3 hc hs
              have ham := hT.at a0 a1
              have hm0 := hT.at (m := 0) (by omega) (by omega)
              unfold MOK at ham hm0
              have hch := hJ.2.2.2.2
              refine j_aload_n G dX7_init_199 rfl ?_
              refine j_iload G dX7_init_200 rfl ?_
              refine j_iload G dX7_init_202 rfl ?_
              refine j_cR_I G cvX7_depth (TW_of 606 (by decide +kernel) (by decide +kernel)) (c_X7_depth hi hdp hT 3 a a0 a1 (by omega)) dX7_init_204 ⟨by decide, by decide⟩ ⟨by dsimp only; omega, by dsimp only; omega⟩ rfl rfl (Nat.le_of_ble_eq_true rfl) (rvO G hw.o rfl rfl) (fun r204 h204 => ?_)
              subst r204
              refine j_aload_n G dX7_init_207 rfl ?_
              refine jo_get G 1 hw.o dX7_init_208 rfl rfl (by decide) lf7_22 (Or.inl rfl) inT7 ?_
              refine j_iload G dX7_init_211 rfl ?_
              refine j_dlA G dX7_init_213 hwd (by first | omega | decide) (by omega) (by omega) ?_
              rw [hdr.1]
              refine j_icmp_ne G 220 dX7_init_214 (by decide) (by omega) (by omega) (fun c214 => ?_) (fun c214 => ?_)
              · refine j_keep [0, 1, 2, 3, 4, 5, 6] ?_
                exact B a _ _ a0 a1 c214 a3 (by omega) (by omega)
              · refine j_iconst G dX7_init_217 ?_
                refine j_istore G dX7_init_218 (by decide) rfl ?_
                refine j_keep [0, 1, 2, 3, 4, 5, 6] ?_
                refine B 0 _ _ (by omega) (by omega) (by omega) (fun z => ?_) (by omega) (by omega)
                have := hch k k0 (Int.le_refl _) (by omega)
                rw [a3 z] at c214
                omega
            refine j_iload G dX7_init_120 rfl ?_
            refine j_aload_n G dX7_init_122 rfl ?_
            refine jo_get G 1 hw.o dX7_init_123 rfl rfl (by decide) lf7_22 (Or.inl rfl) inT7 ?_
            refine j_iload G dX7_init_126 rfl ?_
            refine j_dlA G dX7_init_128 hwd (by first | omega | decide) (by omega) (by omega) ?_
            rw [hdr.1]
            refine j_aload_n G dX7_init_129 rfl ?_
            refine j_iload G dX7_init_130 rfl ?_
            refine j_cN_I G csL_cell (List.mem_of_getElem? (i := 0) rfl) (c_L_cell hi (by omega) hL2) dX7_init_132 (by first | exact ⟨by decide, by decide⟩ | (constructor <;> dsimp only <;> omega)) (by first | exact ⟨by decide, by decide⟩ | (constructor <;> dsimp only <;> omega)) rfl rfl (Nat.le_of_ble_eq_true rfl) (fun r132 h132 => ?_)
            refine j_iconst G dX7_init_135 ?_
            refine j_ishr G dX7_init_136 (iI_of _).symm ?_
            refine j_bipush G dX7_init_137 (by decide +kernel) ?_
            refine j_cN_I G csL_below (List.mem_of_getElem? (i := 1) rfl) (c_L_below hi (by omega)) dX7_init_139 (by first | exact ⟨by decide, by decide⟩ | (constructor <;> dsimp only <;> omega)) (by first | exact ⟨by decide, by decide⟩ | (constructor <;> dsimp only <;> omega)) rfl rfl (Nat.le_of_ble_eq_true rfl) (fun r139 h139 => ?_)
            refine j_iadd G dX7_init_142 ?_
            refine j_icmp_ge G 263 dX7_init_143 (by decide) (by omega) (by omega) (fun c143 => ?_) (fun c143 => ?_)
            · refine j_iinc G dX7_init_263 rfl (by decide) rfl ?_
              refine j_goto G 72 dX7_init_266 (by decide) ?_
              refine j_keep [0, 1, 2, 3, 4] ?_
              exact ih (j + 1) g4 Z2 Wd Wm P _ _ (by omega) (by omega) (by omega) hw (hJ.done j0 (by omega)) (by omega) (by omega)
            · refine j_iload G dX7_init_146 rfl ?_
              refine j_aload_n G dX7_init_148 rfl ?_
              refine jo_get G 1 hw.o dX7_init_149 rfl rfl (by decide) lf7_22 (Or.inl rfl) inT7 ?_
              refine j_iload G dX7_init_152 rfl ?_
              refine j_dlA G dX7_init_154 hwd (by first | omega | decide) (by omega) (by omega) ?_
              rw [hdr.1]
              refine j_icmp_ge G 163 dX7_init_155 (by decide) (by omega) (by omega) (fun c155 => ?_) (fun c155 => ?_)
              · refine j_aload_n G dX7_init_163 rfl ?_
                refine j_iconst G dX7_init_164 ?_
                refine j_iconst G dX7_init_165 ?_
                refine j_iload G dX7_init_166 rfl ?_
                refine j_imul G dX7_init_168 ?_
                refine j_iload G dX7_init_169 rfl ?_
                refine j_iadd G dX7_init_171 ?_
                refine j_bipush G dX7_init_172 (by decide +kernel) ?_
                refine j_irem G (by decide) (by decide) (by have h := rem31 (z := (5 * j + k).toNat) (n := 12) (by omega) (by decide) (by decide); rw [show (((5 * j + k).toNat : Nat) : Int) = 5 * j + k by omega] at h; exact h) dX7_init_174 ?_
                refine j_iadd G dX7_init_175 ?_
                have h12 := Nat.mod_lt (5 * j + k).toNat (show 0 < 12 by decide)
                refine j_cN_I G csL_cell (List.mem_of_getElem? (i := 0) rfl) (c_L_cell hi (by omega) hL2) dX7_init_176 (by first | exact ⟨by decide, by decide⟩ | (constructor <;> dsimp only <;> omega)) (by first | exact ⟨by decide, by decide⟩ | (constructor <;> dsimp only <;> omega)) rfl rfl (Nat.le_of_ble_eq_true rfl) (fun r176 h176 => ?_)
                refine j_iload G dX7_init_179 rfl ?_
                refine j_bipush G dX7_init_181 (by decide +kernel) ?_
                refine j_irem G (by decide) (by decide) (by have h := rem31 (z := k.toNat) (n := 6) (by omega) (by decide) (by decide); rw [show ((k.toNat : Nat) : Int) = k by omega] at h; exact h) dX7_init_183 ?_
                refine j_iconst G dX7_init_184 ?_
                refine j_imul G dX7_init_185 ?_
                refine j_ishr G dX7_init_186 (iI_of _).symm ?_
                refine j_aload_n G dX7_init_187 rfl ?_
                refine jo_get G 2 hw.o dX7_init_188 rfl rfl (by decide) lf7_25 (Or.inl rfl) inT7 ?_
                refine j_iload G dX7_init_191 rfl ?_
                refine j_dlA G dX7_init_193 hwm (by first | omega | decide) (by omega) (by omega) ?_
                rw [hdr.2.1, h24]
                refine j_cN_I G csL_below (List.mem_of_getElem? (i := 1) rfl) (c_L_below hi (by omega)) dX7_init_194 (by first | exact ⟨by decide, by decide⟩ | (constructor <;> dsimp only <;> omega)) (by first | exact ⟨by decide, by decide⟩ | (constructor <;> dsimp only <;> omega)) rfl rfl (Nat.le_of_ble_eq_true rfl) (fun r194 h194 => ?_)
                refine j_istore G dX7_init_197 (by decide) rfl ?_
                refine j_keep [0, 1, 2, 3, 4, 5, 6] ?_
                first
                | exact C k _ _ (by omega) (by omega) (fun _ => rfl) (by omega) (by omega)
                | exact C r194 _ _ (by omega) (by omega) (fun z => by omega) (by omega) (by omega)
              · refine j_iload G dX7_init_158 rfl ?_
                refine j_goto G 197 dX7_init_160 (by decide) ?_
                refine j_istore G dX7_init_197 (by decide) rfl ?_
                refine j_keep [0, 1, 2, 3, 4, 5, 6] ?_
                first
                | exact C k _ _ (by omega) (by omega) (fun _ => rfl) (by omega) (by omega)
                | exact C r194 _ _ (by omega) (by omega) (fun z => by omega) (by omega) (by omega)
        have hwd := hw.d
        have hlen := hw.len
        have hn0 := hC.1.2.1
        have hS1 := SP.rf Z1
        have hW1 := hC.1.1.1
        refine j_iload G dX7_init_72 rfl ?_
        refine j_iload_n G dX7_init_74 rfl ?_
        refine j_icmp_ge G 269 dX7_init_75 (by decide) (by omega) (by omega) (fun c75 => ?_) (fun c75 => ?_)
        · refine jr_GV G hQ hr dX7_init_269 (by first | decide | omega) (by first | decide | omega) ?_
          first | omega | (refine ⟨?_, ?_⟩ <;> (try intros) <;> first | rfl | omega | (exfalso; omega)) | simp
        · refine j_aload_n G dX7_init_78 rfl ?_
          refine jo_get G 1 hw.o dX7_init_79 rfl rfl (by decide) lf7_22 (Or.inl rfl) inT7 ?_
          refine j_iload G dX7_init_82 rfl ?_
          refine j_iconst G dX7_init_84 ?_
          refine j_aload_n G dX7_init_85 rfl ?_
          refine j_iload G dX7_init_86 rfl ?_
          refine j_cN_I G csL_cell (List.mem_of_getElem? (i := 0) rfl) (c_L_cell hi (by omega) hL2) dX7_init_88 (by first | exact ⟨by decide, by decide⟩ | (constructor <;> dsimp only <;> omega)) (by first | exact ⟨by decide, by decide⟩ | (constructor <;> dsimp only <;> omega)) rfl rfl (Nat.le_of_ble_eq_true rfl) (fun r88 h88 => ?_)
          refine j_iconst G dX7_init_91 ?_
          refine j_cN_I G csL_below (List.mem_of_getElem? (i := 1) rfl) (c_L_below hi (by omega)) dX7_init_92 (by first | exact ⟨by decide, by decide⟩ | (constructor <;> dsimp only <;> omega)) (by first | exact ⟨by decide, by decide⟩ | (constructor <;> dsimp only <;> omega)) rfl rfl (Nat.le_of_ble_eq_true rfl) (fun r92 h92 => ?_)
          refine j_iadd G dX7_init_95 ?_
          refine j_dst G dX7_init_96 hwd (by first | omega | decide | (simp only [List.length_set, List.length_replicate]; decide)) (by omega) (by first | omega | (simp only [List.length_set, List.length_replicate]; decide)) ?_
          refine j_aload_n G dX7_init_97 rfl ?_
          have hw1 := hw.sd j.toNat (1 + r92)
          have hwd1 := hw1.d
          have hlen1 := hw1.len
          clear hw hwd
          have hw := hw1
          have hg1 : (Wd.set j.toNat (1 + r92)).getD j.toNat 0 = 1 + r92 := getD_set_s (by omega)
          have hC1 : CI Z1 j (Wd.set j.toNat (1 + r92)) Wm P := ⟨hC.1, fun d d0 d1 => ⟨by
            have q := (hC.2 d d0 d1).1
            exact ⟨by rw [getD_set_n (by omega)]; exact q.1, q.2⟩, (hC.2 d d0 d1).2⟩⟩
          refine j_aload_n G dX7_init_98 rfl ?_
          refine jo_get G 1 hw.o dX7_init_99 rfl rfl (by decide) lf7_22 (Or.inl rfl) inT7 ?_
          refine j_iload G dX7_init_102 rfl ?_
          refine j_dlA G dX7_init_104 hwd1 (by first | omega | decide) (by omega) (by omega) ?_
          rw [hg1]
          have hlr : inR (1 + r92) := by omega
          refine j_cW_IZ G cvX6_addDimension ml7_50 (cm_of (c_X6_addDimension hi hst hS1 hW1 hlr) (by intro E9 L9 g9 X9 Z9 hx9; have hx9 := hx9.1; omega)) dX7_init_105 (by first | exact ⟨by decide, by decide⟩ | (constructor <;> dsimp only <;> omega)) (by first | exact ⟨by decide, by decide⟩ | (constructor <;> dsimp only <;> omega)) rfl rfl (Nat.le_of_ble_eq_true rfl) (by first | assumption | decide) rfl rfl rfl (fun r105 Z105 h105 => ?_)
          obtain ⟨q1, q2, q3, hM⟩ := h105
          have hwm := hw.m
          have hlen2 := hw.len
          have hw2 := hw.sm j.toNat 1
          have hJ := hC1.plant hM j0 (by omega) q1.1 q1.2 (by omega) (by omega) hg1
          refine j_pop G dX7_init_108 rfl ?_
          refine j_aload_n G dX7_init_109 rfl ?_
          refine jo_get G 2 hw.o dX7_init_110 rfl rfl (by decide) lf7_25 (Or.inl rfl) inT7 ?_
          refine j_iload G dX7_init_113 rfl ?_
          refine j_iconst G dX7_init_115 ?_
          refine j_dst G dX7_init_116 hwm (by first | omega | decide | (simp only [List.length_set, List.length_replicate]; decide)) (by omega) (by first | omega | (simp only [List.length_set, List.length_replicate]; decide)) ?_
          refine j_iconst G dX7_init_117 ?_
          refine j_istore G dX7_init_118 (by decide) rfl ?_
          refine j_keep [0, 1, 2, 3, 4, 5] ?_
          refine I _ 0 _ Z105 _ _ _ _ _ rfl ?_ ?_ hw2 hJ ?_ ?_
          · omega
          · omega
          · omega
          · omega
    refine j_iconst G dX7_init_69 ?_
    refine j_istore G dX7_init_70 (by decide) rfl ?_
    refine j_keep [0, 1, 2, 3, 4] ?_
    refine O _ 0 g2 Z Wd Wm _ _ _ rfl ?_ ?_ hw0 ⟨hZ, fun d d0 d1 => by omega⟩ ?_ ?_
    · omega
    · omega
    · omega
    · omega
  have hrep : ∀ (k : Nat) (d : Int), 0 ≤ d → (List.replicate k (0 : Int)).getD d.toNat 0 = 0 := fun k d d0 => by
    rw [List.getD_eq_getElem?_getD, List.getElem?_replicate]
    split <;> rfl
  rcases (show n = 2 ∨ n = 3 by omega) with rfl | rfl
  · exact mk_head_2 G hini haw hns (fun L2 g2 dp mb pa io pt lf va rw hw => M L2 g2 dp mb pa io pt lf va rw _ _ _ _ (fun d d0 _ => hrep 2 d d0) hw)
  · exact mk_head_3 G hini haw hns (fun L2 g2 dp mb pa io pt lf va rw hw => M L2 g2 dp mb pa io pt lf va rw _ _ _ _ (fun d d0 _ => hrep 3 d d0) hw)

