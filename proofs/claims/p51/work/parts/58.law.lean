theorem dL_law_0 : decode code 0 = .ok (.new 9, 3) := by decide +kernel
theorem dL_law_3 : decode code 3 = .ok (.dup, 1) := by decide +kernel
theorem dL_law_4 : decode code 4 = .ok (.invokespecial 11, 3) := by decide +kernel
theorem dL_law_7 : decode code 7 = .ok (.astore_n 1, 1) := by decide +kernel
theorem dL_law_8 : decode code 8 = .ok (.new 12, 3) := by decide +kernel
theorem dL_law_11 : decode code 11 = .ok (.dup, 1) := by decide +kernel
theorem dL_law_12 : decode code 12 = .ok (.aload_n 1, 1) := by decide +kernel
theorem dL_law_13 : decode code 13 = .ok (.aload_n 0, 1) := by decide +kernel
theorem dL_law_14 : decode code 14 = .ok (.iconst 2, 1) := by decide +kernel
theorem dL_law_15 : decode code 15 = .ok (.aload_n 0, 1) := by decide +kernel
theorem dL_law_16 : decode code 16 = .ok (.iconst 3, 1) := by decide +kernel
theorem dL_law_17 : decode code 17 = .ok (.invokestatic 14, 3) := by decide +kernel
theorem dL_law_20 : decode code 20 = .ok (.iconst 2, 1) := by decide +kernel
theorem dL_law_21 : decode code 21 = .ok (.invokestatic 20, 3) := by decide +kernel
theorem dL_law_24 : decode code 24 = .ok (.iadd, 1) := by decide +kernel
theorem dL_law_25 : decode code 25 = .ok (.invokespecial 24, 3) := by decide +kernel
theorem dL_law_28 : decode code 28 = .ok (.astore_n 2, 1) := by decide +kernel
theorem dL_law_29 : decode code 29 = .ok (.aload_n 2, 1) := by decide +kernel
theorem dL_law_30 : decode code 30 = .ok (.aload_n 1, 1) := by decide +kernel
theorem dL_law_31 : decode code 31 = .ok (.aload_n 0, 1) := by decide +kernel
theorem dL_law_32 : decode code 32 = .ok (.aload_n 0, 1) := by decide +kernel
theorem dL_law_33 : decode code 33 = .ok (.bipush 28, 2) := by decide +kernel
theorem dL_law_35 : decode code 35 = .ok (.invokestatic 14, 3) := by decide +kernel
theorem dL_law_38 : decode code 38 = .ok (.bipush 30, 2) := by decide +kernel
theorem dL_law_40 : decode code 40 = .ok (.invokestatic 20, 3) := by decide +kernel
theorem dL_law_43 : decode code 43 = .ok (.invokevirtual 27, 3) := by decide +kernel
theorem dL_law_46 : decode code 46 = .ok (.iconst 0, 1) := by decide +kernel
theorem dL_law_47 : decode code 47 = .ok (.istore_n 3, 1) := by decide +kernel
theorem dL_law_48 : decode code 48 = .ok (.iload_n 3, 1) := by decide +kernel
theorem dL_law_49 : decode code 49 = .ok (.bipush 36, 2) := by decide +kernel
theorem dL_law_51 : decode code 51 = .ok (.if_icmp .ge 88, 3) := by decide +kernel
theorem dL_law_54 : decode code 54 = .ok (.aload_n 1, 1) := by decide +kernel
theorem dL_law_55 : decode code 55 = .ok (.aload_n 2, 1) := by decide +kernel
theorem dL_law_56 : decode code 56 = .ok (.aload_n 0, 1) := by decide +kernel
theorem dL_law_57 : decode code 57 = .ok (.iconst 4, 1) := by decide +kernel
theorem dL_law_58 : decode code 58 = .ok (.iload_n 3, 1) := by decide +kernel
theorem dL_law_59 : decode code 59 = .ok (.bipush 30, 2) := by decide +kernel
theorem dL_law_61 : decode code 61 = .ok (.irem, 1) := by decide +kernel
theorem dL_law_62 : decode code 62 = .ok (.iadd, 1) := by decide +kernel
theorem dL_law_63 : decode code 63 = .ok (.invokestatic 14, 3) := by decide +kernel
theorem dL_law_66 : decode code 66 = .ok (.iload_n 3, 1) := by decide +kernel
theorem dL_law_67 : decode code 67 = .ok (.bipush 30, 2) := by decide +kernel
theorem dL_law_69 : decode code 69 = .ok (.idiv, 1) := by decide +kernel
theorem dL_law_70 : decode code 70 = .ok (.bipush 9, 2) := by decide +kernel
theorem dL_law_72 : decode code 72 = .ok (.imul, 1) := by decide +kernel
theorem dL_law_73 : decode code 73 = .ok (.ishr, 1) := by decide +kernel
theorem dL_law_74 : decode code 74 = .ok (.invokestatic 30, 3) := by decide +kernel
theorem dL_law_77 : decode code 77 = .ok (.aload_n 1, 1) := by decide +kernel
theorem dL_law_78 : decode code 78 = .ok (.invokevirtual 34, 3) := by decide +kernel
theorem dL_law_81 : decode code 81 = .ok (.lstore 4, 2) := by decide +kernel
theorem dL_law_83 : decode code 83 = .ok (.iload_n 3, 1) := by decide +kernel
theorem dL_law_84 : decode code 84 = .ok (.bipush 6, 2) := by decide +kernel
theorem dL_law_86 : decode code 86 = .ok (.irem, 1) := by decide +kernel
theorem dL_law_87 : decode code 87 = .ok (.iconst 5, 1) := by decide +kernel
theorem dL_law_88 : decode code 88 = .ok (.if_icmp .ne 45, 3) := by decide +kernel
theorem dL_law_91 : decode code 91 = .ok (.aload_n 1, 1) := by decide +kernel
theorem dL_law_92 : decode code 92 = .ok (.aload_n 2, 1) := by decide +kernel
theorem dL_law_93 : decode code 93 = .ok (.invokestatic 38, 3) := by decide +kernel
theorem dL_law_96 : decode code 96 = .ok (.ifCond .eq 35, 3) := by decide +kernel
theorem dL_law_99 : decode code 99 = .ok (.aload_n 1, 1) := by decide +kernel
theorem dL_law_100 : decode code 100 = .ok (.invokestatic 42, 3) := by decide +kernel
theorem dL_law_103 : decode code 103 = .ok (.ifCond .eq 28, 3) := by decide +kernel
theorem dL_law_106 : decode code 106 = .ok (.aload_n 1, 1) := by decide +kernel
theorem dL_law_107 : decode code 107 = .ok (.invokestatic 46, 3) := by decide +kernel
theorem dL_law_110 : decode code 110 = .ok (.ifCond .eq 21, 3) := by decide +kernel
theorem dL_law_113 : decode code 113 = .ok (.aload_n 1, 1) := by decide +kernel
theorem dL_law_114 : decode code 114 = .ok (.aload_n 2, 1) := by decide +kernel
theorem dL_law_115 : decode code 115 = .ok (.invokestatic 49, 3) := by decide +kernel
theorem dL_law_118 : decode code 118 = .ok (.ifCond .eq 13, 3) := by decide +kernel
theorem dL_law_121 : decode code 121 = .ok (.aload_n 1, 1) := by decide +kernel
theorem dL_law_122 : decode code 122 = .ok (.invokevirtual 34, 3) := by decide +kernel
theorem dL_law_125 : decode code 125 = .ok (.lload 4, 2) := by decide +kernel
theorem dL_law_127 : decode code 127 = .ok (.lcmp, 1) := by decide +kernel
theorem dL_law_128 : decode code 128 = .ok (.ifCond .eq 5, 3) := by decide +kernel
theorem dL_law_131 : decode code 131 = .ok (.iconst 0, 1) := by decide +kernel
theorem dL_law_132 : decode code 132 = .ok (.ireturn, 1) := by decide +kernel
theorem dL_law_133 : decode code 133 = .ok (.iinc 3 1, 3) := by decide +kernel
theorem dL_law_136 : decode code 136 = .ok (.goto (-88), 3) := by decide +kernel
theorem dL_law_139 : decode code 139 = .ok (.aload_n 1, 1) := by decide +kernel
theorem dL_law_140 : decode code 140 = .ok (.invokevirtual 52, 3) := by decide +kernel
theorem dL_law_143 : decode code 143 = .ok (.istore_n 3, 1) := by decide +kernel
theorem dL_law_144 : decode code 144 = .ok (.aload_n 1, 1) := by decide +kernel
theorem dL_law_145 : decode code 145 = .ok (.invokevirtual 56, 3) := by decide +kernel
theorem dL_law_148 : decode code 148 = .ok (.iload_n 3, 1) := by decide +kernel
theorem dL_law_149 : decode code 149 = .ok (.if_icmp .ne 12, 3) := by decide +kernel
theorem dL_law_152 : decode code 152 = .ok (.aload_n 1, 1) := by decide +kernel
theorem dL_law_153 : decode code 153 = .ok (.invokevirtual 59, 3) := by decide +kernel
theorem dL_law_156 : decode code 156 = .ok (.bipush 80, 2) := by decide +kernel
theorem dL_law_158 : decode code 158 = .ok (.if_icmp .le 5, 3) := by decide +kernel
theorem dL_law_161 : decode code 161 = .ok (.iconst 0, 1) := by decide +kernel
theorem dL_law_162 : decode code 162 = .ok (.ireturn, 1) := by decide +kernel
theorem dL_law_163 : decode code 163 = .ok (.iconst 0, 1) := by decide +kernel
theorem dL_law_164 : decode code 164 = .ok (.istore 4, 2) := by decide +kernel
theorem dL_law_166 : decode code 166 = .ok (.iload 4, 2) := by decide +kernel
theorem dL_law_168 : decode code 168 = .ok (.aload_n 2, 1) := by decide +kernel
theorem dL_law_169 : decode code 169 = .ok (.getfield 62, 3) := by decide +kernel
theorem dL_law_172 : decode code 172 = .ok (.if_icmp .ge 110, 3) := by decide +kernel
theorem dL_law_175 : decode code 175 = .ok (.iconst 0, 1) := by decide +kernel
theorem dL_law_176 : decode code 176 = .ok (.istore 5, 2) := by decide +kernel
theorem dL_law_178 : decode code 178 = .ok (.iload 5, 2) := by decide +kernel
theorem dL_law_180 : decode code 180 = .ok (.aload_n 2, 1) := by decide +kernel
theorem dL_law_181 : decode code 181 = .ok (.getfield 66, 3) := by decide +kernel
theorem dL_law_184 : decode code 184 = .ok (.iload 4, 2) := by decide +kernel
theorem dL_law_186 : decode code 186 = .ok (.iaload, 1) := by decide +kernel
theorem dL_law_187 : decode code 187 = .ok (.if_icmp .gt 89, 3) := by decide +kernel
theorem dL_law_190 : decode code 190 = .ok (.aload_n 1, 1) := by decide +kernel
theorem dL_law_191 : decode code 191 = .ok (.iload 4, 2) := by decide +kernel
theorem dL_law_193 : decode code 193 = .ok (.iload 5, 2) := by decide +kernel
theorem dL_law_195 : decode code 195 = .ok (.invokevirtual 70, 3) := by decide +kernel
theorem dL_law_198 : decode code 198 = .ok (.istore 6, 2) := by decide +kernel
theorem dL_law_200 : decode code 200 = .ok (.iload 4, 2) := by decide +kernel
theorem dL_law_202 : decode code 202 = .ok (.iconst 1, 1) := by decide +kernel
theorem dL_law_203 : decode code 203 = .ok (.iadd, 1) := by decide +kernel
theorem dL_law_204 : decode code 204 = .ok (.aload_n 2, 1) := by decide +kernel
theorem dL_law_205 : decode code 205 = .ok (.getfield 62, 3) := by decide +kernel
theorem dL_law_208 : decode code 208 = .ok (.irem, 1) := by decide +kernel
theorem dL_law_209 : decode code 209 = .ok (.istore 7, 2) := by decide +kernel
theorem dL_law_211 : decode code 211 = .ok (.iconst 0, 1) := by decide +kernel
theorem dL_law_212 : decode code 212 = .ok (.istore 8, 2) := by decide +kernel
theorem dL_law_214 : decode code 214 = .ok (.iload 8, 2) := by decide +kernel
theorem dL_law_216 : decode code 216 = .ok (.aload_n 2, 1) := by decide +kernel
theorem dL_law_217 : decode code 217 = .ok (.getfield 66, 3) := by decide +kernel
theorem dL_law_220 : decode code 220 = .ok (.iload 7, 2) := by decide +kernel
theorem dL_law_222 : decode code 222 = .ok (.iaload, 1) := by decide +kernel
theorem dL_law_223 : decode code 223 = .ok (.if_icmp .gt 38, 3) := by decide +kernel
theorem dL_law_226 : decode code 226 = .ok (.aload_n 1, 1) := by decide +kernel
theorem dL_law_227 : decode code 227 = .ok (.iload 7, 2) := by decide +kernel
theorem dL_law_229 : decode code 229 = .ok (.iload 8, 2) := by decide +kernel
theorem dL_law_231 : decode code 231 = .ok (.invokevirtual 70, 3) := by decide +kernel
theorem dL_law_234 : decode code 234 = .ok (.istore 9, 2) := by decide +kernel
theorem dL_law_236 : decode code 236 = .ok (.aload_n 1, 1) := by decide +kernel
theorem dL_law_237 : decode code 237 = .ok (.invokevirtual 56, 3) := by decide +kernel
theorem dL_law_240 : decode code 240 = .ok (.iload_n 3, 1) := by decide +kernel
theorem dL_law_241 : decode code 241 = .ok (.if_icmp .le 5, 3) := by decide +kernel
theorem dL_law_244 : decode code 244 = .ok (.iconst 0, 1) := by decide +kernel
theorem dL_law_245 : decode code 245 = .ok (.ireturn, 1) := by decide +kernel
theorem dL_law_246 : decode code 246 = .ok (.aload_n 1, 1) := by decide +kernel
theorem dL_law_247 : decode code 247 = .ok (.iload 7, 2) := by decide +kernel
theorem dL_law_249 : decode code 249 = .ok (.iload 9, 2) := by decide +kernel
theorem dL_law_251 : decode code 251 = .ok (.invokevirtual 70, 3) := by decide +kernel
theorem dL_law_254 : decode code 254 = .ok (.pop, 1) := by decide +kernel
theorem dL_law_255 : decode code 255 = .ok (.iinc 8 1, 3) := by decide +kernel
theorem dL_law_258 : decode code 258 = .ok (.goto (-44), 3) := by decide +kernel
theorem dL_law_261 : decode code 261 = .ok (.aload_n 1, 1) := by decide +kernel
theorem dL_law_262 : decode code 262 = .ok (.iload 4, 2) := by decide +kernel
theorem dL_law_264 : decode code 264 = .ok (.iload 6, 2) := by decide +kernel
theorem dL_law_266 : decode code 266 = .ok (.invokevirtual 70, 3) := by decide +kernel
theorem dL_law_269 : decode code 269 = .ok (.pop, 1) := by decide +kernel
theorem dL_law_270 : decode code 270 = .ok (.iinc 5 1, 3) := by decide +kernel
theorem dL_law_273 : decode code 273 = .ok (.goto (-95), 3) := by decide +kernel
theorem dL_law_276 : decode code 276 = .ok (.iinc 4 1, 3) := by decide +kernel
theorem dL_law_279 : decode code 279 = .ok (.goto (-113), 3) := by decide +kernel
theorem dL_law_282 : decode code 282 = .ok (.aload_n 1, 1) := by decide +kernel
theorem dL_law_283 : decode code 283 = .ok (.invokevirtual 56, 3) := by decide +kernel
theorem dL_law_286 : decode code 286 = .ok (.iload_n 3, 1) := by decide +kernel
theorem dL_law_287 : decode code 287 = .ok (.if_icmp .ne 7, 3) := by decide +kernel
theorem dL_law_290 : decode code 290 = .ok (.iconst 1, 1) := by decide +kernel
theorem dL_law_291 : decode code 291 = .ok (.goto 4, 3) := by decide +kernel
theorem dL_law_294 : decode code 294 = .ok (.iconst 0, 1) := by decide +kernel
theorem dL_law_295 : decode code 295 = .ok (.ireturn, 1) := by decide +kernel
/-! by program: wip/whole/gen.py out of wip/whole/src/58.law.eb -/
/-! the law: its end, its last loops, its loop, the World's making -/
section LWR
variable {p : Program} {l : Launch} {e : Env} {R : Room} {s : State} {m : MethodId} {args : Array Value} {below : List Frame} {meth : Method} {c : Code} {Q : State → Prop}
variable {D : va_G} {cys : Nat → ClassId} {ad : Nat → Int → Nat} {A : Nat → Prop} {cc : ByteArray} {own : String} {nL : Nat} {cells slots : Nat} {L : List Nat} {g : Nat → va_E} {X : Int64} {Z : ZT} {pc : Nat} {vs : List (Nat × Value)} {st : List Value}
theorem j_lcmpS (G : GG p l s m args meth c D cys ad A cc own nL) {x y : Int64} (hd : decode cc pc = .ok (.lcmp, 1)) (hxy : x = y) (kk : JJ p l e R s m args below meth c D cys ad A Q nL cells slots L g X Z (pc + 1) vs (.int (iI 0) :: st)) : JJ p l e R s m args below meth c D cys ad A Q nL cells slots L g X Z pc vs (.long y :: .long x :: st) := by
  subst hxy
  intro H locs ls hSL hP hD hS hl
  refine W.lcmp G.x G.b hd ?_
  have e1 : lg_cmp x x = iI 0 := by
    rw [iI_0]
    unfold lg_cmp
    rw [if_neg (Int64.lt_irrefl), if_pos rfl]
  rw [e1]
  exact kk H locs ls hSL hP hD hS hl
theorem j_cQ_IZ (G : GG p l s m args meth c D cys ad A cc own nL) {y : MethodName} {cc1 : ByteArray} {nL1 n fr lo mc ms idx : Nat} {ret : Option FieldType} {hh : List (Nat × Nat × Nat × Nat)} {As rest : List Value} {P : Int → ZT → Prop}
    (c1 : Cond.static y ∈ TW) (c2 : Cond.initialized y.cls ∈ TW) (c3 : Cond.codeWith y cc1 nL1 ret hh ∈ TW) (c4 : y.cls ≠ "java/lang/invoke/MethodHandle" ∧ y.cls ≠ "java/lang/invoke/VarHandle" ∧ (parseMethodDescriptor y.desc).map (fun d => d.parameters.length) = some n) (hlk : Cond.methodLink own idx y ∈ TW)
    (hM : CW l D cys ad y cc1 nL1 ret hh fr lo mc ms As L g X Z (PIZ L g X Z P)) (hd : decode cc pc = .ok (.invokestatic idx, 3))
    (hR : fr + 1 ≤ R.frames ∧ 8 + (nL1 + 11) + lo ≤ R.locals) (hcs : cells + mc ≤ R.cells ∧ slots + ms ≤ R.slots) (hst : st = As.reverse ++ rest) (hn : As.length = n) (hrest : (rest.map fun v => v.category).sum ≤ 8)
    (kk : ∀ (r : Int) (Z1 : ZT), P r Z1 → JJ p l e R s m args below meth c D cys ad A Q nL (cells + mc) (slots + ms) L g X Z1 (pc + 3) vs (.int (iI r) :: rest)) : JJ p l e R s m args below meth c D cys ad A Q nL cells slots L g X Z pc vs st := by
  refine j_callW G c1 c2 c3 c4 hlk hM hd hR hcs hst hn hrest (fun v L1 g1 X1 Z1 h => ?_)
  obtain ⟨r, rfl, h2, rfl, rfl, rfl⟩ := h
  exact kk r _ h2
theorem j_cQ_VZ (G : GG p l s m args meth c D cys ad A cc own nL) {y : MethodName} {cc1 : ByteArray} {nL1 n fr lo mc ms idx : Nat} {ret : Option FieldType} {hh : List (Nat × Nat × Nat × Nat)} {As rest : List Value} {P : ZT → Prop}
    (c1 : Cond.static y ∈ TW) (c2 : Cond.initialized y.cls ∈ TW) (c3 : Cond.codeWith y cc1 nL1 ret hh ∈ TW) (c4 : y.cls ≠ "java/lang/invoke/MethodHandle" ∧ y.cls ≠ "java/lang/invoke/VarHandle" ∧ (parseMethodDescriptor y.desc).map (fun d => d.parameters.length) = some n) (hlk : Cond.methodLink own idx y ∈ TW)
    (hM : CW l D cys ad y cc1 nL1 ret hh fr lo mc ms As L g X Z (PVZ L g X Z P)) (hd : decode cc pc = .ok (.invokestatic idx, 3))
    (hR : fr + 1 ≤ R.frames ∧ 8 + (nL1 + 11) + lo ≤ R.locals) (hcs : cells + mc ≤ R.cells ∧ slots + ms ≤ R.slots) (hst : st = As.reverse ++ rest) (hn : As.length = n) (hrest : (rest.map fun v => v.category).sum ≤ 8)
    (kk : ∀ Z1 : ZT, P Z1 → JJ p l e R s m args below meth c D cys ad A Q nL (cells + mc) (slots + ms) L g X Z1 (pc + 3) vs rest) : JJ p l e R s m args below meth c D cys ad A Q nL cells slots L g X Z pc vs st := by
  refine j_callW G c1 c2 c3 c4 hlk hM hd hR hcs hst hn hrest (fun v L1 g1 X1 Z1 h => ?_)
  obtain ⟨rfl, h2, rfl, rfl, rfl⟩ := h
  exact kk _ h2
end LWR
section LAWS
variable {p : Program} {l : Launch} {e : Env} {s : State} {m : MethodId} {below : List Frame} {meth : Method} {c : Code} {D : va_G} {cys : Nat → ClassId} {b : Nat} {ad : Nat → Int → Nat}
theorem law_end (G : GG p l s m #[Value.ref b] meth c D cys ad (fun q => s.heap.size ≤ q) code RL 10) (hr : meth.sig.returnType = ret) {L : List Nat} {g : Nat → va_E} {X : Int64} {Z : ZT} {vs : List (Nat × Value)} {cells slots : Nat} (hc : cells ≤ 890290) (hs : slots ≤ 6430754) : JJ p l e room_1 s m #[Value.ref b] below meth c D cys ad (fun q => s.heap.size ≤ q) (lw_Z below #[Value.ref b] s) 10 cells slots L g X Z 290 vs [] := by
  refine j_iconst G dL_law_290 ?_
  refine j_goto G 295 dL_law_291 (by decide) ?_
  intro H locs ls hSL hP hD hS hl
  refine va_forget (fun q hq => hS.2.2 q hq) ?_
  refine W.widen hc hs ?_
  have e1 : iI 1 = 1 := by decide +kernel
  rw [e1]
  exact lw_ret G.x G.b hr G.lk dL_law_295
set_option maxRecDepth 100000 in
set_option maxHeartbeats 8000000 in
theorem law_last (hi : injA ad) (hst : l.stackTraces = false) (G : GG p l s m #[Value.ref b] meth c D cys ad (fun q => s.heap.size ≤ q) code RL 10) (hr : meth.sig.returnType = ret) {L : List Nat} {g : Nat → va_E} {X : Int64} {Z : ZT} {aw : Nat} {n t : Int} {Wd : List Int} {cells slots : Nat} (hV : IV n Wd Z) (hw : WRX cys ad L g aw n Wd) (hc : cells ≤ 800000) (hs : slots ≤ 6000000) : JJ p l e room_1 s m #[Value.ref b] below meth c D cys ad (fun q => s.heap.size ≤ q) (lw_Z below #[Value.ref b] s) 10 cells slots L g X Z 139 [(0, .ref (ad 40 0)), (1, .ref (ad 0 0)), (2, .ref aw), (3, .int (iI t))] [] := by
  have hrc : room_1.cells = 890290 := rfl
  have hrs : room_1.slots = 6430754 := rfl
  have hW := hV.1.1
  have hn := hV.2.2.1
  obtain ⟨dp, v2, v3, v4, v5, v6, v7, v8, hO, hA, hl⟩ := hw
  have had := ad_is hW
  obtain ⟨T, hT⟩ : ∃ T, T = zS Z 0 0 6 (adF Z 256).2 := ⟨_, rfl⟩
  have hVT : IV n Wd T := by rw [hT]; exact hV.lev had.2.1
  have hWT := hVT.1.1
  have hT6 : T 0 0 6 = (adF Z 256).2 := by rw [hT]; exact zS_s
  have hT2 : T 2 = Z 2 := by rw [hT]; exact zS_k (by decide)
  have hgT : ∀ L, GAIN T L = GAIN Z L := fun L => by rw [hT]; exact GAIN_6 Z _ L
  obtain ⟨mg, hmg⟩ : ∃ mg, mg = (adF Z 256).1 := ⟨_, rfl⟩
  have hmr : 0 ≤ mg ∧ mg ≤ 20480 := by rw [hmg, ← had.1]; exact GAIN_in hW had.2.1.2.1
  have hmT : GAIN T (T 0 0 6) = mg := by rw [hgT, hT6, had.1, hmg]
  have hn5 := hVT.2.1
  have K : ∀ (nn : Nat) (d : Int) (Z1 : ZT) (cells slots : Nat), (n - d).toNat = nn → 0 ≤ d → d ≤ n → SP T Z1 → cells + 200 * nn ≤ 880000 → slots + 1200 * nn ≤ 6400000 → JJ p l e room_1 s m #[Value.ref b] below meth c D cys ad (fun q => s.heap.size ≤ q) (lw_Z below #[Value.ref b] s) 10 cells slots L g X Z1 166 [(0, .ref (ad 40 0)), (1, .ref (ad 0 0)), (2, .ref aw), (3, .int (iI mg)), (4, .int (iI d))] [] := by
    intro nn
    induction nn with
    | zero =>
      intro d Z1 cells slots hnn d0 d1 hS1 hc hs
      refine j_iload G dL_law_166 rfl ?_
      refine j_aload_n G dL_law_168 rfl ?_
      refine jo_getN G 0 hO dL_law_169 rfl rfl (by decide) (List.mem_of_getElem? (i := 0) rfl) (Or.inl rfl) inT7 ?_
      refine j_icmp_ge G 282 dL_law_172 (by decide) (by omega) (by omega) (fun c172 => ?_) (fun c172 => ?_)
      · refine j_aload_n G dL_law_282 rfl ?_
        refine j_cVIZ G cvX6_gain mlL_56 (c_X6_gain hi hS1 hWT) dL_law_283 ⟨by decide, by decide⟩ (by first | exact ⟨by decide, by decide⟩ | (constructor <;> omega)) rfl rfl (Nat.le_of_ble_eq_true rfl) (by first | assumption | decide) rfl rfl rfl (fun r283 Z283 h283 => ?_)
        obtain ⟨h283, hS2⟩ := h283
        rw [hmT] at h283
        refine j_iload_n G dL_law_286 rfl ?_
        refine j_icmp_ne G 294 dL_law_287 (by decide) (by omega) (by omega) (fun c287 => ?_) (fun c287 => ?_)
        · exfalso; omega
        · exact law_end G hr (by omega) (by omega)
      · exfalso; omega
    | succ nn ih =>
      intro d Z1 cells slots hnn d0 d1 hS1 hc hs
      have hd4 : d < 4 := by omega
      have hdp := hWT.deep d0 hd4
      have hWd := hVT.2.2.2.1 d d0 (by omega)
      have hlo := hWT.lv.2.2 d d0 hd4
      have hll := lvl_in (T 0 0 6) d
      have J : ∀ (mm : Nat) (q : Int) (Z2 : ZT) (cells slots : Nat), (T 2 d 3 + 1 - q).toNat = mm → 0 ≤ q → q ≤ T 2 d 3 + 1 → SP T Z2 → cells + 30 * mm + 200 * nn ≤ 880000 → slots + 180 * mm + 1200 * nn ≤ 6400000 → JJ p l e room_1 s m #[Value.ref b] below meth c D cys ad (fun q => s.heap.size ≤ q) (lw_Z below #[Value.ref b] s) 10 cells slots L g X Z2 178 [(0, .ref (ad 40 0)), (1, .ref (ad 0 0)), (2, .ref aw), (3, .int (iI mg)), (4, .int (iI d)), (5, .int (iI q))] [] := by
        intro mm
        induction mm with
        | zero =>
          intro q Z2 cells slots hmm q0 q1 hS2 hc hs
          refine j_iload G dL_law_178 rfl ?_
          refine j_aload_n G dL_law_180 rfl ?_
          refine jo_getN G 1 hO dL_law_181 rfl rfl (by decide) (List.mem_of_getElem? (i := 1) rfl) (Or.inl rfl) inT7 ?_
          refine j_iload G dL_law_184 rfl ?_
          refine j_dlA G dL_law_186 hA (by first | omega | decide) (by omega) (by omega) ?_
          refine j_icmp_gt G 276 dL_law_187 (by decide) (by omega) (by omega) (fun c187 => ?_) (fun c187 => ?_)
          · refine j_iinc G dL_law_276 rfl (by decide) rfl ?_
            refine j_goto G 166 dL_law_279 (by decide) ?_
            refine j_keep [0, 1, 2, 3, 4] ?_
            exact ih (d + 1) Z2 _ _ (by omega) (by omega) (by omega) hS2 (by omega) (by omega)
          · exfalso; omega
        | succ mm ihq =>
          intro q Z2 cells slots hmm q0 q1 hS2 hc hs
          have hVU := hVT.lvS d0 hd4 (v := q) q0 (by omega)
          have hWU := hVU.1.1
          have hmod := Nat.mod_lt (d + 1).toNat (show 0 < n.toNat by omega)
          have M : ∀ (kk : Nat) (ee f : Int) (Z3 : ZT) (cells slots : Nat), 0 ≤ ee → ee < n → (T 2 ee 3 + 1 - f).toNat = kk → 0 ≤ f → f ≤ T 2 ee 3 + 1 → SP (lvS T d q) Z3 → cells + 4 * kk + 2 + 30 * mm + 200 * nn ≤ 880000 → slots + 24 * kk + 12 + 180 * mm + 1200 * nn ≤ 6400000 → JJ p l e room_1 s m #[Value.ref b] below meth c D cys ad (fun q => s.heap.size ≤ q) (lw_Z below #[Value.ref b] s) 10 cells slots L g X Z3 214 [(0, .ref (ad 40 0)), (1, .ref (ad 0 0)), (2, .ref aw), (3, .int (iI mg)), (4, .int (iI d)), (5, .int (iI q)), (6, .int (iI (lvl (T 0 0 6) d))), (7, .int (iI ee)), (8, .int (iI f))] [] := by
            intro kk
            induction kk with
            | zero =>
              intro ee f Z3 cells slots e0 e1 hkk f0 f1 hS3 hc hs
              have he4 : ee < 4 := by omega
              have hdq := hWT.deep e0 he4
              have hWe := hVT.2.2.2.1 ee e0 (by omega)
              have e5 := lvS_5 T d q
              have e2 : lvS T d q 2 d 3 = T 2 d 3 := by rw [lvS_k _ _ _ (by decide)]
              refine j_iload G dL_law_214 rfl ?_
              refine j_aload_n G dL_law_216 rfl ?_
              refine jo_getN G 1 hO dL_law_217 rfl rfl (by decide) (List.mem_of_getElem? (i := 1) rfl) (Or.inl rfl) inT7 ?_
              refine j_iload G dL_law_220 rfl ?_
              refine j_dlA G dL_law_222 hA (by first | omega | decide) (by omega) (by omega) ?_
              refine j_icmp_gt G 261 dL_law_223 (by decide) (by omega) (by omega) (fun c223 => ?_) (fun c223 => ?_)
              · refine j_aload_n G dL_law_261 rfl ?_
                refine j_iload G dL_law_262 rfl ?_
                refine j_iload G dL_law_264 rfl ?_
                refine j_cW_IZ G cvX6_setLevel mlL_70 (cm_of (c_X6_setLevel2 hi hst hS3 hWU (by omega) (by omega)) (by intro E9 L9 g9 X9 Z9 hx9; have hx9 := hx9.1; omega)) dL_law_266 (by first | exact ⟨by decide, by decide⟩ | (constructor <;> omega)) (by first | exact ⟨by decide, by decide⟩ | (constructor <;> omega)) rfl rfl (Nat.le_of_ble_eq_true rfl) (by first | assumption | decide) rfl rfl rfl (fun r266 Z266 h266 => ?_)
                refine j_pop G dL_law_269 rfl ?_
                refine j_iinc G dL_law_270 rfl (by decide) rfl ?_
                refine j_goto G 178 dL_law_273 (by decide) ?_
                obtain ⟨-, -, hS4⟩ := h266
                rw [lvS_back hWT d0 hd4 (by omega) (by omega)] at hS4
                refine j_keep [0, 1, 2, 3, 4, 5] ?_
                exact ihq (q + 1) Z266 _ _ (by omega) (by omega) (by omega) hS4 (by omega) (by omega)
              · exfalso; omega
            | succ kk ihf =>
              intro ee f Z3 cells slots e0 e1 hkk f0 f1 hS3 hc hs
              have he4 : ee < 4 := by omega
              have hdq := hWT.deep e0 he4
              have hWe := hVT.2.2.2.1 ee e0 (by omega)
              have e5 := lvS_5 T d q
              have e2 : lvS T d q 2 ee 3 = T 2 ee 3 := by rw [lvS_k _ _ _ (by decide)]
              have hVV := hVU.lvS e0 he4 (v := f) f0 (by omega)
              have hWV := hVV.1.1
              have hlv := lvl_in (lvS T d q 0 0 6) ee
              have hlu := hWU.lv.2.2 ee e0 he4
              have e5v := lvS_5 (lvS T d q) ee f
              have e2v : lvS (lvS T d q) ee f 2 ee 3 = lvS T d q 2 ee 3 := by rw [lvS_k _ _ _ (by decide)]
              have hLV := hWV.lv
              have hLZ : LOK Z (lvS (lvS T d q) ee f 0 0 6) := by
                refine ⟨hLV.1, hLV.2.1, fun i i0 i1 => ?_⟩
                have h := hLV.2.2 i i0 i1
                rw [show lvS (lvS T d q) ee f 2 = Z 2 by rw [lvS_k _ _ _ (by decide), lvS_k _ _ _ (by decide), hT2]] at h
                exact h
              have hgm := adF_max (S := Z) 256 _ hLV.1 hLV.2.1 hLZ
              have hgi := GAIN_in hW hLV.2.1
              refine j_iload G dL_law_214 rfl ?_
              refine j_aload_n G dL_law_216 rfl ?_
              refine jo_getN G 1 hO dL_law_217 rfl rfl (by decide) (List.mem_of_getElem? (i := 1) rfl) (Or.inl rfl) inT7 ?_
              refine j_iload G dL_law_220 rfl ?_
              refine j_dlA G dL_law_222 hA (by first | omega | decide) (by omega) (by omega) ?_
              refine j_icmp_gt G 261 dL_law_223 (by decide) (by omega) (by omega) (fun c223 => ?_) (fun c223 => ?_)
              · exfalso; omega
              · refine j_aload_n G dL_law_226 rfl ?_
                refine j_iload G dL_law_227 rfl ?_
                refine j_iload G dL_law_229 rfl ?_
                refine j_cW_IZ G cvX6_setLevel mlL_70 (cm_of (c_X6_setLevel2 hi hst hS3 hWU (by omega) (by omega)) (by intro E9 L9 g9 X9 Z9 hx9; have hx9 := hx9.1; omega)) dL_law_231 (by first | exact ⟨by decide, by decide⟩ | (constructor <;> omega)) (by first | exact ⟨by decide, by decide⟩ | (constructor <;> omega)) rfl rfl (Nat.le_of_ble_eq_true rfl) (by first | assumption | decide) rfl rfl rfl (fun r231 Z231 h231 => ?_)
                obtain ⟨-, h231, hS4⟩ := h231
                subst h231
                refine j_istore G dL_law_234 (by decide) rfl ?_
                refine j_aload_n G dL_law_236 rfl ?_
                refine j_cVIZ G cvX6_gain mlL_56 (c_X6_gain hi hS4 hWV) dL_law_237 ⟨by decide, by decide⟩ (by first | exact ⟨by decide, by decide⟩ | (constructor <;> omega)) rfl rfl (Nat.le_of_ble_eq_true rfl) (by first | assumption | decide) rfl rfl rfl (fun r237 Z237 h237 => ?_)
                obtain ⟨h237, hS5⟩ := h237
                have hgg : r237 = GAIN Z (lvS (lvS T d q) ee f 0 0 6) := by
                  rw [h237, ← hgT]
                  unfold lvS
                  rw [GAIN_6, GAIN_6]
                refine j_iload_n G dL_law_240 rfl ?_
                refine j_icmp_le G 246 dL_law_241 (by decide) (by omega) (by omega) (fun c241 => ?_) (fun c241 => ?_)
                · refine j_aload_n G dL_law_246 rfl ?_
                  refine j_iload G dL_law_247 rfl ?_
                  refine j_iload G dL_law_249 rfl ?_
                  refine j_cW_IZ G cvX6_setLevel mlL_70 (cm_of (c_X6_setLevel2 hi hst hS5 hWV (by omega) (by omega)) (by intro E9 L9 g9 X9 Z9 hx9; have hx9 := hx9.1; omega)) dL_law_251 (by first | exact ⟨by decide, by decide⟩ | (constructor <;> omega)) (by first | exact ⟨by decide, by decide⟩ | (constructor <;> omega)) rfl rfl (Nat.le_of_ble_eq_true rfl) (by first | assumption | decide) rfl rfl rfl (fun r251 Z251 h251 => ?_)
                  refine j_pop G dL_law_254 rfl ?_
                  refine j_iinc G dL_law_255 rfl (by decide) rfl ?_
                  refine j_goto G 214 dL_law_258 (by decide) ?_
                  obtain ⟨-, -, hS6⟩ := h251
                  rw [lvS_back hWU e0 he4 f0 (by omega)] at hS6
                  refine j_keep [0, 1, 2, 3, 4, 5, 6, 7, 8] ?_
                  exact ihf ee (f + 1) Z251 _ _ e0 e1 (by omega) (by omega) (by omega) hS6 (by omega) (by omega)
                · exfalso; omega
          refine j_iload G dL_law_178 rfl ?_
          refine j_aload_n G dL_law_180 rfl ?_
          refine jo_getN G 1 hO dL_law_181 rfl rfl (by decide) (List.mem_of_getElem? (i := 1) rfl) (Or.inl rfl) inT7 ?_
          refine j_iload G dL_law_184 rfl ?_
          refine j_dlA G dL_law_186 hA (by first | omega | decide) (by omega) (by omega) ?_
          refine j_icmp_gt G 276 dL_law_187 (by decide) (by omega) (by omega) (fun c187 => ?_) (fun c187 => ?_)
          · exfalso; omega
          · refine j_aload_n G dL_law_190 rfl ?_
            refine j_iload G dL_law_191 rfl ?_
            refine j_iload G dL_law_193 rfl ?_
            refine j_cW_IZ G cvX6_setLevel mlL_70 (cm_of (c_X6_setLevel2 hi hst hS2 hWT (by omega) (by omega)) (by intro E9 L9 g9 X9 Z9 hx9; have hx9 := hx9.1; omega)) dL_law_195 (by first | exact ⟨by decide, by decide⟩ | (constructor <;> omega)) (by first | exact ⟨by decide, by decide⟩ | (constructor <;> omega)) rfl rfl (Nat.le_of_ble_eq_true rfl) (by first | assumption | decide) rfl rfl rfl (fun r195 Z195 h195 => ?_)
            obtain ⟨-, h195, hS3⟩ := h195
            subst h195
            refine j_istore G dL_law_198 (by decide) rfl ?_
            refine j_iload G dL_law_200 rfl ?_
            refine j_iconst G dL_law_202 ?_
            refine j_iadd G dL_law_203 ?_
            refine j_aload_n G dL_law_204 rfl ?_
            refine jo_getN G 0 hO dL_law_205 rfl rfl (by decide) (List.mem_of_getElem? (i := 0) rfl) (Or.inl rfl) inT7 ?_
            refine j_irem G (by omega) (by omega) (by have h := rem31 (z := (d + 1).toNat) (n := n.toNat) (by omega) (by omega) (by omega); rw [show (((d + 1).toNat : Nat) : Int) = d + 1 by omega, show ((n.toNat : Nat) : Int) = n by omega] at h; exact h) dL_law_208 ?_
            refine j_istore G dL_law_209 (by decide) rfl ?_
            refine j_iconst G dL_law_211 ?_
            refine j_istore G dL_law_212 (by decide) rfl ?_
            refine j_keep [0, 1, 2, 3, 4, 5, 6, 7, 8] ?_
            have hde := hWT.deep (d := (((d + 1).toNat % n.toNat : Nat) : Int)) (by omega) (by omega)
            exact M _ _ 0 Z195 _ _ (by omega) (by omega) rfl (by omega) (by omega) hS3 (by omega) (by omega)
      refine j_iload G dL_law_166 rfl ?_
      refine j_aload_n G dL_law_168 rfl ?_
      refine jo_getN G 0 hO dL_law_169 rfl rfl (by decide) (List.mem_of_getElem? (i := 0) rfl) (Or.inl rfl) inT7 ?_
      refine j_icmp_ge G 282 dL_law_172 (by decide) (by omega) (by omega) (fun c172 => ?_) (fun c172 => ?_)
      · exfalso; omega
      · refine j_iconst G dL_law_175 ?_
        refine j_istore G dL_law_176 (by decide) rfl ?_
        refine j_keep [0, 1, 2, 3, 4, 5] ?_
        exact J _ 0 Z1 _ _ rfl (by omega) (by omega) hS1 (by omega) (by omega)
  refine j_aload_n G dL_law_139 rfl ?_
  refine j_cVIZ G cvX6_advise mlL_52 (c_X6_advise hi (SP.rf Z) hW) dL_law_140 ⟨by decide, by decide⟩ (by first | exact ⟨by decide, by decide⟩ | (constructor <;> omega)) rfl rfl (Nat.le_of_ble_eq_true rfl) (by first | assumption | decide) rfl rfl rfl (fun r140 Z140 h140 => ?_)
  obtain ⟨h140, hS1⟩ := h140
  rw [← hT] at hS1
  rw [← hmg] at h140
  subst h140
  refine j_istore_n G dL_law_143 (by decide) rfl ?_
  refine j_aload_n G dL_law_144 rfl ?_
  refine j_cVIZ G cvX6_gain mlL_56 (c_X6_gain hi hS1 hWT) dL_law_145 ⟨by decide, by decide⟩ (by first | exact ⟨by decide, by decide⟩ | (constructor <;> omega)) rfl rfl (Nat.le_of_ble_eq_true rfl) (by first | assumption | decide) rfl rfl rfl (fun r145 Z145 h145 => ?_)
  obtain ⟨h145, hS2⟩ := h145
  rw [hmT] at h145
  refine j_iload_n G dL_law_148 rfl ?_
  refine j_icmp_ne G 161 dL_law_149 (by decide) (by omega) (by omega) (fun c149 => ?_) (fun c149 => ?_)
  · exfalso; omega
  · refine j_aload_n G dL_law_152 rfl ?_
    refine j_cVI G cvX6_facts mlL_59 (c_X6_facts hi ) dL_law_153 ⟨by decide, by decide⟩ (by first | exact ⟨by decide, by decide⟩ | (constructor <;> omega)) rfl rfl (Nat.le_of_ble_eq_true rfl) (by first | assumption | decide) rfl rfl rfl (fun r153 h153 => ?_)
    have hf := hWT.f
    have e6 : Z145 6 0 3 = T 6 0 3 := by rw [hS2.1 6 rfl]
    refine j_bipush G dL_law_156 (by decide +kernel) ?_
    refine j_icmp_le G 163 dL_law_158 (by decide) (by omega) (by omega) (fun c158 => ?_) (fun c158 => ?_)
    · refine j_iconst G dL_law_163 ?_
      refine j_istore G dL_law_164 (by decide) rfl ?_
      refine j_keep [0, 1, 2, 3, 4] ?_
      exact K _ 0 Z145 _ _ rfl (by omega) (by omega) hS2 (by omega) (by omega)
    · exfalso; omega
set_option maxRecDepth 100000 in
set_option maxHeartbeats 8000000 in
theorem law_loop (hi : injA ad) (hst : l.stackTraces = false) (G : GG p l s m #[Value.ref b] meth c D cys ad (fun q => s.heap.size ≤ q) code RL 10) (hr : meth.sig.returnType = ret) (hL2 : ad 40 1 < 1000) {L : List Nat} {g : Nat → va_E} {X : Int64} {aw : Nat} {n : Int} {Wd : List Int} (hw : WRX cys ad L g aw n Wd) : ∀ (nn : Nat) (t : Int) (Z : ZT) (cells slots : Nat), (36 - t).toNat = nn → 0 ≤ t → t ≤ 36 → IV n Wd Z → cells + 7000 * nn ≤ 400000 → slots + 42000 * nn ≤ 4000000 → JJ p l e room_1 s m #[Value.ref b] below meth c D cys ad (fun q => s.heap.size ≤ q) (lw_Z below #[Value.ref b] s) 10 cells slots L g X Z 48 [(0, .ref (ad 40 0)), (1, .ref (ad 0 0)), (2, .ref aw), (3, .int (iI t))] [] := by
  have hrc : room_1.cells = 890290 := rfl
  have hrs : room_1.slots = 6430754 := rfl
  intro nn
  induction nn with
  | zero =>
    intro t Z cells slots hnn t0 t1 hV hc hs
    refine j_iload_n G dL_law_48 rfl ?_
    refine j_bipush G dL_law_49 (by decide +kernel) ?_
    refine j_icmp_ge G 139 dL_law_51 (by decide) (by omega) (by omega) (fun c51 => ?_) (fun c51 => ?_)
    · exact law_last hi hst G hr hV hw (by omega) (by omega)
    · exfalso; omega
  | succ nn ih =>
    intro t Z cells slots hnn t0 t1 hV hc hs
    have hm30 := Nat.mod_lt t.toNat (show 0 < 30 by decide)
    have hm6 := Nat.mod_lt t.toNat (show 0 < 6 by decide)
    have et : ((t.toNat : Nat) : Int) = t := by omega
    refine j_iload_n G dL_law_48 rfl ?_
    refine j_bipush G dL_law_49 (by decide +kernel) ?_
    refine j_icmp_ge G 139 dL_law_51 (by decide) (by omega) (by omega) (fun c51 => ?_) (fun c51 => ?_)
    · exfalso; omega
    · refine j_aload_n G dL_law_54 rfl ?_
      refine j_aload_n G dL_law_55 rfl ?_
      refine j_aload_n G dL_law_56 rfl ?_
      refine j_iconst G dL_law_57 ?_
      refine j_iload_n G dL_law_58 rfl ?_
      refine j_bipush G dL_law_59 (by decide +kernel) ?_
      refine j_irem G (by decide) (by decide) (by have h := rem31 (z := t.toNat) (n := 30) (by omega) (by decide) (by decide); rw [et] at h; exact h) dL_law_61 ?_
      refine j_iadd G dL_law_62 ?_
      refine j_cSI G csL_cell mlL_14 rfl (c_L_cell hi (by omega) hL2) dL_law_63 ⟨by decide, by decide⟩ (by first | exact ⟨by decide, by decide⟩ | (constructor <;> omega)) rfl rfl (Nat.le_of_ble_eq_true rfl) (fun r63 h63 => ?_)
      refine j_iload_n G dL_law_66 rfl ?_
      refine j_bipush G dL_law_67 (by decide +kernel) ?_
      refine j_idiv G dL_law_69 (by decide +kernel) (iI_of _).symm ?_
      refine j_bipush G dL_law_70 (by decide +kernel) ?_
      refine j_imul G dL_law_72 ?_
      refine j_ishr G dL_law_73 (iI_of _).symm ?_
      refine j_cQ_VZ G (n := 3) (TW_of 844 (by decide +kernel) (by decide +kernel)) (TW_of 35 (by decide +kernel) (by decide +kernel)) (TW_of 845 (by decide +kernel) (by decide +kernel)) ⟨by decide +kernel, by decide +kernel, by decide +kernel⟩ mlL_30 (c_L_act hi hst hV hw) dL_law_74 (by first | exact ⟨by decide, by decide⟩ | (constructor <;> omega)) (by first | exact ⟨by decide, by decide⟩ | (constructor <;> omega)) rfl rfl (Nat.le_of_ble_eq_true rfl) (fun Z74 hV1 => ?_)
      have hW1 := hV1.1.1
      refine j_aload_n G dL_law_77 rfl ?_
      refine j_cVJZ G cvX6_digest mlL_34 (c_X6_digest hi (SP.rf Z74) hW1) dL_law_78 ⟨by decide, by decide⟩ (by first | exact ⟨by decide, by decide⟩ | (constructor <;> omega)) rfl rfl (Nat.le_of_ble_eq_true rfl) (by first | assumption | decide) rfl rfl rfl (fun r78 Z78 h78 => ?_)
      obtain ⟨h78, hS1⟩ := h78
      refine j_lstore G dL_law_81 (by decide) rfl ?_
      refine j_iload_n G dL_law_83 rfl ?_
      refine j_bipush G dL_law_84 (by decide +kernel) ?_
      refine j_irem G (by decide) (by decide) (by have h := rem31 (z := t.toNat) (n := 6) (by omega) (by decide) (by decide); rw [et] at h; exact h) dL_law_86 ?_
      refine j_iconst G dL_law_87 ?_
      refine j_icmp_ne G 133 dL_law_88 (by decide) (by omega) (by omega) (fun c88 => ?_) (fun c88 => ?_)
      · refine j_iinc G dL_law_133 rfl (by decide) rfl ?_
        refine j_goto G 48 dL_law_136 (by decide) ?_
        refine j_keep [0, 1, 2, 3] ?_
        first | exact ih (t + 1) Z122 _ _ (by omega) (by omega) (by omega) (hV1.sp hS6) (by omega) (by omega) | exact ih (t + 1) Z78 _ _ (by omega) (by omega) (by omega) (hV1.sp hS1) (by omega) (by omega)
      · refine j_aload_n G dL_law_91 rfl ?_
        refine j_aload_n G dL_law_92 rfl ?_
        refine j_cU_IZ G csL_arePartsRight mlL_38 rfl (c_L_arePartsRight hi hst hS1 hV1 hw) dL_law_93 (by first | exact ⟨by decide, by decide⟩ | (constructor <;> omega)) (by first | exact ⟨by decide, by decide⟩ | (constructor <;> omega)) rfl rfl (Nat.le_of_ble_eq_true rfl) (fun r93 Z93 h93 => ?_)
        obtain ⟨h93, hS2⟩ := h93
        refine j_if_eq G 131 dL_law_96 (by decide) (by omega) (fun c96 => ?_) (fun c96 => ?_)
        · exfalso; omega
        · refine j_aload_n G dL_law_99 rfl ?_
          refine j_cQ_IZ G (n := 1) (TW_of 973 (by decide +kernel) (by decide +kernel)) (TW_of 35 (by decide +kernel) (by decide +kernel)) (TW_of 974 (by decide +kernel) (by decide +kernel)) ⟨by decide +kernel, by decide +kernel, by decide +kernel⟩ mlL_42 (c_L_isTableWhole hi hst hS2 hW1) dL_law_100 (by first | exact ⟨by decide, by decide⟩ | (constructor <;> omega)) (by first | exact ⟨by decide, by decide⟩ | (constructor <;> omega)) rfl rfl (Nat.le_of_ble_eq_true rfl) (fun r100 Z100 h100 => ?_)
          obtain ⟨h100, hS3⟩ := h100
          refine j_if_eq G 131 dL_law_103 (by decide) (by omega) (fun c103 => ?_) (fun c103 => ?_)
          · exfalso; omega
          · refine j_aload_n G dL_law_106 rfl ?_
            refine j_cU_IZ G csL_areCostsRight mlL_46 rfl (c_L_areCostsRight hi hst hS3 hW1 hV1.2.2.2.2) dL_law_107 (by first | exact ⟨by decide, by decide⟩ | (constructor <;> omega)) (by first | exact ⟨by decide, by decide⟩ | (constructor <;> omega)) rfl rfl (Nat.le_of_ble_eq_true rfl) (fun r107 Z107 h107 => ?_)
            obtain ⟨h107, hS4⟩ := h107
            refine j_if_eq G 131 dL_law_110 (by decide) (by omega) (fun c110 => ?_) (fun c110 => ?_)
            · exfalso; omega
            · refine j_aload_n G dL_law_113 rfl ?_
              refine j_aload_n G dL_law_114 rfl ?_
              refine j_cU_IZ G csL_areFinerMore mlL_49 rfl (c_L_areFinerMore hi hst hS4 hV1 hw) dL_law_115 (by first | exact ⟨by decide, by decide⟩ | (constructor <;> omega)) (by first | exact ⟨by decide, by decide⟩ | (constructor <;> omega)) rfl rfl (Nat.le_of_ble_eq_true rfl) (fun r115 Z115 h115 => ?_)
              obtain ⟨h115, hS5⟩ := h115
              refine j_if_eq G 131 dL_law_118 (by decide) (by omega) (fun c118 => ?_) (fun c118 => ?_)
              · exfalso; omega
              · refine j_aload_n G dL_law_121 rfl ?_
                refine j_cVJZ G cvX6_digest mlL_34 (c_X6_digest hi hS5 hW1) dL_law_122 ⟨by decide, by decide⟩ (by first | exact ⟨by decide, by decide⟩ | (constructor <;> omega)) rfl rfl (Nat.le_of_ble_eq_true rfl) (by first | assumption | decide) rfl rfl rfl (fun r122 Z122 h122 => ?_)
                obtain ⟨h122, hS6⟩ := h122
                refine j_lload G dL_law_125 rfl ?_
                refine j_lcmpS G dL_law_127 (by rw [h122, h78]) ?_
                refine j_if_eq G 133 dL_law_128 (by decide) (by omega) (fun c128 => ?_) (fun c128 => ?_)
                · refine j_iinc G dL_law_133 rfl (by decide) rfl ?_
                  refine j_goto G 48 dL_law_136 (by decide) ?_
                  refine j_keep [0, 1, 2, 3] ?_
                  first | exact ih (t + 1) Z122 _ _ (by omega) (by omega) (by omega) (hV1.sp hS6) (by omega) (by omega) | exact ih (t + 1) Z78 _ _ (by omega) (by omega) (by omega) (hV1.sp hS1) (by omega) (by omega)
                · exfalso; omega
set_option maxRecDepth 100000 in
set_option maxHeartbeats 8000000 in
theorem law_begin (hi : injA ad) (hst : l.stackTraces = false) (G : GG p l s m #[Value.ref b] meth c D cys ad (fun q => s.heap.size ≤ q) code RL 10) (hr : meth.sig.returnType = ret) (hL2 : ad 40 1 < 1000) {L : List Nat} {g : Nat → va_E} {X : Int64} {Z : ZT} {cells slots : Nat} (hZ : WG Z ∧ Z 0 0 5 = 0 ∧ Z 6 0 3 = 0 ∧ Z 11 0 3 = 0) (hc : cells ≤ 1000) (hs : slots ≤ 20000) : JJ p l e room_1 s m #[Value.ref b] below meth c D cys ad (fun q => s.heap.size ≤ q) (lw_Z below #[Value.ref b] s) 10 cells slots L g X Z 8 [(0, .ref (ad 40 0)), (1, .ref (ad 0 0))] [] := by
  have hrc : room_1.cells = 890290 := rfl
  have hrs : room_1.slots = 6430754 := rfl
  refine jo_new G (ci := 7) (fs := [.int 0, .null, .null, .null, .null, .null, .int 0, .null, .null]) rfl inT7 tyX7_ok fsX7 (TW_of 540 (by decide +kernel) (by decide +kernel)) (TW_of 541 (by decide +kernel) (by decide +kernel)) (TW_of 43 (by decide +kernel) (by decide +kernel)) dL_law_8 (by constructor <;> omega) (fun aw haw hns => ?_)
  refine j_dup G dL_law_11 rfl ?_
  refine j_aload_n G dL_law_12 rfl ?_
  refine j_aload_n G dL_law_13 rfl ?_
  refine j_iconst G dL_law_14 ?_
  refine j_aload_n G dL_law_15 rfl ?_
  refine j_iconst G dL_law_16 ?_
  refine j_cSI G csL_cell mlL_14 rfl (c_L_cell hi (by decide) hL2) dL_law_17 ⟨by decide, by decide⟩ (by first | exact ⟨by decide, by decide⟩ | (constructor <;> omega)) rfl rfl (Nat.le_of_ble_eq_true rfl) (fun r17 h17 => ?_)
  refine j_iconst G dL_law_20 ?_
  refine j_cSI G csL_below mlL_20 rfl (c_L_below hi (by decide)) dL_law_21 ⟨by decide, by decide⟩ (by first | exact ⟨by decide, by decide⟩ | (constructor <;> omega)) rfl rfl (Nat.le_of_ble_eq_true rfl) (fun r21 h21 => ?_)
  refine j_iadd G dL_law_24 ?_
  refine j_cI_GV G (n := 3) (TW_of 543 (by decide +kernel) (by decide +kernel)) (TW_of 43 (by decide +kernel) (by decide +kernel)) (TW_of 544 (by decide +kernel) (by decide +kernel)) ⟨by decide +kernel, by decide +kernel, by decide +kernel⟩ rfl mlL_24 (c_X7_init hi (L0 := L) (g0 := g) hst rfl rfl haw hns (by omega) hZ hL2) dL_law_25 (by first | exact ⟨by decide, by decide⟩ | (constructor <;> omega)) (by first | exact ⟨by decide, by decide⟩ | (constructor <;> omega)) rfl rfl (Nat.le_of_ble_eq_true rfl) (fun L1 g1 X1 Z1 h25 => ?_)
  obtain ⟨dp, mb, pa, io, pt, lf, va, rw0, f8, Wd, Wm, Wt, V9, P, hw, hCI, hWt, hX⟩ := h25
  subst hX
  have hFI : FI Z1 0 Z1 := ⟨hCI.1.1, ⟨rfl, fun d => ⟨rfl, rfl⟩, rfl, rfl⟩, hCI.1.2.2.1, hCI.1.2.2.2⟩
  have hTR : TRW Z1 (2 + r21) Wd Wm P := fun d d0 d1 => (hCI.2 d d0 d1).1
  have hlf : ∀ d, 0 ≤ d → d < 2 + r21 → 0 < (wk Z1 d 0 (Z1 2 d 3)).length := fun d d0 d1 => (hCI.2 d d0 d1).2.wk (hCI.1.1.1.t d0 (by rw [hCI.1.2.1]; exact d1))
  refine j_astore_n G dL_law_28 (by decide) rfl ?_
  refine j_aload_n G dL_law_29 rfl ?_
  refine j_aload_n G dL_law_30 rfl ?_
  refine j_aload_n G dL_law_31 rfl ?_
  refine j_aload_n G dL_law_32 rfl ?_
  refine j_bipush G dL_law_33 (by decide +kernel) ?_
  refine j_cSI G csL_cell mlL_14 rfl (c_L_cell hi (by decide) hL2) dL_law_35 ⟨by decide, by decide⟩ (by first | exact ⟨by decide, by decide⟩ | (constructor <;> omega)) rfl rfl (Nat.le_of_ble_eq_true rfl) (fun r35 h35 => ?_)
  refine j_bipush G dL_law_38 (by decide +kernel) ?_
  refine j_cSI G csL_below mlL_20 rfl (c_L_below hi (by decide)) dL_law_40 ⟨by decide, by decide⟩ (by first | exact ⟨by decide, by decide⟩ | (constructor <;> omega)) rfl rfl (Nat.le_of_ble_eq_true rfl) (fun r40 h40 => ?_)
  refine j_cR_GV G cvX7_fill mlL_27 (c_X7_fill hi hst hw hFI hCI.1.2.1 hTR hWt hlf (by omega) hL2) dL_law_43 (by first | exact ⟨by decide, by decide⟩ | (constructor <;> omega)) (by first | exact ⟨by decide, by decide⟩ | (constructor <;> omega)) rfl rfl (Nat.le_of_ble_eq_true rfl) (rvO G hw.o rfl rfl) (fun L2 g2 X2 Z2 h43 => ?_)
  obtain ⟨⟨k, hk⟩, hwr, hX2⟩ := h43
  subst hX2
  have hV : IV (2 + r21) Wd Z2 := IV.fi hk hCI.1.2.1 (by omega) (fun d d0 d1 => (hTR d d0 d1).1)
  refine j_iconst G dL_law_46 ?_
  refine j_istore_n G dL_law_47 (by decide) rfl ?_
  refine j_keep [0, 1, 2, 3] ?_
  exact law_loop hi hst G hr hL2 hwr _ 0 Z2 _ _ rfl (by omega) (by omega) hV (by omega) (by omega)
end LAWS

