theorem dX7_walk_0 : decode cX7_walk 0 = .ok (.aload_n 0, 1) := by decide +kernel
theorem dX7_walk_1 : decode cX7_walk 1 = .ok (.iload_n 1, 1) := by decide +kernel
theorem dX7_walk_2 : decode cX7_walk 2 = .ok (.iload_n 2, 1) := by decide +kernel
theorem dX7_walk_3 : decode cX7_walk 3 = .ok (.invokevirtual 67, 3) := by decide +kernel
theorem dX7_walk_6 : decode cX7_walk 6 = .ok (.iload_n 3, 1) := by decide +kernel
theorem dX7_walk_7 : decode cX7_walk 7 = .ok (.if_icmp .ne 14, 3) := by decide +kernel
theorem dX7_walk_10 : decode cX7_walk 10 = .ok (.aload 4, 2) := by decide +kernel
theorem dX7_walk_12 : decode cX7_walk 12 = .ok (.iload 5, 2) := by decide +kernel
theorem dX7_walk_14 : decode cX7_walk 14 = .ok (.iload_n 2, 1) := by decide +kernel
theorem dX7_walk_15 : decode cX7_walk 15 = .ok (.iastore, 1) := by decide +kernel
theorem dX7_walk_16 : decode cX7_walk 16 = .ok (.iload 5, 2) := by decide +kernel
theorem dX7_walk_18 : decode cX7_walk 18 = .ok (.iconst 1, 1) := by decide +kernel
theorem dX7_walk_19 : decode cX7_walk 19 = .ok (.iadd, 1) := by decide +kernel
theorem dX7_walk_20 : decode cX7_walk 20 = .ok (.ireturn, 1) := by decide +kernel
theorem dX7_walk_21 : decode cX7_walk 21 = .ok (.iload 5, 2) := by decide +kernel
theorem dX7_walk_23 : decode cX7_walk 23 = .ok (.istore 6, 2) := by decide +kernel
theorem dX7_walk_25 : decode cX7_walk 25 = .ok (.iconst 1, 1) := by decide +kernel
theorem dX7_walk_26 : decode cX7_walk 26 = .ok (.istore 7, 2) := by decide +kernel
theorem dX7_walk_28 : decode cX7_walk 28 = .ok (.iload 7, 2) := by decide +kernel
theorem dX7_walk_30 : decode cX7_walk 30 = .ok (.aload_n 0, 1) := by decide +kernel
theorem dX7_walk_31 : decode cX7_walk 31 = .ok (.getfield 13, 3) := by decide +kernel
theorem dX7_walk_34 : decode cX7_walk 34 = .ok (.iload_n 1, 1) := by decide +kernel
theorem dX7_walk_35 : decode cX7_walk 35 = .ok (.iaload, 1) := by decide +kernel
theorem dX7_walk_36 : decode cX7_walk 36 = .ok (.if_icmp .ge 36, 3) := by decide +kernel
theorem dX7_walk_39 : decode cX7_walk 39 = .ok (.aload_n 0, 1) := by decide +kernel
theorem dX7_walk_40 : decode cX7_walk 40 = .ok (.getfield 18, 3) := by decide +kernel
theorem dX7_walk_43 : decode cX7_walk 43 = .ok (.iload_n 1, 1) := by decide +kernel
theorem dX7_walk_44 : decode cX7_walk 44 = .ok (.aaload, 1) := by decide +kernel
theorem dX7_walk_45 : decode cX7_walk 45 = .ok (.iload 7, 2) := by decide +kernel
theorem dX7_walk_47 : decode cX7_walk 47 = .ok (.iaload, 1) := by decide +kernel
theorem dX7_walk_48 : decode cX7_walk 48 = .ok (.iload_n 2, 1) := by decide +kernel
theorem dX7_walk_49 : decode cX7_walk 49 = .ok (.if_icmp .ne 17, 3) := by decide +kernel
theorem dX7_walk_52 : decode cX7_walk 52 = .ok (.aload_n 0, 1) := by decide +kernel
theorem dX7_walk_53 : decode cX7_walk 53 = .ok (.iload_n 1, 1) := by decide +kernel
theorem dX7_walk_54 : decode cX7_walk 54 = .ok (.iload 7, 2) := by decide +kernel
theorem dX7_walk_56 : decode cX7_walk 56 = .ok (.iload_n 3, 1) := by decide +kernel
theorem dX7_walk_57 : decode cX7_walk 57 = .ok (.aload 4, 2) := by decide +kernel
theorem dX7_walk_59 : decode cX7_walk 59 = .ok (.iload 6, 2) := by decide +kernel
theorem dX7_walk_61 : decode cX7_walk 61 = .ok (.invokevirtual 71, 3) := by decide +kernel
theorem dX7_walk_64 : decode cX7_walk 64 = .ok (.istore 6, 2) := by decide +kernel
theorem dX7_walk_66 : decode cX7_walk 66 = .ok (.iinc 7 1, 3) := by decide +kernel
theorem dX7_walk_69 : decode cX7_walk 69 = .ok (.goto (-41), 3) := by decide +kernel
theorem dX7_walk_72 : decode cX7_walk 72 = .ok (.iload 6, 2) := by decide +kernel
theorem dX7_walk_74 : decode cX7_walk 74 = .ok (.ireturn, 1) := by decide +kernel
/-! by program: wip/whole/gen.py out of wip/whole/src/30.walk.eb -/
/-! EbbTableModel: the walk through a tree -/
set_option maxRecDepth 100000 in
set_option maxHeartbeats 8000000 in
theorem c_X7_walk_0 {l : Launch} {D : va_G} {cys : Nat → ClassId} {ad : Nat → Int → Nat} {L : List Nat} {g : Nat → va_E} {X : Int64} {Z : ZT} (hi : injA ad) {S : ZT} {d q w b : Int} {a : Nat} {W : List Int} (hS : RMZ S Z) (hW : WF S) (hd : 0 ≤ d ∧ d < S 0 0 5) (hq : 0 ≤ q ∧ q < S 2 d 4) (hdep : 3 ≤ S 4 d q) (hw : 0 ≤ w ∧ w ≤ 4) (hA : AR cys ad L g a W) (hb : 0 ≤ b ∧ b + (wk S d q w).length ≤ W.length) (hWl : W.length ≤ 24) : CM l D cys ad yX7_walk cX7_walk 8 (some .int) 1 24 0 0 [.ref (ad 24 0), .int (iI d), .int (iI q), .int (iI w), .ref a, .int (iI b)] L g X Z (PGI L g X Z (fun r L9 g9 X9 Z9 => r = b + (wk S d q w).length ∧ L9 = L ∧ g9 = va_up g a (dA cys (PutL W b.toNat (wk S d q w))) ∧ X9 = X ∧ Z9 = Z)) := by
  refine cm_start hi (by decide +kernel) (Nat.le_of_ble_eq_true rfl) ?_
  intro p_ e_ s_ m_ args_ below_ meth_ c_ A_ Q_ hQ G hr hin
  have hn := hW.n
  have ht := hW.t hd.1 hd.2
  have ht1 := ht.1
  have hqm := ht.at hq.1 hq.2
  unfold MOK at hqm
  have hv26 : 0 ≤ d ∧ d < 4 := by omega
  have hv28 : vd 28 d := ⟨hd.1, show d < 4 by omega⟩
  have e26 := (hS.d hd.1 hv26.2).2.1
  refine j_aload_n G dX7_walk_0 rfl ?_
  refine j_iload_n G dX7_walk_1 rfl ?_
  refine j_iload_n G dX7_walk_2 rfl ?_
  refine j_cVI G cvX7_depth ml7_67 (c_X7_depth hi hS hW hd hq) dX7_walk_3 ⟨by decide, by decide⟩ ⟨by decide, by decide⟩ rfl rfl (Nat.le_of_ble_eq_true rfl) (by first | assumption | decide) rfl rfl rfl (fun r3 h3 => ?_)
  refine j_iload_n G dX7_walk_6 rfl ?_
  refine j_icmp_ne G 21 dX7_walk_7 (by decide) (by omega) (by omega) (fun c7 => ?_) (fun c7 => ?_)
  · refine j_iload G dX7_walk_21 rfl ?_
    refine j_istore G dX7_walk_23 (by decide) rfl ?_
    refine j_iconst G dX7_walk_25 ?_
    refine j_istore G dX7_walk_26 (by decide) rfl ?_
    have hne := wk_ne ht hq.1 hq.2 (by omega : ¬ S 4 d q = w)
    have loop : ∀ (n : Nat) (k : Int) (V : List Int) (g1 : Nat → va_E), 0 < k → k ≤ S 2 d 4 → (S 2 d 4 - k).toNat = n → V ++ sibG (S 3 d) (fun x => wk S d x w) q n k = wk S d q w → g1 = va_up g a (dA cys (PutL W b.toNat V)) → JJ p_ l e_ { frames := 1, cells := 0, slots := 0, locals := 24 } s_ m_ args_ below_ meth_ c_ D cys ad A_ Q_ 8 0 0 L g1 X Z 28 [(0, .ref (ad 24 0)), (1, .int (iI d)), (2, .int (iI q)), (3, .int (iI w)), (4, .ref a), (6, .int (iI (b + V.length))), (7, .int (iI k))] [] := by
      intro n
      induction n with
      | zero =>
        intro k V g1 h0 h1 h2 h3 h4
        have ek : k = S 2 d 4 := by omega
        subst ek
        have h3 : V ++ [] = wk S d q w := h3
        rw [List.append_nil] at h3
        refine j_iload G dX7_walk_28 rfl ?_
        refine j_aload_n G dX7_walk_30 rfl ?_
        refine gf_24_3 G dX7_walk_31 lf7_13 (by first | assumption | decide) ?_
        refine j_iload_n G dX7_walk_34 rfl ?_
        refine al_26 G dX7_walk_35 (by first | assumption | decide) (by omega) (by omega) ?_
        refine j_icmp_ge G 72 dX7_walk_36 (by decide) (by omega) (by omega) (fun c36 => ?_) (fun c36 => ?_)
        · refine j_iload G dX7_walk_72 rfl ?_
          refine jr_GI G hQ hr dX7_walk_74 (by first | decide | omega) (by first | decide | omega) ?_
          refine ⟨by rw [h3], rfl, by rw [h4, h3], rfl, rfl⟩
        · exfalso; omega
      | succ n ih =>
        intro k V g1 h0 h1 h2 h3 h4
        have h3 : V ++ ((if S 3 d k = q then wk S d k w else []) ++ sibG (S 3 d) (fun x => wk S d x w) q n (k + 1)) = wk S d q w := h3
        have hk : 0 ≤ k ∧ k < S 2 d 4 := by omega
        have hkm := ht.at hk.1 hk.2
        unfold MOK at hkm
        have hkp := hkm.2.2.2 h0
        have ep := hS.p hd.1 hd.2 h0 hk.2
        have hh2 : k + 1 ≤ S 2 d 4 := by omega
        have hh3 : (S 2 d 4 - (k + 1)).toNat = n := by omega
        refine j_iload G dX7_walk_28 rfl ?_
        refine j_aload_n G dX7_walk_30 rfl ?_
        refine gf_24_3 G dX7_walk_31 lf7_13 (by first | assumption | decide) ?_
        refine j_iload_n G dX7_walk_34 rfl ?_
        refine al_26 G dX7_walk_35 (by first | assumption | decide) (by omega) (by omega) ?_
        refine j_icmp_ge G 72 dX7_walk_36 (by decide) (by omega) (by omega) (fun c36 => ?_) (fun c36 => ?_)
        · exfalso; omega
        · refine j_aload_n G dX7_walk_39 rfl ?_
          refine gf_24_4 G dX7_walk_40 lf7_18 (by first | assumption | decide) ?_
          refine j_iload_n G dX7_walk_43 rfl ?_
          refine al_27 G dX7_walk_44 (by first | assumption | decide) (by omega) (by omega) ?_
          refine j_iload G dX7_walk_45 rfl ?_
          refine al_28 G dX7_walk_47 (by first | assumption | decide) (by omega) (by omega) ?_
          rw [ep]
          refine j_iload_n G dX7_walk_48 rfl ?_
          refine j_icmp_ne G 66 dX7_walk_49 (by decide) (by omega) (by omega) (fun c49 => ?_) (fun c49 => ?_)
          · refine j_iinc G dX7_walk_66 rfl (by decide) rfl ?_
            refine j_goto G 28 dX7_walk_69 (by decide) ?_
            first
            | (exfalso; omega)
            | (refine ih (k + 1) V _ (by omega) hh2 hh3 ?_ h4
               rw [if_neg (by assumption), List.nil_append] at h3
               exact h3)
          · have eq3 : S 3 d k = q := by omega
            rw [eq3] at hkp
            exfalso; omega
    refine j_keep [0, 1, 2, 3, 4, 6, 7] ?_
    have := loop (S 2 d 4 - 1).toNat 1 [] g (by omega) (by omega) rfl hne.symm (by rw [PutL_0, ← hA.2.2, va_up_id])
    rw [show b + (([] : List Int).length : Int) = b by simp] at this
    exact this
  · have hl1 := wk_eq ht hq.1 hq.2 (by omega : S 4 d q = w)
    rw [hl1] at hb
    have hb1 : b < W.length := by have := hb.2; simp at this; omega
    refine j_aload G dX7_walk_10 rfl ?_
    refine j_iload G dX7_walk_12 rfl ?_
    refine j_iload_n G dX7_walk_14 rfl ?_
    refine j_dst G dX7_walk_15 (by assumption) (by first | omega | decide) (by omega) (by omega) ?_
    refine j_iload G dX7_walk_16 rfl ?_
    refine j_iconst G dX7_walk_18 ?_
    refine j_iadd G dX7_walk_19 ?_
    refine jr_GI G hQ hr dX7_walk_20 (by first | decide | omega) (by first | decide | omega) ?_
    rw [wk_eq ht hq.1 hq.2 (by omega : S 4 d q = w)]
    refine ⟨rfl, rfl, ?_, rfl, rfl⟩
    rw [PutL_1 (by omega)]

set_option maxRecDepth 100000 in
set_option maxHeartbeats 8000000 in
theorem c_X7_walk_1 {l : Launch} {D : va_G} {cys : Nat → ClassId} {ad : Nat → Int → Nat} {L : List Nat} {g : Nat → va_E} {X : Int64} {Z : ZT} (hi : injA ad) {S : ZT} {d q w b : Int} {a : Nat} {W : List Int} (hS : RMZ S Z) (hW : WF S) (hd : 0 ≤ d ∧ d < S 0 0 5) (hq : 0 ≤ q ∧ q < S 2 d 4) (hdep : 2 ≤ S 4 d q) (hw : 0 ≤ w ∧ w ≤ 4) (hA : AR cys ad L g a W) (hb : 0 ≤ b ∧ b + (wk S d q w).length ≤ W.length) (hWl : W.length ≤ 24) : CM l D cys ad yX7_walk cX7_walk 8 (some .int) 2 51 0 0 [.ref (ad 24 0), .int (iI d), .int (iI q), .int (iI w), .ref a, .int (iI b)] L g X Z (PGI L g X Z (fun r L9 g9 X9 Z9 => r = b + (wk S d q w).length ∧ L9 = L ∧ g9 = va_up g a (dA cys (PutL W b.toNat (wk S d q w))) ∧ X9 = X ∧ Z9 = Z)) := by
  refine cm_start hi (by decide +kernel) (Nat.le_of_ble_eq_true rfl) ?_
  intro p_ e_ s_ m_ args_ below_ meth_ c_ A_ Q_ hQ G hr hin
  have hn := hW.n
  have ht := hW.t hd.1 hd.2
  have ht1 := ht.1
  have hqm := ht.at hq.1 hq.2
  unfold MOK at hqm
  have hv26 : 0 ≤ d ∧ d < 4 := by omega
  have hv28 : vd 28 d := ⟨hd.1, show d < 4 by omega⟩
  have e26 := (hS.d hd.1 hv26.2).2.1
  refine j_aload_n G dX7_walk_0 rfl ?_
  refine j_iload_n G dX7_walk_1 rfl ?_
  refine j_iload_n G dX7_walk_2 rfl ?_
  refine j_cVI G cvX7_depth ml7_67 (c_X7_depth hi hS hW hd hq) dX7_walk_3 ⟨by decide, by decide⟩ ⟨by decide, by decide⟩ rfl rfl (Nat.le_of_ble_eq_true rfl) (by first | assumption | decide) rfl rfl rfl (fun r3 h3 => ?_)
  refine j_iload_n G dX7_walk_6 rfl ?_
  refine j_icmp_ne G 21 dX7_walk_7 (by decide) (by omega) (by omega) (fun c7 => ?_) (fun c7 => ?_)
  · refine j_iload G dX7_walk_21 rfl ?_
    refine j_istore G dX7_walk_23 (by decide) rfl ?_
    refine j_iconst G dX7_walk_25 ?_
    refine j_istore G dX7_walk_26 (by decide) rfl ?_
    have hne := wk_ne ht hq.1 hq.2 (by omega : ¬ S 4 d q = w)
    have loop : ∀ (n : Nat) (k : Int) (V : List Int) (g1 : Nat → va_E), 0 < k → k ≤ S 2 d 4 → (S 2 d 4 - k).toNat = n → V ++ sibG (S 3 d) (fun x => wk S d x w) q n k = wk S d q w → g1 = va_up g a (dA cys (PutL W b.toNat V)) → JJ p_ l e_ { frames := 2, cells := 0, slots := 0, locals := 51 } s_ m_ args_ below_ meth_ c_ D cys ad A_ Q_ 8 0 0 L g1 X Z 28 [(0, .ref (ad 24 0)), (1, .int (iI d)), (2, .int (iI q)), (3, .int (iI w)), (4, .ref a), (6, .int (iI (b + V.length))), (7, .int (iI k))] [] := by
      intro n
      induction n with
      | zero =>
        intro k V g1 h0 h1 h2 h3 h4
        have ek : k = S 2 d 4 := by omega
        subst ek
        have h3 : V ++ [] = wk S d q w := h3
        rw [List.append_nil] at h3
        refine j_iload G dX7_walk_28 rfl ?_
        refine j_aload_n G dX7_walk_30 rfl ?_
        refine gf_24_3 G dX7_walk_31 lf7_13 (by first | assumption | decide) ?_
        refine j_iload_n G dX7_walk_34 rfl ?_
        refine al_26 G dX7_walk_35 (by first | assumption | decide) (by omega) (by omega) ?_
        refine j_icmp_ge G 72 dX7_walk_36 (by decide) (by omega) (by omega) (fun c36 => ?_) (fun c36 => ?_)
        · refine j_iload G dX7_walk_72 rfl ?_
          refine jr_GI G hQ hr dX7_walk_74 (by first | decide | omega) (by first | decide | omega) ?_
          refine ⟨by rw [h3], rfl, by rw [h4, h3], rfl, rfl⟩
        · exfalso; omega
      | succ n ih =>
        intro k V g1 h0 h1 h2 h3 h4
        have h3 : V ++ ((if S 3 d k = q then wk S d k w else []) ++ sibG (S 3 d) (fun x => wk S d x w) q n (k + 1)) = wk S d q w := h3
        have hk : 0 ≤ k ∧ k < S 2 d 4 := by omega
        have hkm := ht.at hk.1 hk.2
        unfold MOK at hkm
        have hkp := hkm.2.2.2 h0
        have ep := hS.p hd.1 hd.2 h0 hk.2
        have hh2 : k + 1 ≤ S 2 d 4 := by omega
        have hh3 : (S 2 d 4 - (k + 1)).toNat = n := by omega
        refine j_iload G dX7_walk_28 rfl ?_
        refine j_aload_n G dX7_walk_30 rfl ?_
        refine gf_24_3 G dX7_walk_31 lf7_13 (by first | assumption | decide) ?_
        refine j_iload_n G dX7_walk_34 rfl ?_
        refine al_26 G dX7_walk_35 (by first | assumption | decide) (by omega) (by omega) ?_
        refine j_icmp_ge G 72 dX7_walk_36 (by decide) (by omega) (by omega) (fun c36 => ?_) (fun c36 => ?_)
        · exfalso; omega
        · refine j_aload_n G dX7_walk_39 rfl ?_
          refine gf_24_4 G dX7_walk_40 lf7_18 (by first | assumption | decide) ?_
          refine j_iload_n G dX7_walk_43 rfl ?_
          refine al_27 G dX7_walk_44 (by first | assumption | decide) (by omega) (by omega) ?_
          refine j_iload G dX7_walk_45 rfl ?_
          refine al_28 G dX7_walk_47 (by first | assumption | decide) (by omega) (by omega) ?_
          rw [ep]
          refine j_iload_n G dX7_walk_48 rfl ?_
          refine j_icmp_ne G 66 dX7_walk_49 (by decide) (by omega) (by omega) (fun c49 => ?_) (fun c49 => ?_)
          · skip
            refine j_iinc G dX7_walk_66 rfl (by decide) rfl ?_
            refine j_goto G 28 dX7_walk_69 (by decide) ?_
            first
            | (exfalso; omega)
            | (rw [show b + (V.length : Int) + ((wk S d k w).length : Int) = b + ((V ++ wk S d k w).length : Int) by rw [List.length_append]; omega]
               refine ih (k + 1) (V ++ wk S d k w) _ (by omega) hh2 hh3 ?_ ?_
               · rw [List.append_assoc]; exact h3
               · rw [q2, h4, va_up_up, PutL_PutL (by omega) (by omega)])
            | (refine ih (k + 1) V _ (by omega) hh2 hh3 ?_ h4
               rw [if_neg (by assumption), List.nil_append] at h3
               exact h3)
          · have eq3 : S 3 d k = q := by omega
            rw [if_pos eq3] at h3
            rw [eq3] at hkp
            have hlen : (wk S d q w).length = V.length + ((wk S d k w).length + (sibG (S 3 d) (fun x => wk S d x w) q n (k + 1)).length) := by rw [← h3, List.length_append, List.length_append]
            have hdk : 3 ≤ S 4 d k := by omega
            have hA1 : AR cys ad L g1 a (PutL W b.toNat V) := ⟨hA.1, hA.2.1, by rw [h4, va_up_self]⟩
            have hPl : (PutL W b.toNat V).length = W.length := PutL_len (by omega)
            have hb1 : 0 ≤ b + V.length ∧ b + V.length + (wk S d k w).length ≤ (PutL W b.toNat V).length := by rw [hPl]; omega
            have hWl1 : (PutL W b.toNat V).length ≤ 24 := by rw [hPl]; exact hWl
            refine j_aload_n G dX7_walk_52 rfl ?_
            refine j_iload_n G dX7_walk_53 rfl ?_
            refine j_iload G dX7_walk_54 rfl ?_
            refine j_iload_n G dX7_walk_56 rfl ?_
            refine j_aload G dX7_walk_57 rfl ?_
            refine j_iload G dX7_walk_59 rfl ?_
            refine j_cVGI G cvX7_walk ml7_71 (c_X7_walk_0 hi hS hW hd hk hdk hw hA1 hb1 hWl1) dX7_walk_61 ⟨by decide, by decide⟩ (by first | exact ⟨by decide, by decide⟩ | (constructor <;> dsimp only <;> omega)) rfl rfl (Nat.le_of_ble_eq_true rfl) (by first | assumption | decide) rfl rfl rfl (fun r61 L61 g61 X61 Z61 h61 => ?_)
            obtain ⟨q1, rfl, q2, rfl, rfl⟩ := h61
            subst q1
            refine j_istore G dX7_walk_64 (by decide) rfl ?_
            skip
            refine j_iinc G dX7_walk_66 rfl (by decide) rfl ?_
            refine j_goto G 28 dX7_walk_69 (by decide) ?_
            first
            | (exfalso; omega)
            | (rw [show b + (V.length : Int) + ((wk S d k w).length : Int) = b + ((V ++ wk S d k w).length : Int) by rw [List.length_append]; omega]
               refine ih (k + 1) (V ++ wk S d k w) _ (by omega) hh2 hh3 ?_ ?_
               · rw [List.append_assoc]; exact h3
               · rw [q2, h4, va_up_up, PutL_PutL (by omega) (by omega)])
            | (refine ih (k + 1) V _ (by omega) hh2 hh3 ?_ h4
               rw [if_neg (by assumption), List.nil_append] at h3
               exact h3)
    refine j_keep [0, 1, 2, 3, 4, 6, 7] ?_
    have := loop (S 2 d 4 - 1).toNat 1 [] g (by omega) (by omega) rfl hne.symm (by rw [PutL_0, ← hA.2.2, va_up_id])
    rw [show b + (([] : List Int).length : Int) = b by simp] at this
    exact this
  · have hl1 := wk_eq ht hq.1 hq.2 (by omega : S 4 d q = w)
    rw [hl1] at hb
    have hb1 : b < W.length := by have := hb.2; simp at this; omega
    refine j_aload G dX7_walk_10 rfl ?_
    refine j_iload G dX7_walk_12 rfl ?_
    refine j_iload_n G dX7_walk_14 rfl ?_
    refine j_dst G dX7_walk_15 (by assumption) (by first | omega | decide) (by omega) (by omega) ?_
    refine j_iload G dX7_walk_16 rfl ?_
    refine j_iconst G dX7_walk_18 ?_
    refine j_iadd G dX7_walk_19 ?_
    refine jr_GI G hQ hr dX7_walk_20 (by first | decide | omega) (by first | decide | omega) ?_
    rw [wk_eq ht hq.1 hq.2 (by omega : S 4 d q = w)]
    refine ⟨rfl, rfl, ?_, rfl, rfl⟩
    rw [PutL_1 (by omega)]

set_option maxRecDepth 100000 in
set_option maxHeartbeats 8000000 in
theorem c_X7_walk_2 {l : Launch} {D : va_G} {cys : Nat → ClassId} {ad : Nat → Int → Nat} {L : List Nat} {g : Nat → va_E} {X : Int64} {Z : ZT} (hi : injA ad) {S : ZT} {d q w b : Int} {a : Nat} {W : List Int} (hS : RMZ S Z) (hW : WF S) (hd : 0 ≤ d ∧ d < S 0 0 5) (hq : 0 ≤ q ∧ q < S 2 d 4) (hdep : 1 ≤ S 4 d q) (hw : 0 ≤ w ∧ w ≤ 4) (hA : AR cys ad L g a W) (hb : 0 ≤ b ∧ b + (wk S d q w).length ≤ W.length) (hWl : W.length ≤ 24) : CM l D cys ad yX7_walk cX7_walk 8 (some .int) 3 78 0 0 [.ref (ad 24 0), .int (iI d), .int (iI q), .int (iI w), .ref a, .int (iI b)] L g X Z (PGI L g X Z (fun r L9 g9 X9 Z9 => r = b + (wk S d q w).length ∧ L9 = L ∧ g9 = va_up g a (dA cys (PutL W b.toNat (wk S d q w))) ∧ X9 = X ∧ Z9 = Z)) := by
  refine cm_start hi (by decide +kernel) (Nat.le_of_ble_eq_true rfl) ?_
  intro p_ e_ s_ m_ args_ below_ meth_ c_ A_ Q_ hQ G hr hin
  have hn := hW.n
  have ht := hW.t hd.1 hd.2
  have ht1 := ht.1
  have hqm := ht.at hq.1 hq.2
  unfold MOK at hqm
  have hv26 : 0 ≤ d ∧ d < 4 := by omega
  have hv28 : vd 28 d := ⟨hd.1, show d < 4 by omega⟩
  have e26 := (hS.d hd.1 hv26.2).2.1
  refine j_aload_n G dX7_walk_0 rfl ?_
  refine j_iload_n G dX7_walk_1 rfl ?_
  refine j_iload_n G dX7_walk_2 rfl ?_
  refine j_cVI G cvX7_depth ml7_67 (c_X7_depth hi hS hW hd hq) dX7_walk_3 ⟨by decide, by decide⟩ ⟨by decide, by decide⟩ rfl rfl (Nat.le_of_ble_eq_true rfl) (by first | assumption | decide) rfl rfl rfl (fun r3 h3 => ?_)
  refine j_iload_n G dX7_walk_6 rfl ?_
  refine j_icmp_ne G 21 dX7_walk_7 (by decide) (by omega) (by omega) (fun c7 => ?_) (fun c7 => ?_)
  · refine j_iload G dX7_walk_21 rfl ?_
    refine j_istore G dX7_walk_23 (by decide) rfl ?_
    refine j_iconst G dX7_walk_25 ?_
    refine j_istore G dX7_walk_26 (by decide) rfl ?_
    have hne := wk_ne ht hq.1 hq.2 (by omega : ¬ S 4 d q = w)
    have loop : ∀ (n : Nat) (k : Int) (V : List Int) (g1 : Nat → va_E), 0 < k → k ≤ S 2 d 4 → (S 2 d 4 - k).toNat = n → V ++ sibG (S 3 d) (fun x => wk S d x w) q n k = wk S d q w → g1 = va_up g a (dA cys (PutL W b.toNat V)) → JJ p_ l e_ { frames := 3, cells := 0, slots := 0, locals := 78 } s_ m_ args_ below_ meth_ c_ D cys ad A_ Q_ 8 0 0 L g1 X Z 28 [(0, .ref (ad 24 0)), (1, .int (iI d)), (2, .int (iI q)), (3, .int (iI w)), (4, .ref a), (6, .int (iI (b + V.length))), (7, .int (iI k))] [] := by
      intro n
      induction n with
      | zero =>
        intro k V g1 h0 h1 h2 h3 h4
        have ek : k = S 2 d 4 := by omega
        subst ek
        have h3 : V ++ [] = wk S d q w := h3
        rw [List.append_nil] at h3
        refine j_iload G dX7_walk_28 rfl ?_
        refine j_aload_n G dX7_walk_30 rfl ?_
        refine gf_24_3 G dX7_walk_31 lf7_13 (by first | assumption | decide) ?_
        refine j_iload_n G dX7_walk_34 rfl ?_
        refine al_26 G dX7_walk_35 (by first | assumption | decide) (by omega) (by omega) ?_
        refine j_icmp_ge G 72 dX7_walk_36 (by decide) (by omega) (by omega) (fun c36 => ?_) (fun c36 => ?_)
        · refine j_iload G dX7_walk_72 rfl ?_
          refine jr_GI G hQ hr dX7_walk_74 (by first | decide | omega) (by first | decide | omega) ?_
          refine ⟨by rw [h3], rfl, by rw [h4, h3], rfl, rfl⟩
        · exfalso; omega
      | succ n ih =>
        intro k V g1 h0 h1 h2 h3 h4
        have h3 : V ++ ((if S 3 d k = q then wk S d k w else []) ++ sibG (S 3 d) (fun x => wk S d x w) q n (k + 1)) = wk S d q w := h3
        have hk : 0 ≤ k ∧ k < S 2 d 4 := by omega
        have hkm := ht.at hk.1 hk.2
        unfold MOK at hkm
        have hkp := hkm.2.2.2 h0
        have ep := hS.p hd.1 hd.2 h0 hk.2
        have hh2 : k + 1 ≤ S 2 d 4 := by omega
        have hh3 : (S 2 d 4 - (k + 1)).toNat = n := by omega
        refine j_iload G dX7_walk_28 rfl ?_
        refine j_aload_n G dX7_walk_30 rfl ?_
        refine gf_24_3 G dX7_walk_31 lf7_13 (by first | assumption | decide) ?_
        refine j_iload_n G dX7_walk_34 rfl ?_
        refine al_26 G dX7_walk_35 (by first | assumption | decide) (by omega) (by omega) ?_
        refine j_icmp_ge G 72 dX7_walk_36 (by decide) (by omega) (by omega) (fun c36 => ?_) (fun c36 => ?_)
        · exfalso; omega
        · refine j_aload_n G dX7_walk_39 rfl ?_
          refine gf_24_4 G dX7_walk_40 lf7_18 (by first | assumption | decide) ?_
          refine j_iload_n G dX7_walk_43 rfl ?_
          refine al_27 G dX7_walk_44 (by first | assumption | decide) (by omega) (by omega) ?_
          refine j_iload G dX7_walk_45 rfl ?_
          refine al_28 G dX7_walk_47 (by first | assumption | decide) (by omega) (by omega) ?_
          rw [ep]
          refine j_iload_n G dX7_walk_48 rfl ?_
          refine j_icmp_ne G 66 dX7_walk_49 (by decide) (by omega) (by omega) (fun c49 => ?_) (fun c49 => ?_)
          · skip
            refine j_iinc G dX7_walk_66 rfl (by decide) rfl ?_
            refine j_goto G 28 dX7_walk_69 (by decide) ?_
            first
            | (exfalso; omega)
            | (rw [show b + (V.length : Int) + ((wk S d k w).length : Int) = b + ((V ++ wk S d k w).length : Int) by rw [List.length_append]; omega]
               refine ih (k + 1) (V ++ wk S d k w) _ (by omega) hh2 hh3 ?_ ?_
               · rw [List.append_assoc]; exact h3
               · rw [q2, h4, va_up_up, PutL_PutL (by omega) (by omega)])
            | (refine ih (k + 1) V _ (by omega) hh2 hh3 ?_ h4
               rw [if_neg (by assumption), List.nil_append] at h3
               exact h3)
          · have eq3 : S 3 d k = q := by omega
            rw [if_pos eq3] at h3
            rw [eq3] at hkp
            have hlen : (wk S d q w).length = V.length + ((wk S d k w).length + (sibG (S 3 d) (fun x => wk S d x w) q n (k + 1)).length) := by rw [← h3, List.length_append, List.length_append]
            have hdk : 2 ≤ S 4 d k := by omega
            have hA1 : AR cys ad L g1 a (PutL W b.toNat V) := ⟨hA.1, hA.2.1, by rw [h4, va_up_self]⟩
            have hPl : (PutL W b.toNat V).length = W.length := PutL_len (by omega)
            have hb1 : 0 ≤ b + V.length ∧ b + V.length + (wk S d k w).length ≤ (PutL W b.toNat V).length := by rw [hPl]; omega
            have hWl1 : (PutL W b.toNat V).length ≤ 24 := by rw [hPl]; exact hWl
            refine j_aload_n G dX7_walk_52 rfl ?_
            refine j_iload_n G dX7_walk_53 rfl ?_
            refine j_iload G dX7_walk_54 rfl ?_
            refine j_iload_n G dX7_walk_56 rfl ?_
            refine j_aload G dX7_walk_57 rfl ?_
            refine j_iload G dX7_walk_59 rfl ?_
            refine j_cVGI G cvX7_walk ml7_71 (c_X7_walk_1 hi hS hW hd hk hdk hw hA1 hb1 hWl1) dX7_walk_61 ⟨by decide, by decide⟩ (by first | exact ⟨by decide, by decide⟩ | (constructor <;> dsimp only <;> omega)) rfl rfl (Nat.le_of_ble_eq_true rfl) (by first | assumption | decide) rfl rfl rfl (fun r61 L61 g61 X61 Z61 h61 => ?_)
            obtain ⟨q1, rfl, q2, rfl, rfl⟩ := h61
            subst q1
            refine j_istore G dX7_walk_64 (by decide) rfl ?_
            skip
            refine j_iinc G dX7_walk_66 rfl (by decide) rfl ?_
            refine j_goto G 28 dX7_walk_69 (by decide) ?_
            first
            | (exfalso; omega)
            | (rw [show b + (V.length : Int) + ((wk S d k w).length : Int) = b + ((V ++ wk S d k w).length : Int) by rw [List.length_append]; omega]
               refine ih (k + 1) (V ++ wk S d k w) _ (by omega) hh2 hh3 ?_ ?_
               · rw [List.append_assoc]; exact h3
               · rw [q2, h4, va_up_up, PutL_PutL (by omega) (by omega)])
            | (refine ih (k + 1) V _ (by omega) hh2 hh3 ?_ h4
               rw [if_neg (by assumption), List.nil_append] at h3
               exact h3)
    refine j_keep [0, 1, 2, 3, 4, 6, 7] ?_
    have := loop (S 2 d 4 - 1).toNat 1 [] g (by omega) (by omega) rfl hne.symm (by rw [PutL_0, ← hA.2.2, va_up_id])
    rw [show b + (([] : List Int).length : Int) = b by simp] at this
    exact this
  · have hl1 := wk_eq ht hq.1 hq.2 (by omega : S 4 d q = w)
    rw [hl1] at hb
    have hb1 : b < W.length := by have := hb.2; simp at this; omega
    refine j_aload G dX7_walk_10 rfl ?_
    refine j_iload G dX7_walk_12 rfl ?_
    refine j_iload_n G dX7_walk_14 rfl ?_
    refine j_dst G dX7_walk_15 (by assumption) (by first | omega | decide) (by omega) (by omega) ?_
    refine j_iload G dX7_walk_16 rfl ?_
    refine j_iconst G dX7_walk_18 ?_
    refine j_iadd G dX7_walk_19 ?_
    refine jr_GI G hQ hr dX7_walk_20 (by first | decide | omega) (by first | decide | omega) ?_
    rw [wk_eq ht hq.1 hq.2 (by omega : S 4 d q = w)]
    refine ⟨rfl, rfl, ?_, rfl, rfl⟩
    rw [PutL_1 (by omega)]

set_option maxRecDepth 100000 in
set_option maxHeartbeats 8000000 in
theorem c_X7_walk {l : Launch} {D : va_G} {cys : Nat → ClassId} {ad : Nat → Int → Nat} {L : List Nat} {g : Nat → va_E} {X : Int64} {Z : ZT} (hi : injA ad) {S : ZT} {d q w b : Int} {a : Nat} {W : List Int} (hS : RMZ S Z) (hW : WF S) (hd : 0 ≤ d ∧ d < S 0 0 5) (hq : 0 ≤ q ∧ q < S 2 d 4) (hdep : 0 ≤ S 4 d q) (hw : 0 ≤ w ∧ w ≤ 4) (hA : AR cys ad L g a W) (hb : 0 ≤ b ∧ b + (wk S d q w).length ≤ W.length) (hWl : W.length ≤ 24) : CM l D cys ad yX7_walk cX7_walk 8 (some .int) 4 105 0 0 [.ref (ad 24 0), .int (iI d), .int (iI q), .int (iI w), .ref a, .int (iI b)] L g X Z (PGI L g X Z (fun r L9 g9 X9 Z9 => r = b + (wk S d q w).length ∧ L9 = L ∧ g9 = va_up g a (dA cys (PutL W b.toNat (wk S d q w))) ∧ X9 = X ∧ Z9 = Z)) := by
  refine cm_start hi (by decide +kernel) (Nat.le_of_ble_eq_true rfl) ?_
  intro p_ e_ s_ m_ args_ below_ meth_ c_ A_ Q_ hQ G hr hin
  have hn := hW.n
  have ht := hW.t hd.1 hd.2
  have ht1 := ht.1
  have hqm := ht.at hq.1 hq.2
  unfold MOK at hqm
  have hv26 : 0 ≤ d ∧ d < 4 := by omega
  have hv28 : vd 28 d := ⟨hd.1, show d < 4 by omega⟩
  have e26 := (hS.d hd.1 hv26.2).2.1
  refine j_aload_n G dX7_walk_0 rfl ?_
  refine j_iload_n G dX7_walk_1 rfl ?_
  refine j_iload_n G dX7_walk_2 rfl ?_
  refine j_cVI G cvX7_depth ml7_67 (c_X7_depth hi hS hW hd hq) dX7_walk_3 ⟨by decide, by decide⟩ ⟨by decide, by decide⟩ rfl rfl (Nat.le_of_ble_eq_true rfl) (by first | assumption | decide) rfl rfl rfl (fun r3 h3 => ?_)
  refine j_iload_n G dX7_walk_6 rfl ?_
  refine j_icmp_ne G 21 dX7_walk_7 (by decide) (by omega) (by omega) (fun c7 => ?_) (fun c7 => ?_)
  · refine j_iload G dX7_walk_21 rfl ?_
    refine j_istore G dX7_walk_23 (by decide) rfl ?_
    refine j_iconst G dX7_walk_25 ?_
    refine j_istore G dX7_walk_26 (by decide) rfl ?_
    have hne := wk_ne ht hq.1 hq.2 (by omega : ¬ S 4 d q = w)
    have loop : ∀ (n : Nat) (k : Int) (V : List Int) (g1 : Nat → va_E), 0 < k → k ≤ S 2 d 4 → (S 2 d 4 - k).toNat = n → V ++ sibG (S 3 d) (fun x => wk S d x w) q n k = wk S d q w → g1 = va_up g a (dA cys (PutL W b.toNat V)) → JJ p_ l e_ { frames := 4, cells := 0, slots := 0, locals := 105 } s_ m_ args_ below_ meth_ c_ D cys ad A_ Q_ 8 0 0 L g1 X Z 28 [(0, .ref (ad 24 0)), (1, .int (iI d)), (2, .int (iI q)), (3, .int (iI w)), (4, .ref a), (6, .int (iI (b + V.length))), (7, .int (iI k))] [] := by
      intro n
      induction n with
      | zero =>
        intro k V g1 h0 h1 h2 h3 h4
        have ek : k = S 2 d 4 := by omega
        subst ek
        have h3 : V ++ [] = wk S d q w := h3
        rw [List.append_nil] at h3
        refine j_iload G dX7_walk_28 rfl ?_
        refine j_aload_n G dX7_walk_30 rfl ?_
        refine gf_24_3 G dX7_walk_31 lf7_13 (by first | assumption | decide) ?_
        refine j_iload_n G dX7_walk_34 rfl ?_
        refine al_26 G dX7_walk_35 (by first | assumption | decide) (by omega) (by omega) ?_
        refine j_icmp_ge G 72 dX7_walk_36 (by decide) (by omega) (by omega) (fun c36 => ?_) (fun c36 => ?_)
        · refine j_iload G dX7_walk_72 rfl ?_
          refine jr_GI G hQ hr dX7_walk_74 (by first | decide | omega) (by first | decide | omega) ?_
          refine ⟨by rw [h3], rfl, by rw [h4, h3], rfl, rfl⟩
        · exfalso; omega
      | succ n ih =>
        intro k V g1 h0 h1 h2 h3 h4
        have h3 : V ++ ((if S 3 d k = q then wk S d k w else []) ++ sibG (S 3 d) (fun x => wk S d x w) q n (k + 1)) = wk S d q w := h3
        have hk : 0 ≤ k ∧ k < S 2 d 4 := by omega
        have hkm := ht.at hk.1 hk.2
        unfold MOK at hkm
        have hkp := hkm.2.2.2 h0
        have ep := hS.p hd.1 hd.2 h0 hk.2
        have hh2 : k + 1 ≤ S 2 d 4 := by omega
        have hh3 : (S 2 d 4 - (k + 1)).toNat = n := by omega
        refine j_iload G dX7_walk_28 rfl ?_
        refine j_aload_n G dX7_walk_30 rfl ?_
        refine gf_24_3 G dX7_walk_31 lf7_13 (by first | assumption | decide) ?_
        refine j_iload_n G dX7_walk_34 rfl ?_
        refine al_26 G dX7_walk_35 (by first | assumption | decide) (by omega) (by omega) ?_
        refine j_icmp_ge G 72 dX7_walk_36 (by decide) (by omega) (by omega) (fun c36 => ?_) (fun c36 => ?_)
        · exfalso; omega
        · refine j_aload_n G dX7_walk_39 rfl ?_
          refine gf_24_4 G dX7_walk_40 lf7_18 (by first | assumption | decide) ?_
          refine j_iload_n G dX7_walk_43 rfl ?_
          refine al_27 G dX7_walk_44 (by first | assumption | decide) (by omega) (by omega) ?_
          refine j_iload G dX7_walk_45 rfl ?_
          refine al_28 G dX7_walk_47 (by first | assumption | decide) (by omega) (by omega) ?_
          rw [ep]
          refine j_iload_n G dX7_walk_48 rfl ?_
          refine j_icmp_ne G 66 dX7_walk_49 (by decide) (by omega) (by omega) (fun c49 => ?_) (fun c49 => ?_)
          · skip
            refine j_iinc G dX7_walk_66 rfl (by decide) rfl ?_
            refine j_goto G 28 dX7_walk_69 (by decide) ?_
            first
            | (exfalso; omega)
            | (rw [show b + (V.length : Int) + ((wk S d k w).length : Int) = b + ((V ++ wk S d k w).length : Int) by rw [List.length_append]; omega]
               refine ih (k + 1) (V ++ wk S d k w) _ (by omega) hh2 hh3 ?_ ?_
               · rw [List.append_assoc]; exact h3
               · rw [q2, h4, va_up_up, PutL_PutL (by omega) (by omega)])
            | (refine ih (k + 1) V _ (by omega) hh2 hh3 ?_ h4
               rw [if_neg (by assumption), List.nil_append] at h3
               exact h3)
          · have eq3 : S 3 d k = q := by omega
            rw [if_pos eq3] at h3
            rw [eq3] at hkp
            have hlen : (wk S d q w).length = V.length + ((wk S d k w).length + (sibG (S 3 d) (fun x => wk S d x w) q n (k + 1)).length) := by rw [← h3, List.length_append, List.length_append]
            have hdk : 1 ≤ S 4 d k := by omega
            have hA1 : AR cys ad L g1 a (PutL W b.toNat V) := ⟨hA.1, hA.2.1, by rw [h4, va_up_self]⟩
            have hPl : (PutL W b.toNat V).length = W.length := PutL_len (by omega)
            have hb1 : 0 ≤ b + V.length ∧ b + V.length + (wk S d k w).length ≤ (PutL W b.toNat V).length := by rw [hPl]; omega
            have hWl1 : (PutL W b.toNat V).length ≤ 24 := by rw [hPl]; exact hWl
            refine j_aload_n G dX7_walk_52 rfl ?_
            refine j_iload_n G dX7_walk_53 rfl ?_
            refine j_iload G dX7_walk_54 rfl ?_
            refine j_iload_n G dX7_walk_56 rfl ?_
            refine j_aload G dX7_walk_57 rfl ?_
            refine j_iload G dX7_walk_59 rfl ?_
            refine j_cVGI G cvX7_walk ml7_71 (c_X7_walk_2 hi hS hW hd hk hdk hw hA1 hb1 hWl1) dX7_walk_61 ⟨by decide, by decide⟩ (by first | exact ⟨by decide, by decide⟩ | (constructor <;> dsimp only <;> omega)) rfl rfl (Nat.le_of_ble_eq_true rfl) (by first | assumption | decide) rfl rfl rfl (fun r61 L61 g61 X61 Z61 h61 => ?_)
            obtain ⟨q1, rfl, q2, rfl, rfl⟩ := h61
            subst q1
            refine j_istore G dX7_walk_64 (by decide) rfl ?_
            skip
            refine j_iinc G dX7_walk_66 rfl (by decide) rfl ?_
            refine j_goto G 28 dX7_walk_69 (by decide) ?_
            first
            | (exfalso; omega)
            | (rw [show b + (V.length : Int) + ((wk S d k w).length : Int) = b + ((V ++ wk S d k w).length : Int) by rw [List.length_append]; omega]
               refine ih (k + 1) (V ++ wk S d k w) _ (by omega) hh2 hh3 ?_ ?_
               · rw [List.append_assoc]; exact h3
               · rw [q2, h4, va_up_up, PutL_PutL (by omega) (by omega)])
            | (refine ih (k + 1) V _ (by omega) hh2 hh3 ?_ h4
               rw [if_neg (by assumption), List.nil_append] at h3
               exact h3)
    refine j_keep [0, 1, 2, 3, 4, 6, 7] ?_
    have := loop (S 2 d 4 - 1).toNat 1 [] g (by omega) (by omega) rfl hne.symm (by rw [PutL_0, ← hA.2.2, va_up_id])
    rw [show b + (([] : List Int).length : Int) = b by simp] at this
    exact this
  · have hl1 := wk_eq ht hq.1 hq.2 (by omega : S 4 d q = w)
    rw [hl1] at hb
    have hb1 : b < W.length := by have := hb.2; simp at this; omega
    refine j_aload G dX7_walk_10 rfl ?_
    refine j_iload G dX7_walk_12 rfl ?_
    refine j_iload_n G dX7_walk_14 rfl ?_
    refine j_dst G dX7_walk_15 (by assumption) (by first | omega | decide) (by omega) (by omega) ?_
    refine j_iload G dX7_walk_16 rfl ?_
    refine j_iconst G dX7_walk_18 ?_
    refine j_iadd G dX7_walk_19 ?_
    refine jr_GI G hQ hr dX7_walk_20 (by first | decide | omega) (by first | decide | omega) ?_
    rw [wk_eq ht hq.1 hq.2 (by omega : S 4 d q = w)]
    refine ⟨rfl, rfl, ?_, rfl, rfl⟩
    rw [PutL_1 (by omega)]

