theorem dX6_lineUp_0 : decode cX6_lineUp 0 = .ok (.aload_n 2, 1) := by decide +kernel
theorem dX6_lineUp_1 : decode cX6_lineUp 1 = .ok (.invokevirtual 185, 3) := by decide +kernel
theorem dX6_lineUp_4 : decode cX6_lineUp 4 = .ok (.istore_n 3, 1) := by decide +kernel
theorem dX6_lineUp_5 : decode cX6_lineUp 5 = .ok (.aload_n 2, 1) := by decide +kernel
theorem dX6_lineUp_6 : decode cX6_lineUp 6 = .ok (.aload_n 2, 1) := by decide +kernel
theorem dX6_lineUp_7 : decode cX6_lineUp 7 = .ok (.getfield 150, 3) := by decide +kernel
theorem dX6_lineUp_10 : decode cX6_lineUp 10 = .ok (.iload_n 3, 1) := by decide +kernel
theorem dX6_lineUp_11 : decode cX6_lineUp 11 = .ok (.aload_n 0, 1) := by decide +kernel
theorem dX6_lineUp_12 : decode cX6_lineUp 12 = .ok (.getfield 49, 3) := by decide +kernel
theorem dX6_lineUp_15 : decode cX6_lineUp 15 = .ok (.getfield 188, 3) := by decide +kernel
theorem dX6_lineUp_18 : decode cX6_lineUp 18 = .ok (.invokevirtual 134, 3) := by decide +kernel
theorem dX6_lineUp_21 : decode cX6_lineUp 21 = .ok (.aload_n 0, 1) := by decide +kernel
theorem dX6_lineUp_22 : decode cX6_lineUp 22 = .ok (.getfield 49, 3) := by decide +kernel
theorem dX6_lineUp_25 : decode cX6_lineUp 25 = .ok (.invokevirtual 331, 3) := by decide +kernel
theorem dX6_lineUp_28 : decode cX6_lineUp 28 = .ok (.iconst 0, 1) := by decide +kernel
theorem dX6_lineUp_29 : decode cX6_lineUp 29 = .ok (.istore 4, 2) := by decide +kernel
theorem dX6_lineUp_31 : decode cX6_lineUp 31 = .ok (.iload 4, 2) := by decide +kernel
theorem dX6_lineUp_33 : decode cX6_lineUp 33 = .ok (.aload_n 0, 1) := by decide +kernel
theorem dX6_lineUp_34 : decode cX6_lineUp 34 = .ok (.getfield 18, 3) := by decide +kernel
theorem dX6_lineUp_37 : decode cX6_lineUp 37 = .ok (.getfield 160, 3) := by decide +kernel
theorem dX6_lineUp_40 : decode cX6_lineUp 40 = .ok (.if_icmp .ge 85, 3) := by decide +kernel
theorem dX6_lineUp_43 : decode cX6_lineUp 43 = .ok (.aload_n 0, 1) := by decide +kernel
theorem dX6_lineUp_44 : decode cX6_lineUp 44 = .ok (.getfield 49, 3) := by decide +kernel
theorem dX6_lineUp_47 : decode cX6_lineUp 47 = .ok (.getfield 188, 3) := by decide +kernel
theorem dX6_lineUp_50 : decode cX6_lineUp 50 = .ok (.aload_n 2, 1) := by decide +kernel
theorem dX6_lineUp_51 : decode cX6_lineUp 51 = .ok (.aload_n 0, 1) := by decide +kernel
theorem dX6_lineUp_52 : decode cX6_lineUp 52 = .ok (.getfield 18, 3) := by decide +kernel
theorem dX6_lineUp_55 : decode cX6_lineUp 55 = .ok (.getfield 166, 3) := by decide +kernel
theorem dX6_lineUp_58 : decode cX6_lineUp 58 = .ok (.iload_n 1, 1) := by decide +kernel
theorem dX6_lineUp_59 : decode cX6_lineUp 59 = .ok (.aaload, 1) := by decide +kernel
theorem dX6_lineUp_60 : decode cX6_lineUp 60 = .ok (.iload 4, 2) := by decide +kernel
theorem dX6_lineUp_62 : decode cX6_lineUp 62 = .ok (.iaload, 1) := by decide +kernel
theorem dX6_lineUp_63 : decode cX6_lineUp 63 = .ok (.iload_n 3, 1) := by decide +kernel
theorem dX6_lineUp_64 : decode cX6_lineUp 64 = .ok (.invokevirtual 334, 3) := by decide +kernel
theorem dX6_lineUp_67 : decode cX6_lineUp 67 = .ok (.invokevirtual 337, 3) := by decide +kernel
theorem dX6_lineUp_70 : decode cX6_lineUp 70 = .ok (.istore 5, 2) := by decide +kernel
theorem dX6_lineUp_72 : decode cX6_lineUp 72 = .ok (.aload_n 0, 1) := by decide +kernel
theorem dX6_lineUp_73 : decode cX6_lineUp 73 = .ok (.getfield 49, 3) := by decide +kernel
theorem dX6_lineUp_76 : decode cX6_lineUp 76 = .ok (.getfield 188, 3) := by decide +kernel
theorem dX6_lineUp_79 : decode cX6_lineUp 79 = .ok (.iload 5, 2) := by decide +kernel
theorem dX6_lineUp_81 : decode cX6_lineUp 81 = .ok (.invokevirtual 138, 3) := by decide +kernel
theorem dX6_lineUp_84 : decode cX6_lineUp 84 = .ok (.ifCond .eq 35, 3) := by decide +kernel
theorem dX6_lineUp_87 : decode cX6_lineUp 87 = .ok (.aload_n 0, 1) := by decide +kernel
theorem dX6_lineUp_88 : decode cX6_lineUp 88 = .ok (.iload 4, 2) := by decide +kernel
theorem dX6_lineUp_90 : decode cX6_lineUp 90 = .ok (.invokevirtual 175, 3) := by decide +kernel
theorem dX6_lineUp_93 : decode cX6_lineUp 93 = .ok (.ifCond .eq 26, 3) := by decide +kernel
theorem dX6_lineUp_96 : decode cX6_lineUp 96 = .ok (.aload_n 0, 1) := by decide +kernel
theorem dX6_lineUp_97 : decode cX6_lineUp 97 = .ok (.getfield 49, 3) := by decide +kernel
theorem dX6_lineUp_100 : decode cX6_lineUp 100 = .ok (.getfield 196, 3) := by decide +kernel
theorem dX6_lineUp_103 : decode cX6_lineUp 103 = .ok (.iload 5, 2) := by decide +kernel
theorem dX6_lineUp_105 : decode cX6_lineUp 105 = .ok (.dup2, 1) := by decide +kernel
theorem dX6_lineUp_106 : decode cX6_lineUp 106 = .ok (.iaload, 1) := by decide +kernel
theorem dX6_lineUp_107 : decode cX6_lineUp 107 = .ok (.aload_n 0, 1) := by decide +kernel
theorem dX6_lineUp_108 : decode cX6_lineUp 108 = .ok (.getfield 18, 3) := by decide +kernel
theorem dX6_lineUp_111 : decode cX6_lineUp 111 = .ok (.getfield 163, 3) := by decide +kernel
theorem dX6_lineUp_114 : decode cX6_lineUp 114 = .ok (.iload 4, 2) := by decide +kernel
theorem dX6_lineUp_116 : decode cX6_lineUp 116 = .ok (.iaload, 1) := by decide +kernel
theorem dX6_lineUp_117 : decode cX6_lineUp 117 = .ok (.iadd, 1) := by decide +kernel
theorem dX6_lineUp_118 : decode cX6_lineUp 118 = .ok (.iastore, 1) := by decide +kernel
theorem dX6_lineUp_119 : decode cX6_lineUp 119 = .ok (.iinc 4 1, 3) := by decide +kernel
theorem dX6_lineUp_122 : decode cX6_lineUp 122 = .ok (.goto (-91), 3) := by decide +kernel
theorem dX6_lineUp_125 : decode cX6_lineUp 125 = .ok (.return_, 1) := by decide +kernel
/-! by program: wip/whole/gen.py out of wip/whole/src/15.lineup.eb -/
/-! EbbTable: the children of the point, tables -/
set_option maxRecDepth 100000 in
set_option maxHeartbeats 8000000 in
theorem c_X6_lineUp {l : Launch} {D : va_G} {cys : Nat → ClassId} {ad : Nat → Int → Nat} {L : List Nat} {g : Nat → va_E} {X : Int64} {Z : ZT} (hi : injA ad) {S : ZT} {d : Int} (hS : SP S Z) (hW : WF S) (hd : 0 ≤ d ∧ d < S 0 0 5) : CM l D cys ad yX6_lineUp cX6_lineUp 6 none 3 73 0 0 [.ref (ad 0 0), .int (iI d), .ref (ad 2 d)] L g X Z (PVZ L g X Z (fun Z' => SP S Z' ∧ LST Z' 3 (kids S d) ∧ ∀ j, 0 ≤ j → j < 24 → Z' 21 0 j = lsum S d j)) := by
  refine cm_start hi (by decide +kernel) (Nat.le_of_ble_eq_true rfl) ?_
  intro p_ e_ s_ m_ args_ below_ meth_ c_ A_ Q_ hQ G hr hin
  have hn := hW.n
  have hf := hW.f
  have ht := hW.t hd.1 hd.2
  have ht1 := ht.1
  have hte := TE.of hS d
  have hTZ := hte.ok ht
  have hv2 : vd 2 d := ⟨hd.1, show d < 4 by omega⟩
  have hv8 : vd 8 d := ⟨hd.1, show d < 4 by omega⟩
  have e2 : Z 2 = S 2 := hS.1 2 rfl
  have e4 : Z 4 = S 4 := hS.1 4 rfl
  have hpt := ht.at ht1.2.2.2.2.1 ht1.2.2.2.2.2.1
  unfold MOK at hpt
  have hkl : ((kids S d).length : Int) ≤ 24 := by
    have := wk_len (S 4 d (S 2 d 5) + 1) ht ht1.2.2.2.2.1 ht1.2.2.2.2.2.1
    unfold kids; omega
  have hki : ∀ x ∈ kids S d, (0 ≤ x ∧ x < S 2 d 4) ∧ S 4 d x = S 4 d (S 2 d 5) + 1 := fun x hx => by
    have := wk_in ht ht1.2.2.2.2.1 ht1.2.2.2.2.2.1 hx
    exact ⟨this.1, this.2.2⟩
  have htz : 0 ≤ Z 2 d 5 ∧ Z 2 d 5 < Z 2 d 4 := by rw [e2]; omega
  refine j_aload_n G dX6_lineUp_0 rfl ?_
  refine j_cVI G cvX4_depthOfChildren ml6_185 (c_X4_depthOfChildren hi (by first | assumption | omega | decide) (by first | assumption | omega | decide)) dX6_lineUp_1 ⟨by decide, by decide⟩ ⟨by decide, by decide⟩ rfl rfl (Nat.le_of_ble_eq_true rfl) (by first | assumption | decide) rfl rfl rfl (fun r1 h1 => ?_)
  rw [e2, e4] at h1
  have hr1 : 1 ≤ r1 ∧ r1 ≤ 4 := by omega
  have hir1 : inR r1 := by omega
  refine j_istore_n G dX6_lineUp_4 (by decide) rfl ?_
  refine j_aload_n G dX6_lineUp_5 rfl ?_
  refine j_aload_n G dX6_lineUp_6 rfl ?_
  refine gf_2_5 G dX6_lineUp_7 lf6_150 (by first | assumption | decide) ?_
  refine j_iload_n G dX6_lineUp_10 rfl ?_
  refine j_aload_n G dX6_lineUp_11 rfl ?_
  refine gf_0_10 G dX6_lineUp_12 lf6_49 (by first | assumption | decide) ?_
  refine gf_20_0 G dX6_lineUp_15 lf6_188 (by first | assumption | decide) ?_
  refine j_cVVZ G cvX4_listBeneath ml6_134 (c_X4_listBeneath hi hv2 (by decide) hTZ htz hir1) dX6_lineUp_18 ⟨by decide, by decide⟩ ⟨by decide, by decide⟩ rfl rfl (Nat.le_of_ble_eq_true rfl) (by first | assumption | decide) rfl rfl rfl (fun Z18 h18 => ?_)
  obtain ⟨hL18, hA18, hB18⟩ := h18
  rw [hte.e_wk, e2, h1] at hL18
  have hS18 : SP S Z18 := ⟨fun k hk => by rw [hA18 k (by rintro rfl; cases hk) (by rintro rfl; cases hk)]; exact hS.1 k hk, fun i => by rw [hA18 15 (by decide) (by decide)]; exact hS.2 i⟩
  have hL18 : LST Z18 3 (kids S d) := hL18
  refine j_aload_n G dX6_lineUp_21 rfl ?_
  refine gf_0_10 G dX6_lineUp_22 lf6_49 (by first | assumption | decide) ?_
  refine j_cVVZ G cvX2_clearSums ml6_331 (c_X2_clearSums hi ) dX6_lineUp_25 ⟨by decide, by decide⟩ ⟨by decide, by decide⟩ rfl rfl (Nat.le_of_ble_eq_true rfl) (by first | assumption | decide) rfl rfl rfl (fun Z25 h25 => ?_)
  obtain ⟨hA25, hB25⟩ := h25
  have hS25 : SP S Z25 := ⟨fun k hk => by rw [hA25 k (by rintro rfl; cases hk)]; exact hS18.1 k hk, fun i => by rw [hA25 15 (by decide)]; exact hS18.2 i⟩
  have hL25 : LST Z25 3 (kids S d) := hL18.of (by rw [hA25 16 (by decide)]) (by rw [hA25 17 (by decide)])
  have loop : ∀ (n : Nat) (a : Int) (Y : ZT), 0 ≤ a → a ≤ S 6 0 3 → (S 6 0 3 - a).toNat = n → SP S Y → LST Y 3 (kids S d) → (∀ j : Int, 0 ≤ j → j < 24 → Y 21 0 j = if j < (kids S d).length then sumTo (fun k => iv (seen S k ∧ bel S d (S 8 d k) ((kids S d).getD j.toNat 0)) * S 9 0 k) a.toNat else 0) → JJ p_ l e_ { frames := 3, cells := 0, slots := 0, locals := 73 } s_ m_ args_ below_ meth_ c_ D cys ad A_ Q_ 6 0 0 L g X Y 31 [(0, .ref (ad 0 0)), (1, .int (iI d)), (2, .ref (ad 2 d)), (3, .int (iI r1)), (4, .int (iI a))] [] := by
    intro n
    induction n with
    | zero =>
      intro a Y h0 h1' h2 h3 h4 h5
      have e63 : Y 6 0 3 = S 6 0 3 := by rw [h3.1 6 rfl]
      have ea : a = S 6 0 3 := by omega
      subst ea
      refine j_iload G dX6_lineUp_31 rfl ?_
      refine j_aload_n G dX6_lineUp_33 rfl ?_
      refine gf_0_1 G dX6_lineUp_34 lf6_18 (by first | assumption | decide) ?_
      refine gf_6_3 G dX6_lineUp_37 lf6_160 (by first | assumption | decide) ?_
      refine j_icmp_ge G 125 dX6_lineUp_40 (by decide) (by omega) (by omega) (fun c40 => ?_) (fun c40 => ?_)
      · refine jr_VZ G hQ hr dX6_lineUp_125 (by decide) (by decide) ?_
        refine ⟨h3, h4, fun j j0 j1 => ?_⟩
        rw [h5 j j0 j1]
        unfold lsum csum
        by_cases e : j < (kids S d).length
        · rw [if_pos e, if_pos ⟨j0, e⟩]
        · rw [if_neg e, if_neg (fun q => e q.2)]
      · exfalso; omega
    | succ n ih =>
      intro a Y h0 h1' h2 h3 h4 h5
      have e63 : Y 6 0 3 = S 6 0 3 := by rw [h3.1 6 rfl]
      have hteY := TE.of h3 d
      have hTY := hteY.ok ht
      have hfk := hW.fk h0 (by omega : a < S 6 0 3)
      have hl := hfk.1 d hd.1 hd.2
      have e8 : Y 8 d a = S 8 d a := by rw [h3.1 8 rfl]
      have e9 : Y 9 0 a = S 9 0 a := by rw [h3.1 9 rfl]
      have e24 : Y 2 d 4 = S 2 d 4 := by rw [h3.1 2 rfl]
      have hlz : 0 ≤ Y 8 d a ∧ Y 8 d a < Y 2 d 4 := by omega
      have hlen := h4.1
      have hvals : ∀ j, 0 ≤ j → j < Y 16 3 1 → inR (Y 17 3 j) := fun j j0 j1 => by
        have := (hki _ (h4.at j0 (by omega)).2.1).1
        omega
      have ha16 : 0 ≤ Y 16 3 1 ∧ Y 16 3 1 ≤ 24 := by omega
      have hS3 := h3
      have hak : 0 ≤ a ∧ a < S 6 0 3 := by omega
      have hsum : ∀ w, sumTo (fun k => iv (seen S k ∧ bel S d (S 8 d k) w) * S 9 0 k) (a + 1).toNat = sumTo (fun k => iv (seen S k ∧ bel S d (S 8 d k) w) * S 9 0 k) a.toNat + iv (seen S a ∧ bel S d (S 8 d a) w) * S 9 0 a := fun w => sumTo_s h0
      have hbel : ∀ w ∈ kids S d, bel S d (S 8 d a) w ↔ abv S d (S 8 d a) r1 = w := fun w hw => by
        have := (hki w hw)
        have hm := ht.at this.1.1 this.1.2
        unfold MOK at hm
        exact bel_abv (by omega) (by omega)
      refine j_iload G dX6_lineUp_31 rfl ?_
      refine j_aload_n G dX6_lineUp_33 rfl ?_
      refine gf_0_1 G dX6_lineUp_34 lf6_18 (by first | assumption | decide) ?_
      refine gf_6_3 G dX6_lineUp_37 lf6_160 (by first | assumption | decide) ?_
      refine j_icmp_ge G 125 dX6_lineUp_40 (by decide) (by omega) (by omega) (fun c40 => ?_) (fun c40 => ?_)
      · exfalso; omega
      · refine j_aload_n G dX6_lineUp_43 rfl ?_
        refine gf_0_10 G dX6_lineUp_44 lf6_49 (by first | assumption | decide) ?_
        refine gf_20_0 G dX6_lineUp_47 lf6_188 (by first | assumption | decide) ?_
        refine j_aload_n G dX6_lineUp_50 rfl ?_
        refine j_aload_n G dX6_lineUp_51 rfl ?_
        refine gf_0_1 G dX6_lineUp_52 lf6_18 (by first | assumption | decide) ?_
        refine gf_6_0 G dX6_lineUp_55 lf6_166 (by first | assumption | decide) ?_
        refine j_iload_n G dX6_lineUp_58 rfl ?_
        refine al_7 G dX6_lineUp_59 (by first | assumption | decide) (by omega) (by omega) ?_
        refine j_iload G dX6_lineUp_60 rfl ?_
        refine al_8 G dX6_lineUp_62 (by first | assumption | decide) (by omega) (by omega) ?_
        refine j_iload_n G dX6_lineUp_63 rfl ?_
        refine j_cVI G cvX4_aboveOn ml6_334 (c_X4_aboveOn hi hv2 hTY hlz (by omega)) dX6_lineUp_64 ⟨by decide, by decide⟩ ⟨by decide, by decide⟩ rfl rfl (Nat.le_of_ble_eq_true rfl) (by first | assumption | decide) rfl rfl rfl (fun r64 h64 => ?_)
        rw [hteY.e_abv, e8] at h64
        have hir64 : inR r64 := by
          have := abv_ok ht hl.1 hl.2.1 (show 0 ≤ r1 by omega)
          omega
        refine j_cVI G cvX3_placeOf ml6_337 (c_X3_placeOf hi (by decide) ha16 hir64 hvals) dX6_lineUp_67 ⟨by decide, by decide⟩ ⟨by decide, by decide⟩ rfl rfl (Nat.le_of_ble_eq_true rfl) (by first | assumption | decide) rfl rfl rfl (fun r67 h67 => ?_)
        have hfd := h4.found h67
        rw [h64] at hfd
        have hir67 : inR r67 := by omega
        have hir16 : inR (Y 16 3 1) := by omega
        refine j_istore G dX6_lineUp_70 (by decide) rfl ?_
        refine j_aload_n G dX6_lineUp_72 rfl ?_
        refine gf_0_10 G dX6_lineUp_73 lf6_49 (by first | assumption | decide) ?_
        refine gf_20_0 G dX6_lineUp_76 lf6_188 (by first | assumption | decide) ?_
        refine j_iload G dX6_lineUp_79 rfl ?_
        refine j_cVI G cvX3_hasPlace ml6_138 (c_X3_hasPlace hi (by first | assumption | omega | decide) (by first | assumption | omega | decide) (by first | assumption | omega | decide)) dX6_lineUp_81 ⟨by decide, by decide⟩ ⟨by decide, by decide⟩ rfl rfl (Nat.le_of_ble_eq_true rfl) (by first | assumption | decide) rfl rfl rfl (fun r81 h81 => ?_)
        refine j_if_eq G 119 dX6_lineUp_84 (by decide) (by omega) (fun c84 => ?_) (fun c84 => ?_)
        · first
          | (have hnone : ∀ w ∈ kids S d, ¬ (seen S a ∧ bel S d (S 8 d a) w) := by
               first
               | (intro w hw hc
                  rcases h90 with q | q
                  · exfalso; omega
                  · exact q.2 hc.1)
               | (intro w hw hc
                  rcases hfd with q | q
                  · exfalso; omega
                  · exact q.2 ((hbel w hw).mp hc.2 ▸ hw))
             refine j_keep [0, 1, 2, 3, 4] ?_
             obtain ⟨V, hV⟩ : ∃ y, y = Y := ⟨_, rfl⟩
             have hVS : SP S V := by rw [hV]; exact h3
             have hVL : LST V 3 (kids S d) := by rw [hV]; exact h4
             have hVv : ∀ j : Int, 0 ≤ j → j < 24 → V 21 0 j = if j < (kids S d).length then sumTo (fun k => iv (seen S k ∧ bel S d (S 8 d k) ((kids S d).getD j.toNat 0)) * S 9 0 k) (a + 1).toNat else 0 := by
               intro j j0 j1
               rw [hV, h5 j j0 j1]
               by_cases e : j < (kids S d).length
               · rw [if_pos e, if_pos e, hsum, iv_f (hnone _ (by rw [(h4.at j0 e).2.2]; exact (h4.at j0 e).2.1)), Int.zero_mul, Int.add_zero]
               · rw [if_neg e, if_neg e]
             rw [← hV])
          | (have hfd' : 0 ≤ r67 ∧ r67 < (kids S d).length ∧ (kids S d).getD r67.toNat 0 = abv S d (S 8 d a) r1 ∧ abv S d (S 8 d a) r1 ∈ kids S d := by
               rcases hfd with q | q
               · exact q
               · exfalso; omega
             have hseen : seen S a := by
               rcases h90 with q | q
               · exact q.2
               · exfalso; omega
             refine j_keep [0, 1, 2, 3, 4] ?_
             obtain ⟨V, hV⟩ : ∃ y, y = zS Y 21 0 r67 (Y 21 0 r67 + Y 9 0 a) := ⟨_, rfl⟩
             have hVS : SP S V := by
               rw [hV]
               exact ⟨fun k hk => by rw [zS_k (by rintro rfl; cases hk)]; exact h3.1 k hk, fun i => by rw [zS_k (by decide)]; exact h3.2 i⟩
             have hVL : LST V 3 (kids S d) := by
               rw [hV]
               exact h4.of (by rw [zS_k (by decide)]) (by rw [zS_k (by decide)])
             have hVv : ∀ j : Int, 0 ≤ j → j < 24 → V 21 0 j = if j < (kids S d).length then sumTo (fun k => iv (seen S k ∧ bel S d (S 8 d k) ((kids S d).getD j.toNat 0)) * S 9 0 k) (a + 1).toNat else 0 := by
               intro j j0 j1
               rw [hV, zS_v]
               by_cases e1 : j = r67
               · subst e1
                 rw [if_pos rfl, if_pos hfd'.2.1, h5 j j0 j1, if_pos hfd'.2.1, hsum, iv_t ⟨hseen, (hbel _ (by rw [hfd'.2.2.1]; exact hfd'.2.2.2)).mpr hfd'.2.2.1.symm⟩, Int.one_mul, e9]
               · rw [if_neg e1, h5 j j0 j1]
                 by_cases e : j < (kids S d).length
                 · rw [if_pos e, if_pos e, hsum, iv_f, Int.zero_mul, Int.add_zero]
                   rintro ⟨-, q⟩
                   have a1 := h4.at j0 e
                   have a2 := h4.at hfd'.1 hfd'.2.1
                   have q := (hbel _ (by rw [a1.2.2]; exact a1.2.1)).mp q
                   rw [← hfd'.2.2.1, a1.2.2, a2.2.2] at q
                   have := nd_inj (wk_nd _ ht ht1.2.2.2.2.1 ht1.2.2.2.2.2.1) (q ▸ a1.1) a2.1
                   omega
                 · rw [if_neg e, if_neg e]
             rw [← hV])
          refine j_iinc G dX6_lineUp_119 rfl (by decide) rfl ?_
          refine j_goto G 31 dX6_lineUp_122 (by decide) ?_
          exact ih (a + 1) V (by omega) (by omega) (by omega) hVS hVL hVv
        · refine j_aload_n G dX6_lineUp_87 rfl ?_
          refine j_iload G dX6_lineUp_88 rfl ?_
          refine j_cVI G cvX6_isSeen ml6_175 (c_X6_isSeen hi hS3 hW hak) dX6_lineUp_90 ⟨by decide, by decide⟩ ⟨by decide, by decide⟩ rfl rfl (Nat.le_of_ble_eq_true rfl) (by first | assumption | decide) rfl rfl rfl (fun r90 h90 => ?_)
          refine j_if_eq G 119 dX6_lineUp_93 (by decide) (by omega) (fun c93 => ?_) (fun c93 => ?_)
          · first
            | (have hnone : ∀ w ∈ kids S d, ¬ (seen S a ∧ bel S d (S 8 d a) w) := by
                 first
                 | (intro w hw hc
                    rcases h90 with q | q
                    · exfalso; omega
                    · exact q.2 hc.1)
                 | (intro w hw hc
                    rcases hfd with q | q
                    · exfalso; omega
                    · exact q.2 ((hbel w hw).mp hc.2 ▸ hw))
               refine j_keep [0, 1, 2, 3, 4] ?_
               obtain ⟨V, hV⟩ : ∃ y, y = Y := ⟨_, rfl⟩
               have hVS : SP S V := by rw [hV]; exact h3
               have hVL : LST V 3 (kids S d) := by rw [hV]; exact h4
               have hVv : ∀ j : Int, 0 ≤ j → j < 24 → V 21 0 j = if j < (kids S d).length then sumTo (fun k => iv (seen S k ∧ bel S d (S 8 d k) ((kids S d).getD j.toNat 0)) * S 9 0 k) (a + 1).toNat else 0 := by
                 intro j j0 j1
                 rw [hV, h5 j j0 j1]
                 by_cases e : j < (kids S d).length
                 · rw [if_pos e, if_pos e, hsum, iv_f (hnone _ (by rw [(h4.at j0 e).2.2]; exact (h4.at j0 e).2.1)), Int.zero_mul, Int.add_zero]
                 · rw [if_neg e, if_neg e]
               rw [← hV])
            | (have hfd' : 0 ≤ r67 ∧ r67 < (kids S d).length ∧ (kids S d).getD r67.toNat 0 = abv S d (S 8 d a) r1 ∧ abv S d (S 8 d a) r1 ∈ kids S d := by
                 rcases hfd with q | q
                 · exact q
                 · exfalso; omega
               have hseen : seen S a := by
                 rcases h90 with q | q
                 · exact q.2
                 · exfalso; omega
               refine j_keep [0, 1, 2, 3, 4] ?_
               obtain ⟨V, hV⟩ : ∃ y, y = zS Y 21 0 r67 (Y 21 0 r67 + Y 9 0 a) := ⟨_, rfl⟩
               have hVS : SP S V := by
                 rw [hV]
                 exact ⟨fun k hk => by rw [zS_k (by rintro rfl; cases hk)]; exact h3.1 k hk, fun i => by rw [zS_k (by decide)]; exact h3.2 i⟩
               have hVL : LST V 3 (kids S d) := by
                 rw [hV]
                 exact h4.of (by rw [zS_k (by decide)]) (by rw [zS_k (by decide)])
               have hVv : ∀ j : Int, 0 ≤ j → j < 24 → V 21 0 j = if j < (kids S d).length then sumTo (fun k => iv (seen S k ∧ bel S d (S 8 d k) ((kids S d).getD j.toNat 0)) * S 9 0 k) (a + 1).toNat else 0 := by
                 intro j j0 j1
                 rw [hV, zS_v]
                 by_cases e1 : j = r67
                 · subst e1
                   rw [if_pos rfl, if_pos hfd'.2.1, h5 j j0 j1, if_pos hfd'.2.1, hsum, iv_t ⟨hseen, (hbel _ (by rw [hfd'.2.2.1]; exact hfd'.2.2.2)).mpr hfd'.2.2.1.symm⟩, Int.one_mul, e9]
                 · rw [if_neg e1, h5 j j0 j1]
                   by_cases e : j < (kids S d).length
                   · rw [if_pos e, if_pos e, hsum, iv_f, Int.zero_mul, Int.add_zero]
                     rintro ⟨-, q⟩
                     have a1 := h4.at j0 e
                     have a2 := h4.at hfd'.1 hfd'.2.1
                     have q := (hbel _ (by rw [a1.2.2]; exact a1.2.1)).mp q
                     rw [← hfd'.2.2.1, a1.2.2, a2.2.2] at q
                     have := nd_inj (wk_nd _ ht ht1.2.2.2.2.1 ht1.2.2.2.2.2.1) (q ▸ a1.1) a2.1
                     omega
                   · rw [if_neg e, if_neg e]
               rw [← hV])
            refine j_iinc G dX6_lineUp_119 rfl (by decide) rfl ?_
            refine j_goto G 31 dX6_lineUp_122 (by decide) ?_
            exact ih (a + 1) V (by omega) (by omega) (by omega) hVS hVL hVv
          · refine j_aload_n G dX6_lineUp_96 rfl ?_
            refine gf_0_10 G dX6_lineUp_97 lf6_49 (by first | assumption | decide) ?_
            refine gf_20_1 G dX6_lineUp_100 lf6_196 (by first | assumption | decide) ?_
            refine j_iload G dX6_lineUp_103 rfl ?_
            have h67b : 0 ≤ r67 ∧ r67 < 24 := by omega
            refine j_dup2 G dX6_lineUp_105 rfl rfl ?_
            refine al_21 G dX6_lineUp_106 (by first | assumption | decide) (by omega) (by omega) ?_
            refine j_aload_n G dX6_lineUp_107 rfl ?_
            refine gf_0_1 G dX6_lineUp_108 lf6_18 (by first | assumption | decide) ?_
            refine gf_6_1 G dX6_lineUp_111 lf6_163 (by first | assumption | decide) ?_
            refine j_iload G dX6_lineUp_114 rfl ?_
            refine al_9 G dX6_lineUp_116 (by first | assumption | decide) (by omega) (by omega) ?_
            refine j_iadd G dX6_lineUp_117 ?_
            refine as_21 G dX6_lineUp_118 (by first | assumption | decide) (by omega) (by omega) ?_
            first
            | (have hnone : ∀ w ∈ kids S d, ¬ (seen S a ∧ bel S d (S 8 d a) w) := by
                 first
                 | (intro w hw hc
                    rcases h90 with q | q
                    · exfalso; omega
                    · exact q.2 hc.1)
                 | (intro w hw hc
                    rcases hfd with q | q
                    · exfalso; omega
                    · exact q.2 ((hbel w hw).mp hc.2 ▸ hw))
               refine j_keep [0, 1, 2, 3, 4] ?_
               obtain ⟨V, hV⟩ : ∃ y, y = Y := ⟨_, rfl⟩
               have hVS : SP S V := by rw [hV]; exact h3
               have hVL : LST V 3 (kids S d) := by rw [hV]; exact h4
               have hVv : ∀ j : Int, 0 ≤ j → j < 24 → V 21 0 j = if j < (kids S d).length then sumTo (fun k => iv (seen S k ∧ bel S d (S 8 d k) ((kids S d).getD j.toNat 0)) * S 9 0 k) (a + 1).toNat else 0 := by
                 intro j j0 j1
                 rw [hV, h5 j j0 j1]
                 by_cases e : j < (kids S d).length
                 · rw [if_pos e, if_pos e, hsum, iv_f (hnone _ (by rw [(h4.at j0 e).2.2]; exact (h4.at j0 e).2.1)), Int.zero_mul, Int.add_zero]
                 · rw [if_neg e, if_neg e]
               rw [← hV])
            | (have hfd' : 0 ≤ r67 ∧ r67 < (kids S d).length ∧ (kids S d).getD r67.toNat 0 = abv S d (S 8 d a) r1 ∧ abv S d (S 8 d a) r1 ∈ kids S d := by
                 rcases hfd with q | q
                 · exact q
                 · exfalso; omega
               have hseen : seen S a := by
                 rcases h90 with q | q
                 · exact q.2
                 · exfalso; omega
               refine j_keep [0, 1, 2, 3, 4] ?_
               obtain ⟨V, hV⟩ : ∃ y, y = zS Y 21 0 r67 (Y 21 0 r67 + Y 9 0 a) := ⟨_, rfl⟩
               have hVS : SP S V := by
                 rw [hV]
                 exact ⟨fun k hk => by rw [zS_k (by rintro rfl; cases hk)]; exact h3.1 k hk, fun i => by rw [zS_k (by decide)]; exact h3.2 i⟩
               have hVL : LST V 3 (kids S d) := by
                 rw [hV]
                 exact h4.of (by rw [zS_k (by decide)]) (by rw [zS_k (by decide)])
               have hVv : ∀ j : Int, 0 ≤ j → j < 24 → V 21 0 j = if j < (kids S d).length then sumTo (fun k => iv (seen S k ∧ bel S d (S 8 d k) ((kids S d).getD j.toNat 0)) * S 9 0 k) (a + 1).toNat else 0 := by
                 intro j j0 j1
                 rw [hV, zS_v]
                 by_cases e1 : j = r67
                 · subst e1
                   rw [if_pos rfl, if_pos hfd'.2.1, h5 j j0 j1, if_pos hfd'.2.1, hsum, iv_t ⟨hseen, (hbel _ (by rw [hfd'.2.2.1]; exact hfd'.2.2.2)).mpr hfd'.2.2.1.symm⟩, Int.one_mul, e9]
                 · rw [if_neg e1, h5 j j0 j1]
                   by_cases e : j < (kids S d).length
                   · rw [if_pos e, if_pos e, hsum, iv_f, Int.zero_mul, Int.add_zero]
                     rintro ⟨-, q⟩
                     have a1 := h4.at j0 e
                     have a2 := h4.at hfd'.1 hfd'.2.1
                     have q := (hbel _ (by rw [a1.2.2]; exact a1.2.1)).mp q
                     rw [← hfd'.2.2.1, a1.2.2, a2.2.2] at q
                     have := nd_inj (wk_nd _ ht ht1.2.2.2.2.1 ht1.2.2.2.2.2.1) (q ▸ a1.1) a2.1
                     omega
                   · rw [if_neg e, if_neg e]
               rw [← hV])
            refine j_iinc G dX6_lineUp_119 rfl (by decide) rfl ?_
            refine j_goto G 31 dX6_lineUp_122 (by decide) ?_
            exact ih (a + 1) V (by omega) (by omega) (by omega) hVS hVL hVv
  refine j_iconst G dX6_lineUp_28 ?_
  refine j_istore G dX6_lineUp_29 (by decide) rfl ?_
  refine loop _ 0 Z25 (by omega) (by omega) rfl hS25 hL25 (fun j j0 j1 => ?_)
  rw [hB25 j j0 j1]
  split <;> rfl

