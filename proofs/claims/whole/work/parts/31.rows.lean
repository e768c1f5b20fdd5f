theorem dJ7_copyOf_59c91_0 : decode cJ7_copyOf_59c91 0 = .ok (.iload_n 1, 1) := by decide +kernel
theorem dJ7_copyOf_59c91_1 : decode cJ7_copyOf_59c91 1 = .ok (.aload_n 0, 1) := by decide +kernel
theorem dJ7_copyOf_59c91_2 : decode cJ7_copyOf_59c91 2 = .ok (.arraylength, 1) := by decide +kernel
theorem dJ7_copyOf_59c91_3 : decode cJ7_copyOf_59c91 3 = .ok (.if_icmp .ne 11, 3) := by decide +kernel
theorem dJ7_copyOf_59c91_6 : decode cJ7_copyOf_59c91 6 = .ok (.aload_n 0, 1) := by decide +kernel
theorem dJ7_copyOf_59c91_7 : decode cJ7_copyOf_59c91 7 = .ok (.invokevirtual 316, 3) := by decide +kernel
theorem dJ7_copyOf_59c91_10 : decode cJ7_copyOf_59c91 10 = .ok (.checkcast 317, 3) := by decide +kernel
theorem dJ7_copyOf_59c91_13 : decode cJ7_copyOf_59c91 13 = .ok (.areturn, 1) := by decide +kernel
theorem dJ7_copyOf_59c91_14 : decode cJ7_copyOf_59c91 14 = .ok (.iload_n 1, 1) := by decide +kernel
theorem dJ7_copyOf_59c91_15 : decode cJ7_copyOf_59c91 15 = .ok (.newarray .int, 2) := by decide +kernel
theorem dJ7_copyOf_59c91_17 : decode cJ7_copyOf_59c91 17 = .ok (.astore_n 2, 1) := by decide +kernel
theorem dJ7_copyOf_59c91_18 : decode cJ7_copyOf_59c91 18 = .ok (.aload_n 0, 1) := by decide +kernel
theorem dJ7_copyOf_59c91_19 : decode cJ7_copyOf_59c91 19 = .ok (.iconst 0, 1) := by decide +kernel
theorem dJ7_copyOf_59c91_20 : decode cJ7_copyOf_59c91 20 = .ok (.aload_n 2, 1) := by decide +kernel
theorem dJ7_copyOf_59c91_21 : decode cJ7_copyOf_59c91 21 = .ok (.iconst 0, 1) := by decide +kernel
theorem dJ7_copyOf_59c91_22 : decode cJ7_copyOf_59c91 22 = .ok (.aload_n 0, 1) := by decide +kernel
theorem dJ7_copyOf_59c91_23 : decode cJ7_copyOf_59c91 23 = .ok (.arraylength, 1) := by decide +kernel
theorem dJ7_copyOf_59c91_24 : decode cJ7_copyOf_59c91 24 = .ok (.iload_n 1, 1) := by decide +kernel
theorem dJ7_copyOf_59c91_25 : decode cJ7_copyOf_59c91 25 = .ok (.invokestatic 304, 3) := by decide +kernel
theorem dJ7_copyOf_59c91_28 : decode cJ7_copyOf_59c91 28 = .ok (.invokestatic 150, 3) := by decide +kernel
theorem dJ7_copyOf_59c91_31 : decode cJ7_copyOf_59c91 31 = .ok (.aload_n 2, 1) := by decide +kernel
theorem dJ7_copyOf_59c91_32 : decode cJ7_copyOf_59c91 32 = .ok (.areturn, 1) := by decide +kernel
theorem dX7_membersOf_0 : decode cX7_membersOf 0 = .ok (.bipush 24, 2) := by decide +kernel
theorem dX7_membersOf_2 : decode cX7_membersOf 2 = .ok (.newarray .int, 2) := by decide +kernel
theorem dX7_membersOf_4 : decode cX7_membersOf 4 = .ok (.astore 4, 2) := by decide +kernel
theorem dX7_membersOf_6 : decode cX7_membersOf 6 = .ok (.aload 4, 2) := by decide +kernel
theorem dX7_membersOf_8 : decode cX7_membersOf 8 = .ok (.aload_n 0, 1) := by decide +kernel
theorem dX7_membersOf_9 : decode cX7_membersOf 9 = .ok (.iload_n 1, 1) := by decide +kernel
theorem dX7_membersOf_10 : decode cX7_membersOf 10 = .ok (.iload_n 2, 1) := by decide +kernel
theorem dX7_membersOf_11 : decode cX7_membersOf 11 = .ok (.iload_n 3, 1) := by decide +kernel
theorem dX7_membersOf_12 : decode cX7_membersOf 12 = .ok (.aload 4, 2) := by decide +kernel
theorem dX7_membersOf_14 : decode cX7_membersOf 14 = .ok (.iconst 0, 1) := by decide +kernel
theorem dX7_membersOf_15 : decode cX7_membersOf 15 = .ok (.invokevirtual 71, 3) := by decide +kernel
theorem dX7_membersOf_18 : decode cX7_membersOf 18 = .ok (.invokestatic 75, 3) := by decide +kernel
theorem dX7_membersOf_21 : decode cX7_membersOf 21 = .ok (.areturn, 1) := by decide +kernel
/-! by program: wip/whole/gen.py out of wip/whole/src/31.rows.eb -/
/-! Arrays.copyOf; EbbTableModel: rows of members, of sums -/
set_option maxRecDepth 100000 in
set_option maxHeartbeats 8000000 in
theorem c_J7_copyOf_59c91 {l : Launch} {D : va_G} {cys : Nat → ClassId} {ad : Nat → Int → Nat} {L : List Nat} {g : Nat → va_E} {X : Int64} {Z : ZT} (hi : injA ad) {a : Nat} {W : List Int} {n : Int} (hA : AR cys ad L g a W) (hn : 0 ≤ n ∧ n ≤ W.length) (hWl : W.length ≤ 24) : CM l D cys ad yJ7_copyOf_59c91 cJ7_copyOf_59c91 3 (some (.array .int)) 1 40 1 24 [.ref a, .int (iI n)] L g X Z (PGA L g X Z (fun r L9 g9 X9 Z9 => r ∉ L ∧ AR cys ad L9 g9 r (W.take n.toNat) ∧ EXT L g L9 g9 ∧ X9 = X ∧ Z9 = Z)) := by
  refine cm_start hi (by decide +kernel) (Nat.le_of_ble_eq_true rfl) ?_
  intro p_ e_ s_ m_ args_ below_ meth_ c_ A_ Q_ hQ G hr hin
  refine j_iload_n G dJ7_copyOf_59c91_0 rfl ?_
  refine j_aload_n G dJ7_copyOf_59c91_1 rfl ?_
  refine j_dnA G dJ7_copyOf_59c91_2 (by assumption) ?_
  refine j_icmp_ne G 14 dJ7_copyOf_59c91_3 (by decide) (by omega) (by omega) (fun c3 => ?_) (fun c3 => ?_)
  · refine j_iload_n G dJ7_copyOf_59c91_14 rfl ?_
    refine j_newI G dJ7_copyOf_59c91_15 (TW_of 124 (by decide +kernel) (by decide +kernel)) (by omega) (by omega) (by first | exact ⟨by decide, by decide⟩ | (constructor <;> dsimp only <;> omega)) (fun a15 na15 ns15 => ?_)
    have hE15 : EXT L g (L ++ [a15]) (va_up g a15 (dA cys (List.replicate n.toNat 0))) := (EXT.rf L g).push na15 _
    have hA15 : AR cys ad (L ++ [a15]) (va_up g a15 (dA cys (List.replicate n.toNat 0))) a15 (List.replicate n.toNat 0) := ⟨List.mem_append_right _ (List.mem_singleton.mpr rfl), ns15, va_up_self _ _ _⟩
    have hA1 := hA.ext hE15
    have hrl : (List.replicate n.toNat (0 : Int)).length = n.toNat := List.length_replicate
    refine j_astore_n G dJ7_copyOf_59c91_17 (by decide) rfl ?_
    refine j_aload_n G dJ7_copyOf_59c91_18 rfl ?_
    refine j_iconst G dJ7_copyOf_59c91_19 ?_
    refine j_aload_n G dJ7_copyOf_59c91_20 rfl ?_
    refine j_iconst G dJ7_copyOf_59c91_21 ?_
    refine j_aload_n G dJ7_copyOf_59c91_22 rfl ?_
    refine j_dnA G dJ7_copyOf_59c91_23 (by assumption) ?_
    refine j_iload_n G dJ7_copyOf_59c91_24 rfl ?_
    refine j_min G (TW_of 1112 (by decide +kernel) (by decide +kernel)) (TW_of 1113 (by decide +kernel) (by decide +kernel)) (TW_of 87 (by decide +kernel) (by decide +kernel)) (TW_of 1114 (by decide +kernel) (by decide +kernel)) dJ7_copyOf_59c91_25 (by decide) (Nat.le_of_ble_eq_true rfl) (by first | decide | (dsimp only; omega)) (by first | decide | (dsimp only; omega)) (by omega) (by omega) ?_
    rw [if_pos (by omega)]
    refine j_copyA G (TW_of 1115 (by decide +kernel) (by decide +kernel)) dJ7_copyOf_59c91_28 (by assumption) (by assumption) (by omega) (by omega) (by omega) (by omega) ⟨by decide, Nat.le_of_ble_eq_true rfl⟩ ?_
    refine j_aload_n G dJ7_copyOf_59c91_31 rfl ?_
    refine jr_GA G hQ hr (Or.inr ⟨_, rfl⟩) dJ7_copyOf_59c91_32 (by first | decide | omega) (by first | decide | omega) ?_
    refine ⟨na15, ⟨List.mem_append_right _ (List.mem_singleton.mpr rfl), ns15, ?_⟩, ?_, rfl, rfl⟩
    · rw [va_up_self, List.drop_eq_nil_of_le (by omega), List.append_nil]
    · exact hE15.up na15 _
  · refine j_aload_n G dJ7_copyOf_59c91_6 rfl ?_
    refine j_clone G (TW_of 1105 (by decide +kernel) (by decide +kernel)) dJ7_copyOf_59c91_7 (by assumption) ⟨by decide, by decide⟩ (by first | exact ⟨by decide, by decide⟩ | (constructor <;> dsimp only <;> omega)) (fun a7 na7 ns7 => ?_)
    have hA7 : AR cys ad (L ++ [a7]) (va_up g a7 (dA cys W)) a7 W := ⟨List.mem_append_right _ (List.mem_singleton.mpr rfl), ns7, va_up_self _ _ _⟩
    refine j_castA G (TW_of 1111 (by decide +kernel) (by decide +kernel)) dJ7_copyOf_59c91_10 (by assumption) ?_
    refine jr_GA G hQ hr (Or.inr ⟨_, rfl⟩) dJ7_copyOf_59c91_13 (by first | decide | omega) (by first | decide | omega) ?_
    refine ⟨na7, ?_, (EXT.rf L g).push na7 _, rfl, rfl⟩
    rw [List.take_of_length_le (by omega)]
    exact hA7
set_option maxRecDepth 100000 in
set_option maxHeartbeats 8000000 in
theorem c_X7_membersOf {l : Launch} {D : va_G} {cys : Nat → ClassId} {ad : Nat → Int → Nat} {L : List Nat} {g : Nat → va_E} {X : Int64} {Z : ZT} (hi : injA ad) {S : ZT} {d q w : Int} (hS : RMZ S Z) (hW : WF S) (hd : 0 ≤ d ∧ d < S 0 0 5) (hq : 0 ≤ q ∧ q < S 2 d 4) (hw : 0 ≤ w ∧ w ≤ 4) : CM l D cys ad yX7_membersOf cX7_membersOf 5 (some (.array .int)) 5 132 2 48 [.ref (ad 24 0), .int (iI d), .int (iI q), .int (iI w)] L g X Z (PGA L g X Z (fun r L9 g9 X9 Z9 => r ∉ L ∧ AR cys ad L9 g9 r (wk S d q w) ∧ EXT L g L9 g9 ∧ X9 = X ∧ Z9 = Z)) := by
  refine cm_start hi (by decide +kernel) (Nat.le_of_ble_eq_true rfl) ?_
  intro p_ e_ s_ m_ args_ below_ meth_ c_ A_ Q_ hQ G hr hin
  have ht := hW.t hd.1 hd.2
  have ht1 := ht.1
  have hlen := wk_len w ht hq.1 hq.2
  have hqm := ht.at hq.1 hq.2
  unfold MOK at hqm
  have h0d : 0 ≤ S 4 d q := hqm.1
  refine j_bipush G dX7_membersOf_0 (by decide +kernel) ?_
  refine j_newI G dX7_membersOf_2 (TW_of 124 (by decide +kernel) (by decide +kernel)) (by omega) (by omega) (by first | exact ⟨by decide, by decide⟩ | (constructor <;> dsimp only <;> omega)) (fun a2 na2 ns2 => ?_)
  refine j_astore G dX7_membersOf_4 (by decide) rfl ?_
  have hE2 : EXT L g (L ++ [a2]) (va_up g a2 (dA cys (List.replicate (24 : Int).toNat 0))) := (EXT.rf L g).push na2 _
  have hA2 : AR cys ad (L ++ [a2]) (va_up g a2 (dA cys (List.replicate (24 : Int).toNat 0))) a2 (List.replicate (24 : Int).toNat 0) := ⟨List.mem_append_right _ (List.mem_singleton.mpr rfl), ns2, va_up_self _ _ _⟩
  have hrl : (List.replicate (24 : Int).toNat (0 : Int)).length = 24 := rfl
  have hb : (0 : Int) ≤ 0 ∧ 0 + ((wk S d q w).length : Int) ≤ (List.replicate (24 : Int).toNat (0 : Int)).length := by rw [hrl]; omega
  have hWl : (List.replicate (24 : Int).toNat (0 : Int)).length ≤ 24 := by rw [hrl]; omega
  refine j_aload G dX7_membersOf_6 rfl ?_
  refine j_aload_n G dX7_membersOf_8 rfl ?_
  refine j_iload_n G dX7_membersOf_9 rfl ?_
  refine j_iload_n G dX7_membersOf_10 rfl ?_
  refine j_iload_n G dX7_membersOf_11 rfl ?_
  refine j_aload G dX7_membersOf_12 rfl ?_
  refine j_iconst G dX7_membersOf_14 ?_
  refine j_cVGI G cvX7_walk ml7_71 (c_X7_walk hi hS hW hd hq h0d hw hA2 hb hWl) dX7_membersOf_15 ⟨by decide, by decide⟩ (by first | exact ⟨by decide, by decide⟩ | (constructor <;> dsimp only <;> omega)) rfl rfl (Nat.le_of_ble_eq_true rfl) (by first | assumption | decide) rfl rfl rfl (fun r15 L15 g15 X15 Z15 h15 => ?_)
  obtain ⟨q1, rfl, q2, rfl, rfl⟩ := h15
  rw [va_up_up] at q2
  have hpl := PutL_len (W := List.replicate (24 : Int).toNat (0 : Int)) (b := 0) (V := wk S d q w) (by rw [hrl]; omega)
  have hE15 : EXT L g (L ++ [a2]) g15 := by rw [q2]; exact (EXT.rf L g).push na2 _
  have hA15 : AR cys ad (L ++ [a2]) g15 a2 (PutL (List.replicate (24 : Int).toNat 0) 0 (wk S d q w)) := ⟨hA2.1, ns2, by rw [q2, va_up_self]; rfl⟩
  have hn15 : 0 ≤ r15 ∧ r15 ≤ (PutL (List.replicate (24 : Int).toNat (0 : Int)) 0 (wk S d q w)).length := by rw [hpl, hrl]; omega
  have hWl15 : (PutL (List.replicate (24 : Int).toNat (0 : Int)) 0 (wk S d q w)).length ≤ 24 := by rw [hpl, hrl]; omega
  refine j_cTGA G csJ7_copyOf_59c91 ml7_75 (c_J7_copyOf_59c91 hi hA15 hn15 hWl15) dX7_membersOf_18 ⟨by decide, by decide⟩ (by first | exact ⟨by decide, by decide⟩ | (constructor <;> dsimp only <;> omega)) rfl rfl (Nat.le_of_ble_eq_true rfl) (fun r18 L18 g18 X18 Z18 h18 => ?_)
  refine jr_GA G hQ hr (Or.inr ⟨_, rfl⟩) dX7_membersOf_21 (by first | decide | omega) (by first | decide | omega) ?_
  obtain ⟨p1, p2, p3, p4, p5⟩ := h18
  refine ⟨fun z => p1 (List.mem_append_left _ z), ?_, hE15.tr p3, p4, p5⟩
  have e : (PutL (List.replicate (24 : Int).toNat (0 : Int)) 0 (wk S d q w)).take r15.toNat = wk S d q w := by
    unfold PutL
    rw [List.take_zero, List.nil_append, List.take_append_of_le_length (by omega), List.take_of_length_le (by omega)]
  rw [e] at p2
  exact p2

