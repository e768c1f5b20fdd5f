/-! by program: wip/p51/genk.py: the constructors -/
theorem dX3_init_0 : decode cX3_init 0 = .ok (.aload_n 0, 1) := by decide +kernel
theorem dX3_init_1 : decode cX3_init 1 = .ok (.invokespecial 3, 3) := by decide +kernel
theorem dX3_init_4 : decode cX3_init 4 = .ok (.aload_n 0, 1) := by decide +kernel
theorem dX3_init_5 : decode cX3_init 5 = .ok (.bipush 24, 2) := by decide +kernel
theorem dX3_init_7 : decode cX3_init 7 = .ok (.newarray .int, 2) := by decide +kernel
theorem dX3_init_9 : decode cX3_init 9 = .ok (.putfield 9, 3) := by decide +kernel
theorem dX3_init_12 : decode cX3_init 12 = .ok (.return_, 1) := by decide +kernel
theorem dX4_init_0 : decode cX4_init 0 = .ok (.aload_n 0, 1) := by decide +kernel
theorem dX4_init_1 : decode cX4_init 1 = .ok (.invokespecial 3, 3) := by decide +kernel
theorem dX4_init_4 : decode cX4_init 4 = .ok (.aload_n 0, 1) := by decide +kernel
theorem dX4_init_5 : decode cX4_init 5 = .ok (.bipush 24, 2) := by decide +kernel
theorem dX4_init_7 : decode cX4_init 7 = .ok (.newarray .int, 2) := by decide +kernel
theorem dX4_init_9 : decode cX4_init 9 = .ok (.putfield 9, 3) := by decide +kernel
theorem dX4_init_12 : decode cX4_init 12 = .ok (.aload_n 0, 1) := by decide +kernel
theorem dX4_init_13 : decode cX4_init 13 = .ok (.bipush 24, 2) := by decide +kernel
theorem dX4_init_15 : decode cX4_init 15 = .ok (.newarray .int, 2) := by decide +kernel
theorem dX4_init_17 : decode cX4_init 17 = .ok (.putfield 15, 3) := by decide +kernel
theorem dX4_init_20 : decode cX4_init 20 = .ok (.aload_n 0, 1) := by decide +kernel
theorem dX4_init_21 : decode cX4_init 21 = .ok (.bipush 24, 2) := by decide +kernel
theorem dX4_init_23 : decode cX4_init 23 = .ok (.newarray .boolean, 2) := by decide +kernel
theorem dX4_init_25 : decode cX4_init 25 = .ok (.putfield 18, 3) := by decide +kernel
theorem dX4_init_28 : decode cX4_init 28 = .ok (.return_, 1) := by decide +kernel
theorem dX5_init_0 : decode cX5_init 0 = .ok (.aload_n 0, 1) := by decide +kernel
theorem dX5_init_1 : decode cX5_init 1 = .ok (.invokespecial 3, 3) := by decide +kernel
theorem dX5_init_4 : decode cX5_init 4 = .ok (.aload_n 0, 1) := by decide +kernel
theorem dX5_init_5 : decode cX5_init 5 = .ok (.bipush 6, 2) := by decide +kernel
theorem dX5_init_7 : decode cX5_init 7 = .ok (.newarray .int, 2) := by decide +kernel
theorem dX5_init_9 : decode cX5_init 9 = .ok (.putfield 9, 3) := by decide +kernel
theorem dX5_init_12 : decode cX5_init 12 = .ok (.aload_n 0, 1) := by decide +kernel
theorem dX5_init_13 : decode cX5_init 13 = .ok (.bipush 6, 2) := by decide +kernel
theorem dX5_init_15 : decode cX5_init 15 = .ok (.newarray .int, 2) := by decide +kernel
theorem dX5_init_17 : decode cX5_init 17 = .ok (.putfield 15, 3) := by decide +kernel
theorem dX5_init_20 : decode cX5_init 20 = .ok (.aload_n 0, 1) := by decide +kernel
theorem dX5_init_21 : decode cX5_init 21 = .ok (.bipush 6, 2) := by decide +kernel
theorem dX5_init_23 : decode cX5_init 23 = .ok (.newarray .boolean, 2) := by decide +kernel
theorem dX5_init_25 : decode cX5_init 25 = .ok (.putfield 18, 3) := by decide +kernel
theorem dX5_init_28 : decode cX5_init 28 = .ok (.return_, 1) := by decide +kernel
theorem dX0_init_0 : decode cX0_init 0 = .ok (.aload_n 0, 1) := by decide +kernel
theorem dX0_init_1 : decode cX0_init 1 = .ok (.invokespecial 3, 3) := by decide +kernel
theorem dX0_init_4 : decode cX0_init 4 = .ok (.aload_n 0, 1) := by decide +kernel
theorem dX0_init_5 : decode cX0_init 5 = .ok (.new 9, 3) := by decide +kernel
theorem dX0_init_8 : decode cX0_init 8 = .ok (.dup, 1) := by decide +kernel
theorem dX0_init_9 : decode cX0_init 9 = .ok (.invokespecial 11, 3) := by decide +kernel
theorem dX0_init_12 : decode cX0_init 12 = .ok (.putfield 12, 3) := by decide +kernel
theorem dX0_init_15 : decode cX0_init 15 = .ok (.aload_n 0, 1) := by decide +kernel
theorem dX0_init_16 : decode cX0_init 16 = .ok (.bipush 24, 2) := by decide +kernel
theorem dX0_init_18 : decode cX0_init 18 = .ok (.newarray .boolean, 2) := by decide +kernel
theorem dX0_init_20 : decode cX0_init 20 = .ok (.putfield 18, 3) := by decide +kernel
theorem dX0_init_23 : decode cX0_init 23 = .ok (.aload_n 0, 1) := by decide +kernel
theorem dX0_init_24 : decode cX0_init 24 = .ok (.bipush 24, 2) := by decide +kernel
theorem dX0_init_26 : decode cX0_init 26 = .ok (.newarray .int, 2) := by decide +kernel
theorem dX0_init_28 : decode cX0_init 28 = .ok (.putfield 22, 3) := by decide +kernel
theorem dX0_init_31 : decode cX0_init 31 = .ok (.return_, 1) := by decide +kernel
theorem dX2_init_0 : decode cX2_init 0 = .ok (.aload_n 0, 1) := by decide +kernel
theorem dX2_init_1 : decode cX2_init 1 = .ok (.invokespecial 3, 3) := by decide +kernel
theorem dX2_init_4 : decode cX2_init 4 = .ok (.aload_n 0, 1) := by decide +kernel
theorem dX2_init_5 : decode cX2_init 5 = .ok (.new 9, 3) := by decide +kernel
theorem dX2_init_8 : decode cX2_init 8 = .ok (.dup, 1) := by decide +kernel
theorem dX2_init_9 : decode cX2_init 9 = .ok (.invokespecial 11, 3) := by decide +kernel
theorem dX2_init_12 : decode cX2_init 12 = .ok (.putfield 12, 3) := by decide +kernel
theorem dX2_init_15 : decode cX2_init 15 = .ok (.aload_n 0, 1) := by decide +kernel
theorem dX2_init_16 : decode cX2_init 16 = .ok (.bipush 24, 2) := by decide +kernel
theorem dX2_init_18 : decode cX2_init 18 = .ok (.newarray .int, 2) := by decide +kernel
theorem dX2_init_20 : decode cX2_init 20 = .ok (.putfield 18, 3) := by decide +kernel
theorem dX2_init_23 : decode cX2_init 23 = .ok (.return_, 1) := by decide +kernel
theorem dX1_init_0 : decode cX1_init 0 = .ok (.aload_n 0, 1) := by decide +kernel
theorem dX1_init_1 : decode cX1_init 1 = .ok (.invokespecial 3, 3) := by decide +kernel
theorem dX1_init_4 : decode cX1_init 4 = .ok (.aload_n 0, 1) := by decide +kernel
theorem dX1_init_5 : decode cX1_init 5 = .ok (.iconst 4, 1) := by decide +kernel
theorem dX1_init_6 : decode cX1_init 6 = .ok (.bipush 80, 2) := by decide +kernel
theorem dX1_init_8 : decode cX1_init 8 = .ok (.multianewarray 9 2, 4) := by decide +kernel
theorem dX1_init_12 : decode cX1_init 12 = .ok (.putfield 11, 3) := by decide +kernel
theorem dX1_init_15 : decode cX1_init 15 = .ok (.aload_n 0, 1) := by decide +kernel
theorem dX1_init_16 : decode cX1_init 16 = .ok (.bipush 80, 2) := by decide +kernel
theorem dX1_init_18 : decode cX1_init 18 = .ok (.newarray .int, 2) := by decide +kernel
theorem dX1_init_20 : decode cX1_init 20 = .ok (.putfield 16, 3) := by decide +kernel
theorem dX1_init_23 : decode cX1_init 23 = .ok (.aload_n 0, 1) := by decide +kernel
theorem dX1_init_24 : decode cX1_init 24 = .ok (.bipush 80, 2) := by decide +kernel
theorem dX1_init_26 : decode cX1_init 26 = .ok (.newarray .int, 2) := by decide +kernel
theorem dX1_init_28 : decode cX1_init 28 = .ok (.putfield 20, 3) := by decide +kernel
theorem dX1_init_31 : decode cX1_init 31 = .ok (.return_, 1) := by decide +kernel
theorem dX6_init_0 : decode cX6_init 0 = .ok (.aload_n 0, 1) := by decide +kernel
theorem dX6_init_1 : decode cX6_init 1 = .ok (.invokespecial 1, 3) := by decide +kernel
theorem dX6_init_4 : decode cX6_init 4 = .ok (.aload_n 0, 1) := by decide +kernel
theorem dX6_init_5 : decode cX6_init 5 = .ok (.iconst 4, 1) := by decide +kernel
theorem dX6_init_6 : decode cX6_init 6 = .ok (.anewarray 9, 3) := by decide +kernel
theorem dX6_init_9 : decode cX6_init 9 = .ok (.putfield 11, 3) := by decide +kernel
theorem dX6_init_12 : decode cX6_init 12 = .ok (.aload_n 0, 1) := by decide +kernel
theorem dX6_init_13 : decode cX6_init 13 = .ok (.new 15, 3) := by decide +kernel
theorem dX6_init_16 : decode cX6_init 16 = .ok (.dup, 1) := by decide +kernel
theorem dX6_init_17 : decode cX6_init 17 = .ok (.invokespecial 17, 3) := by decide +kernel
theorem dX6_init_20 : decode cX6_init 20 = .ok (.putfield 18, 3) := by decide +kernel
theorem dX6_init_23 : decode cX6_init 23 = .ok (.aload_n 0, 1) := by decide +kernel
theorem dX6_init_24 : decode cX6_init 24 = .ok (.new 22, 3) := by decide +kernel
theorem dX6_init_27 : decode cX6_init 27 = .ok (.dup, 1) := by decide +kernel
theorem dX6_init_28 : decode cX6_init 28 = .ok (.invokespecial 24, 3) := by decide +kernel
theorem dX6_init_31 : decode cX6_init 31 = .ok (.putfield 25, 3) := by decide +kernel
theorem dX6_init_34 : decode cX6_init 34 = .ok (.aload_n 0, 1) := by decide +kernel
theorem dX6_init_35 : decode cX6_init 35 = .ok (.new 29, 3) := by decide +kernel
theorem dX6_init_38 : decode cX6_init 38 = .ok (.dup, 1) := by decide +kernel
theorem dX6_init_39 : decode cX6_init 39 = .ok (.invokespecial 31, 3) := by decide +kernel
theorem dX6_init_42 : decode cX6_init 42 = .ok (.putfield 32, 3) := by decide +kernel
theorem dX6_init_45 : decode cX6_init 45 = .ok (.aload_n 0, 1) := by decide +kernel
theorem dX6_init_46 : decode cX6_init 46 = .ok (.new 29, 3) := by decide +kernel
theorem dX6_init_49 : decode cX6_init 49 = .ok (.dup, 1) := by decide +kernel
theorem dX6_init_50 : decode cX6_init 50 = .ok (.invokespecial 31, 3) := by decide +kernel
theorem dX6_init_53 : decode cX6_init 53 = .ok (.putfield 36, 3) := by decide +kernel
theorem dX6_init_56 : decode cX6_init 56 = .ok (.aload_n 0, 1) := by decide +kernel
theorem dX6_init_57 : decode cX6_init 57 = .ok (.new 39, 3) := by decide +kernel
theorem dX6_init_60 : decode cX6_init 60 = .ok (.dup, 1) := by decide +kernel
theorem dX6_init_61 : decode cX6_init 61 = .ok (.invokespecial 41, 3) := by decide +kernel
theorem dX6_init_64 : decode cX6_init 64 = .ok (.putfield 42, 3) := by decide +kernel
theorem dX6_init_67 : decode cX6_init 67 = .ok (.aload_n 0, 1) := by decide +kernel
theorem dX6_init_68 : decode cX6_init 68 = .ok (.new 46, 3) := by decide +kernel
theorem dX6_init_71 : decode cX6_init 71 = .ok (.dup, 1) := by decide +kernel
theorem dX6_init_72 : decode cX6_init 72 = .ok (.invokespecial 48, 3) := by decide +kernel
theorem dX6_init_75 : decode cX6_init 75 = .ok (.putfield 49, 3) := by decide +kernel
theorem dX6_init_78 : decode cX6_init 78 = .ok (.aload_n 0, 1) := by decide +kernel
theorem dX6_init_79 : decode cX6_init 79 = .ok (.bipush 24, 2) := by decide +kernel
theorem dX6_init_81 : decode cX6_init 81 = .ok (.bipush 24, 2) := by decide +kernel
theorem dX6_init_83 : decode cX6_init 83 = .ok (.multianewarray 53 2, 4) := by decide +kernel
theorem dX6_init_87 : decode cX6_init 87 = .ok (.putfield 55, 3) := by decide +kernel
theorem dX6_init_90 : decode cX6_init 90 = .ok (.iconst 0, 1) := by decide +kernel
theorem dX6_init_91 : decode cX6_init 91 = .ok (.istore_n 1, 1) := by decide +kernel
theorem dX6_init_92 : decode cX6_init 92 = .ok (.iload_n 1, 1) := by decide +kernel
theorem dX6_init_93 : decode cX6_init 93 = .ok (.iconst 4, 1) := by decide +kernel
theorem dX6_init_94 : decode cX6_init 94 = .ok (.if_icmp .ge 22, 3) := by decide +kernel
theorem dX6_init_97 : decode cX6_init 97 = .ok (.aload_n 0, 1) := by decide +kernel
theorem dX6_init_98 : decode cX6_init 98 = .ok (.getfield 11, 3) := by decide +kernel
theorem dX6_init_101 : decode cX6_init 101 = .ok (.iload_n 1, 1) := by decide +kernel
theorem dX6_init_102 : decode cX6_init 102 = .ok (.new 9, 3) := by decide +kernel
theorem dX6_init_105 : decode cX6_init 105 = .ok (.dup, 1) := by decide +kernel
theorem dX6_init_106 : decode cX6_init 106 = .ok (.invokespecial 58, 3) := by decide +kernel
theorem dX6_init_109 : decode cX6_init 109 = .ok (.aastore, 1) := by decide +kernel
theorem dX6_init_110 : decode cX6_init 110 = .ok (.iinc 1 1, 3) := by decide +kernel
theorem dX6_init_113 : decode cX6_init 113 = .ok (.goto (-21), 3) := by decide +kernel
theorem dX6_init_116 : decode cX6_init 116 = .ok (.return_, 1) := by decide +kernel
theorem fsX0 : ∀ j, j < 6 → defaultValue (tyX0 j) = vp_V [.null, .null, .null, .int 0, .int 0, .int 0] j := fun j hj => match j, hj with
  | 0, _ => rfl
  | 1, _ => rfl
  | 2, _ => rfl
  | 3, _ => rfl
  | 4, _ => rfl
  | 5, _ => rfl
  | n + 6, h => absurd h (by omega)
theorem fsX1 : ∀ j, j < 4 → defaultValue (tyX1 j) = vp_V [.null, .null, .null, .int 0] j := fun j hj => match j, hj with
  | 0, _ => rfl
  | 1, _ => rfl
  | 2, _ => rfl
  | 3, _ => rfl
  | n + 4, h => absurd h (by omega)
theorem fsX2 : ∀ j, j < 2 → defaultValue (tyX2 j) = vp_V [.null, .null] j := fun j hj => match j, hj with
  | 0, _ => rfl
  | 1, _ => rfl
  | n + 2, h => absurd h (by omega)
theorem fsX3 : ∀ j, j < 2 → defaultValue (tyX3 j) = vp_V [.null, .int 0] j := fun j hj => match j, hj with
  | 0, _ => rfl
  | 1, _ => rfl
  | n + 2, h => absurd h (by omega)
theorem fsX4 : ∀ j, j < 6 → defaultValue (tyX4 j) = vp_V [.null, .null, .null, .int 0, .int 0, .int 0] j := fun j hj => match j, hj with
  | 0, _ => rfl
  | 1, _ => rfl
  | 2, _ => rfl
  | 3, _ => rfl
  | 4, _ => rfl
  | 5, _ => rfl
  | n + 6, h => absurd h (by omega)
theorem fsX5 : ∀ j, j < 4 → defaultValue (tyX5 j) = vp_V [.null, .null, .null, .int 0] j := fun j hj => match j, hj with
  | 0, _ => rfl
  | 1, _ => rfl
  | 2, _ => rfl
  | 3, _ => rfl
  | n + 4, h => absurd h (by omega)
theorem fsX6 : ∀ j, j < 12 → defaultValue (tyX6 j) = vp_V [.null, .null, .null, .null, .null, .int 0, .int 0, .int 0, .int 0, .null, .null, .null] j := fun j hj => match j, hj with
  | 0, _ => rfl
  | 1, _ => rfl
  | 2, _ => rfl
  | 3, _ => rfl
  | 4, _ => rfl
  | 5, _ => rfl
  | 6, _ => rfl
  | 7, _ => rfl
  | 8, _ => rfl
  | 9, _ => rfl
  | 10, _ => rfl
  | 11, _ => rfl
  | n + 12, h => absurd h (by omega)
theorem fsX7 : ∀ j, j < 9 → defaultValue (tyX7 j) = vp_V [.int 0, .null, .null, .null, .null, .null, .int 0, .null, .null] j := fun j hj => match j, hj with
  | 0, _ => rfl
  | 1, _ => rfl
  | 2, _ => rfl
  | 3, _ => rfl
  | 4, _ => rfl
  | 5, _ => rfl
  | 6, _ => rfl
  | 7, _ => rfl
  | 8, _ => rfl
  | n + 9, h => absurd h (by omega)
theorem innI (c : ClassId) (M : Nat) : Jvm.Free.Multi.innerC c M (defaultValue .int) = vp_cell c (M, .inl (fun _ => 0)) := arrV_new c M (.int 0)
theorem innZ (c : ClassId) (M : Nat) : Jvm.Free.Multi.innerC c M (defaultValue .boolean) = vp_cell c (M, .inl (fun _ => 0)) := arrV_new c M (.int 0)
set_option maxRecDepth 100000 in
set_option maxHeartbeats 8000000 in
theorem ck_X3 {l : Launch} {D : va_G} {cys : Nat → ClassId} {ws0 : va_W} (a : Nat) : CK l D cys yX3_init cX3_init 1 1 12 1 24 a 3 [.null, .int 0] ws0 (fun tl => ∃ (b1 : Nat), tl = [(a, .inr (3, [.ref b1, .int 0])), (b1, I0 (cys 0) 24)]) := by
  refine ck_start (by decide +kernel) rfl (Nat.le_of_ble_eq_true rfl) ?_
  intro p e s m args below meth c A G hr hin
  refine k_aload_n G dX3_init_0 rfl ?_
  refine k_objInit G (TW_of 133 (by decide +kernel) (by decide +kernel)) dX3_init_1 (by decide) (Nat.le_of_ble_eq_true rfl) ?_
  refine k_aload_n G dX3_init_4 rfl ?_
  refine k_bipush G dX3_init_5 (by decide +kernel) ?_
  refine k_newI G 24 dX3_init_7 (by decide +kernel) (by decide +kernel) (by decide) ⟨by decide, by decide⟩ (fun b1 => ?_)
  refine k_eq (tl' := [(a, .inr (3, [.null, .int 0])), (b1, I0 (cys 0) 24)]) rfl ?_
  refine k_putF G hin 0 0 rfl rfl inT3 tyX3_ok nmX3 (by decide) lf3_9 rfl rfl rfl rfl rfl rfl (Nat.le_of_ble_eq_true rfl) dX3_init_9 ?_
  refine k_eq (tl' := [(a, .inr (3, [.ref b1, .int 0])), (b1, I0 (cys 0) 24)]) rfl ?_
  refine k_ret G hr dX3_init_12 (by decide) (by decide) ?_
  exact ⟨b1, rfl⟩
set_option maxRecDepth 100000 in
set_option maxHeartbeats 8000000 in
theorem ck_X4 {l : Launch} {D : va_G} {cys : Nat → ClassId} {ws0 : va_W} (a : Nat) : CK l D cys yX4_init cX4_init 1 1 12 3 72 a 4 [.null, .null, .null, .int 0, .int 0, .int 0] ws0 (fun tl => ∃ (b1 : Nat) (b2 : Nat) (b3 : Nat), tl = [(a, .inr (4, [.ref b1, .ref b2, .ref b3, .int 0, .int 0, .int 0])), (b1, I0 (cys 0) 24), (b2, I0 (cys 0) 24), (b3, I0 (cys 1) 24)]) := by
  refine ck_start (by decide +kernel) rfl (Nat.le_of_ble_eq_true rfl) ?_
  intro p e s m args below meth c A G hr hin
  refine k_aload_n G dX4_init_0 rfl ?_
  refine k_objInit G (TW_of 194 (by decide +kernel) (by decide +kernel)) dX4_init_1 (by decide) (Nat.le_of_ble_eq_true rfl) ?_
  refine k_aload_n G dX4_init_4 rfl ?_
  refine k_bipush G dX4_init_5 (by decide +kernel) ?_
  refine k_newI G 24 dX4_init_7 (by decide +kernel) (by decide +kernel) (by decide) ⟨by decide, by decide⟩ (fun b1 => ?_)
  refine k_eq (tl' := [(a, .inr (4, [.null, .null, .null, .int 0, .int 0, .int 0])), (b1, I0 (cys 0) 24)]) rfl ?_
  refine k_putF G hin 0 0 rfl rfl inT4 tyX4_ok nmX4 (by decide) lf4_9 rfl rfl rfl rfl rfl rfl (Nat.le_of_ble_eq_true rfl) dX4_init_9 ?_
  refine k_eq (tl' := [(a, .inr (4, [.ref b1, .null, .null, .int 0, .int 0, .int 0])), (b1, I0 (cys 0) 24)]) rfl ?_
  refine k_aload_n G dX4_init_12 rfl ?_
  refine k_bipush G dX4_init_13 (by decide +kernel) ?_
  refine k_newI G 24 dX4_init_15 (by decide +kernel) (by decide +kernel) (by decide) ⟨by decide, by decide⟩ (fun b2 => ?_)
  refine k_eq (tl' := [(a, .inr (4, [.ref b1, .null, .null, .int 0, .int 0, .int 0])), (b1, I0 (cys 0) 24), (b2, I0 (cys 0) 24)]) rfl ?_
  refine k_putF G hin 0 1 rfl rfl inT4 tyX4_ok nmX4 (by decide) lf4_15 rfl rfl rfl rfl rfl rfl (Nat.le_of_ble_eq_true rfl) dX4_init_17 ?_
  refine k_eq (tl' := [(a, .inr (4, [.ref b1, .ref b2, .null, .int 0, .int 0, .int 0])), (b1, I0 (cys 0) 24), (b2, I0 (cys 0) 24)]) rfl ?_
  refine k_aload_n G dX4_init_20 rfl ?_
  refine k_bipush G dX4_init_21 (by decide +kernel) ?_
  refine k_newZ G 24 dX4_init_23 (by decide +kernel) (by decide +kernel) (by decide) ⟨by decide, by decide⟩ (fun b3 => ?_)
  refine k_eq (tl' := [(a, .inr (4, [.ref b1, .ref b2, .null, .int 0, .int 0, .int 0])), (b1, I0 (cys 0) 24), (b2, I0 (cys 0) 24), (b3, I0 (cys 1) 24)]) rfl ?_
  refine k_putF G hin 0 2 rfl rfl inT4 tyX4_ok nmX4 (by decide) lf4_18 rfl rfl rfl rfl rfl rfl (Nat.le_of_ble_eq_true rfl) dX4_init_25 ?_
  refine k_eq (tl' := [(a, .inr (4, [.ref b1, .ref b2, .ref b3, .int 0, .int 0, .int 0])), (b1, I0 (cys 0) 24), (b2, I0 (cys 0) 24), (b3, I0 (cys 1) 24)]) rfl ?_
  refine k_ret G hr dX4_init_28 (by decide) (by decide) ?_
  exact ⟨b1, b2, b3, rfl⟩
set_option maxRecDepth 100000 in
set_option maxHeartbeats 8000000 in
theorem ck_X5 {l : Launch} {D : va_G} {cys : Nat → ClassId} {ws0 : va_W} (a : Nat) : CK l D cys yX5_init cX5_init 1 1 12 3 18 a 5 [.null, .null, .null, .int 0] ws0 (fun tl => ∃ (b1 : Nat) (b2 : Nat) (b3 : Nat), tl = [(a, .inr (5, [.ref b1, .ref b2, .ref b3, .int 0])), (b1, I0 (cys 0) 6), (b2, I0 (cys 0) 6), (b3, I0 (cys 1) 6)]) := by
  refine ck_start (by decide +kernel) rfl (Nat.le_of_ble_eq_true rfl) ?_
  intro p e s m args below meth c A G hr hin
  refine k_aload_n G dX5_init_0 rfl ?_
  refine k_objInit G (TW_of 103 (by decide +kernel) (by decide +kernel)) dX5_init_1 (by decide) (Nat.le_of_ble_eq_true rfl) ?_
  refine k_aload_n G dX5_init_4 rfl ?_
  refine k_bipush G dX5_init_5 (by decide +kernel) ?_
  refine k_newI G 6 dX5_init_7 (by decide +kernel) (by decide +kernel) (by decide) ⟨by decide, by decide⟩ (fun b1 => ?_)
  refine k_eq (tl' := [(a, .inr (5, [.null, .null, .null, .int 0])), (b1, I0 (cys 0) 6)]) rfl ?_
  refine k_putF G hin 0 0 rfl rfl inT5 tyX5_ok nmX5 (by decide) lf5_9 rfl rfl rfl rfl rfl rfl (Nat.le_of_ble_eq_true rfl) dX5_init_9 ?_
  refine k_eq (tl' := [(a, .inr (5, [.ref b1, .null, .null, .int 0])), (b1, I0 (cys 0) 6)]) rfl ?_
  refine k_aload_n G dX5_init_12 rfl ?_
  refine k_bipush G dX5_init_13 (by decide +kernel) ?_
  refine k_newI G 6 dX5_init_15 (by decide +kernel) (by decide +kernel) (by decide) ⟨by decide, by decide⟩ (fun b2 => ?_)
  refine k_eq (tl' := [(a, .inr (5, [.ref b1, .null, .null, .int 0])), (b1, I0 (cys 0) 6), (b2, I0 (cys 0) 6)]) rfl ?_
  refine k_putF G hin 0 1 rfl rfl inT5 tyX5_ok nmX5 (by decide) lf5_15 rfl rfl rfl rfl rfl rfl (Nat.le_of_ble_eq_true rfl) dX5_init_17 ?_
  refine k_eq (tl' := [(a, .inr (5, [.ref b1, .ref b2, .null, .int 0])), (b1, I0 (cys 0) 6), (b2, I0 (cys 0) 6)]) rfl ?_
  refine k_aload_n G dX5_init_20 rfl ?_
  refine k_bipush G dX5_init_21 (by decide +kernel) ?_
  refine k_newZ G 6 dX5_init_23 (by decide +kernel) (by decide +kernel) (by decide) ⟨by decide, by decide⟩ (fun b3 => ?_)
  refine k_eq (tl' := [(a, .inr (5, [.ref b1, .ref b2, .null, .int 0])), (b1, I0 (cys 0) 6), (b2, I0 (cys 0) 6), (b3, I0 (cys 1) 6)]) rfl ?_
  refine k_putF G hin 0 2 rfl rfl inT5 tyX5_ok nmX5 (by decide) lf5_18 rfl rfl rfl rfl rfl rfl (Nat.le_of_ble_eq_true rfl) dX5_init_25 ?_
  refine k_eq (tl' := [(a, .inr (5, [.ref b1, .ref b2, .ref b3, .int 0])), (b1, I0 (cys 0) 6), (b2, I0 (cys 0) 6), (b3, I0 (cys 1) 6)]) rfl ?_
  refine k_ret G hr dX5_init_28 (by decide) (by decide) ?_
  exact ⟨b1, b2, b3, rfl⟩
set_option maxRecDepth 100000 in
set_option maxHeartbeats 8000000 in
theorem ck_X0 {l : Launch} {D : va_G} {cys : Nat → ClassId} {ws0 : va_W} (a : Nat) : CK l D cys yX0_init cX0_init 1 2 32 4 74 a 0 [.null, .null, .null, .int 0, .int 0, .int 0] ws0 (fun tl => ∃ (b1 : Nat) (b2 : Nat) (b3 : Nat) (b4 : Nat), tl = [(a, .inr (0, [.ref b1, .ref b3, .ref b4, .int 0, .int 0, .int 0])), (b1, .inr (3, [.ref b2, .int 0])), (b2, I0 (cys 0) 24), (b3, I0 (cys 1) 24), (b4, I0 (cys 0) 24)]) := by
  refine ck_start (by decide +kernel) rfl (Nat.le_of_ble_eq_true rfl) ?_
  intro p e s m args below meth c A G hr hin
  refine k_aload_n G dX0_init_0 rfl ?_
  refine k_objInit G (TW_of 127 (by decide +kernel) (by decide +kernel)) dX0_init_1 (by decide) (Nat.le_of_ble_eq_true rfl) ?_
  refine k_aload_n G dX0_init_4 rfl ?_
  refine k_new G (ci := 3) (fs := [.null, .int 0]) rfl inT3 tyX3_ok fsX3 (TW_of 128 (by decide +kernel) (by decide +kernel)) (TW_of 129 (by decide +kernel) (by decide +kernel)) (TW_of 40 (by decide +kernel) (by decide +kernel)) dX0_init_5 ⟨by decide, by decide⟩ (fun b1 => ?_)
  refine k_dup G dX0_init_8 rfl ?_
  refine k_callN G (TW_of 131 (by decide +kernel) (by decide +kernel)) (TW_of 40 (by decide +kernel) (by decide +kernel)) (TW_of 132 (by decide +kernel) (by decide +kernel)) ⟨by decide +kernel, by decide +kernel, by decide +kernel⟩ rfl (List.mem_of_getElem? (i := 3) rfl) (ck_X3 b1) dX0_init_9 ⟨by decide, by decide⟩ ⟨by decide, by decide⟩ (Nat.le_of_ble_eq_true rfl) (fun tl2 h2 => ?_)
  obtain ⟨b2, rfl⟩ := h2
  refine k_eq (tl' := [(a, .inr (0, [.null, .null, .null, .int 0, .int 0, .int 0])), (b1, .inr (3, [.ref b2, .int 0])), (b2, I0 (cys 0) 24)]) rfl ?_
  refine k_putF G hin 0 0 rfl rfl inT0 tyX0_ok nmX0 (by decide) lf0_12 rfl rfl rfl rfl rfl rfl (Nat.le_of_ble_eq_true rfl) dX0_init_12 ?_
  refine k_eq (tl' := [(a, .inr (0, [.ref b1, .null, .null, .int 0, .int 0, .int 0])), (b1, .inr (3, [.ref b2, .int 0])), (b2, I0 (cys 0) 24)]) rfl ?_
  refine k_aload_n G dX0_init_15 rfl ?_
  refine k_bipush G dX0_init_16 (by decide +kernel) ?_
  refine k_newZ G 24 dX0_init_18 (by decide +kernel) (by decide +kernel) (by decide) ⟨by decide, by decide⟩ (fun b3 => ?_)
  refine k_eq (tl' := [(a, .inr (0, [.ref b1, .null, .null, .int 0, .int 0, .int 0])), (b1, .inr (3, [.ref b2, .int 0])), (b2, I0 (cys 0) 24), (b3, I0 (cys 1) 24)]) rfl ?_
  refine k_putF G hin 0 1 rfl rfl inT0 tyX0_ok nmX0 (by decide) lf0_18 rfl rfl rfl rfl rfl rfl (Nat.le_of_ble_eq_true rfl) dX0_init_20 ?_
  refine k_eq (tl' := [(a, .inr (0, [.ref b1, .ref b3, .null, .int 0, .int 0, .int 0])), (b1, .inr (3, [.ref b2, .int 0])), (b2, I0 (cys 0) 24), (b3, I0 (cys 1) 24)]) rfl ?_
  refine k_aload_n G dX0_init_23 rfl ?_
  refine k_bipush G dX0_init_24 (by decide +kernel) ?_
  refine k_newI G 24 dX0_init_26 (by decide +kernel) (by decide +kernel) (by decide) ⟨by decide, by decide⟩ (fun b4 => ?_)
  refine k_eq (tl' := [(a, .inr (0, [.ref b1, .ref b3, .null, .int 0, .int 0, .int 0])), (b1, .inr (3, [.ref b2, .int 0])), (b2, I0 (cys 0) 24), (b3, I0 (cys 1) 24), (b4, I0 (cys 0) 24)]) rfl ?_
  refine k_putF G hin 0 2 rfl rfl inT0 tyX0_ok nmX0 (by decide) lf0_22 rfl rfl rfl rfl rfl rfl (Nat.le_of_ble_eq_true rfl) dX0_init_28 ?_
  refine k_eq (tl' := [(a, .inr (0, [.ref b1, .ref b3, .ref b4, .int 0, .int 0, .int 0])), (b1, .inr (3, [.ref b2, .int 0])), (b2, I0 (cys 0) 24), (b3, I0 (cys 1) 24), (b4, I0 (cys 0) 24)]) rfl ?_
  refine k_ret G hr dX0_init_31 (by decide) (by decide) ?_
  exact ⟨b1, b2, b3, b4, rfl⟩
set_option maxRecDepth 100000 in
set_option maxHeartbeats 8000000 in
theorem ck_X2 {l : Launch} {D : va_G} {cys : Nat → ClassId} {ws0 : va_W} (a : Nat) : CK l D cys yX2_init cX2_init 1 2 32 3 50 a 2 [.null, .null] ws0 (fun tl => ∃ (b1 : Nat) (b2 : Nat) (b3 : Nat), tl = [(a, .inr (2, [.ref b1, .ref b3])), (b1, .inr (3, [.ref b2, .int 0])), (b2, I0 (cys 0) 24), (b3, I0 (cys 0) 24)]) := by
  refine ck_start (by decide +kernel) rfl (Nat.le_of_ble_eq_true rfl) ?_
  intro p e s m args below meth c A G hr hin
  refine k_aload_n G dX2_init_0 rfl ?_
  refine k_objInit G (TW_of 177 (by decide +kernel) (by decide +kernel)) dX2_init_1 (by decide) (Nat.le_of_ble_eq_true rfl) ?_
  refine k_aload_n G dX2_init_4 rfl ?_
  refine k_new G (ci := 3) (fs := [.null, .int 0]) rfl inT3 tyX3_ok fsX3 (TW_of 178 (by decide +kernel) (by decide +kernel)) (TW_of 129 (by decide +kernel) (by decide +kernel)) (TW_of 40 (by decide +kernel) (by decide +kernel)) dX2_init_5 ⟨by decide, by decide⟩ (fun b1 => ?_)
  refine k_dup G dX2_init_8 rfl ?_
  refine k_callN G (TW_of 131 (by decide +kernel) (by decide +kernel)) (TW_of 40 (by decide +kernel) (by decide +kernel)) (TW_of 132 (by decide +kernel) (by decide +kernel)) ⟨by decide +kernel, by decide +kernel, by decide +kernel⟩ rfl (List.mem_of_getElem? (i := 6) rfl) (ck_X3 b1) dX2_init_9 ⟨by decide, by decide⟩ ⟨by decide, by decide⟩ (Nat.le_of_ble_eq_true rfl) (fun tl2 h2 => ?_)
  obtain ⟨b2, rfl⟩ := h2
  refine k_eq (tl' := [(a, .inr (2, [.null, .null])), (b1, .inr (3, [.ref b2, .int 0])), (b2, I0 (cys 0) 24)]) rfl ?_
  refine k_putF G hin 0 0 rfl rfl inT2 tyX2_ok nmX2 (by decide) lf2_12 rfl rfl rfl rfl rfl rfl (Nat.le_of_ble_eq_true rfl) dX2_init_12 ?_
  refine k_eq (tl' := [(a, .inr (2, [.ref b1, .null])), (b1, .inr (3, [.ref b2, .int 0])), (b2, I0 (cys 0) 24)]) rfl ?_
  refine k_aload_n G dX2_init_15 rfl ?_
  refine k_bipush G dX2_init_16 (by decide +kernel) ?_
  refine k_newI G 24 dX2_init_18 (by decide +kernel) (by decide +kernel) (by decide) ⟨by decide, by decide⟩ (fun b3 => ?_)
  refine k_eq (tl' := [(a, .inr (2, [.ref b1, .null])), (b1, .inr (3, [.ref b2, .int 0])), (b2, I0 (cys 0) 24), (b3, I0 (cys 0) 24)]) rfl ?_
  refine k_putF G hin 0 1 rfl rfl inT2 tyX2_ok nmX2 (by decide) lf2_18 rfl rfl rfl rfl rfl rfl (Nat.le_of_ble_eq_true rfl) dX2_init_20 ?_
  refine k_eq (tl' := [(a, .inr (2, [.ref b1, .ref b3])), (b1, .inr (3, [.ref b2, .int 0])), (b2, I0 (cys 0) 24), (b3, I0 (cys 0) 24)]) rfl ?_
  refine k_ret G hr dX2_init_23 (by decide) (by decide) ?_
  exact ⟨b1, b2, b3, rfl⟩
set_option maxRecDepth 100000 in
set_option maxHeartbeats 8000000 in
theorem ck_X1 {l : Launch} {D : va_G} {cys : Nat → ClassId} {ws0 : va_W} (a : Nat) : CK l D cys yX1_init cX1_init 1 1 12 7 484 a 1 [.null, .null, .null, .int 0] ws0 (fun tl => ∃ (b1 : Nat) (r1 : Nat → Nat) (b2 : Nat) (b3 : Nat), tl = [(a, .inr (1, [.ref b1, .ref b2, .ref b3, .int 0])), (b1, QQ (cys 4) 4 (fun i => if i < 4 then some (r1 i) else none)), ((r1 0), I0 (cys 0) 80), ((r1 1), I0 (cys 0) 80), ((r1 2), I0 (cys 0) 80), ((r1 3), I0 (cys 0) 80), (b2, I0 (cys 0) 80), (b3, I0 (cys 0) 80)]) := by
  refine ck_start (by decide +kernel) rfl (Nat.le_of_ble_eq_true rfl) ?_
  intro p e s m args below meth c A G hr hin
  refine k_aload_n G dX1_init_0 rfl ?_
  refine k_objInit G (TW_of 77 (by decide +kernel) (by decide +kernel)) dX1_init_1 (by decide) (Nat.le_of_ble_eq_true rfl) ?_
  refine k_aload_n G dX1_init_4 rfl ?_
  refine k_iconst G dX1_init_5 ?_
  refine k_bipush G dX1_init_6 (by decide +kernel) ?_
  refine k_mna G (nm := "[[I") (ty := .int) (kO := 4) (kI := 0) 4 80 (TW_of 78 (by decide +kernel) (by decide +kernel)) (by decide +kernel) G.sf.2.2.1 (TW_of 97 (by decide +kernel) (by decide +kernel)) rfl rfl (fun _ => rfl) (by decide +kernel) (fun c => innI c _) rfl rfl (by decide) dX1_init_8 (by decide +kernel) (by decide +kernel) (by decide +kernel) (by decide +kernel) (by decide) (by decide) ⟨by decide, by decide⟩ (fun b1 r1 => ?_)
  refine k_eq (tl' := [(a, .inr (1, [.null, .null, .null, .int 0])), (b1, QQ (cys 4) 4 (fun i => if i < 4 then some (r1 i) else none)), ((r1 0), I0 (cys 0) 80), ((r1 1), I0 (cys 0) 80), ((r1 2), I0 (cys 0) 80), ((r1 3), I0 (cys 0) 80)]) rfl ?_
  refine k_putF G hin 0 0 rfl rfl inT1 tyX1_ok nmX1 (by decide) lf1_11 rfl rfl rfl rfl rfl rfl (Nat.le_of_ble_eq_true rfl) dX1_init_12 ?_
  refine k_eq (tl' := [(a, .inr (1, [.ref b1, .null, .null, .int 0])), (b1, QQ (cys 4) 4 (fun i => if i < 4 then some (r1 i) else none)), ((r1 0), I0 (cys 0) 80), ((r1 1), I0 (cys 0) 80), ((r1 2), I0 (cys 0) 80), ((r1 3), I0 (cys 0) 80)]) rfl ?_
  refine k_aload_n G dX1_init_15 rfl ?_
  refine k_bipush G dX1_init_16 (by decide +kernel) ?_
  refine k_newI G 80 dX1_init_18 (by decide +kernel) (by decide +kernel) (by decide) ⟨by decide, by decide⟩ (fun b2 => ?_)
  refine k_eq (tl' := [(a, .inr (1, [.ref b1, .null, .null, .int 0])), (b1, QQ (cys 4) 4 (fun i => if i < 4 then some (r1 i) else none)), ((r1 0), I0 (cys 0) 80), ((r1 1), I0 (cys 0) 80), ((r1 2), I0 (cys 0) 80), ((r1 3), I0 (cys 0) 80), (b2, I0 (cys 0) 80)]) rfl ?_
  refine k_putF G hin 0 1 rfl rfl inT1 tyX1_ok nmX1 (by decide) lf1_16 rfl rfl rfl rfl rfl rfl (Nat.le_of_ble_eq_true rfl) dX1_init_20 ?_
  refine k_eq (tl' := [(a, .inr (1, [.ref b1, .ref b2, .null, .int 0])), (b1, QQ (cys 4) 4 (fun i => if i < 4 then some (r1 i) else none)), ((r1 0), I0 (cys 0) 80), ((r1 1), I0 (cys 0) 80), ((r1 2), I0 (cys 0) 80), ((r1 3), I0 (cys 0) 80), (b2, I0 (cys 0) 80)]) rfl ?_
  refine k_aload_n G dX1_init_23 rfl ?_
  refine k_bipush G dX1_init_24 (by decide +kernel) ?_
  refine k_newI G 80 dX1_init_26 (by decide +kernel) (by decide +kernel) (by decide) ⟨by decide, by decide⟩ (fun b3 => ?_)
  refine k_eq (tl' := [(a, .inr (1, [.ref b1, .ref b2, .null, .int 0])), (b1, QQ (cys 4) 4 (fun i => if i < 4 then some (r1 i) else none)), ((r1 0), I0 (cys 0) 80), ((r1 1), I0 (cys 0) 80), ((r1 2), I0 (cys 0) 80), ((r1 3), I0 (cys 0) 80), (b2, I0 (cys 0) 80), (b3, I0 (cys 0) 80)]) rfl ?_
  refine k_putF G hin 0 2 rfl rfl inT1 tyX1_ok nmX1 (by decide) lf1_20 rfl rfl rfl rfl rfl rfl (Nat.le_of_ble_eq_true rfl) dX1_init_28 ?_
  refine k_eq (tl' := [(a, .inr (1, [.ref b1, .ref b2, .ref b3, .int 0])), (b1, QQ (cys 4) 4 (fun i => if i < 4 then some (r1 i) else none)), ((r1 0), I0 (cys 0) 80), ((r1 1), I0 (cys 0) 80), ((r1 2), I0 (cys 0) 80), ((r1 3), I0 (cys 0) 80), (b2, I0 (cys 0) 80), (b3, I0 (cys 0) 80)]) rfl ?_
  refine k_ret G hr dX1_init_31 (by decide) (by decide) ?_
  exact ⟨b1, r1, b2, b3, rfl⟩
set_option maxRecDepth 100000 in
set_option maxHeartbeats 8000000 in
theorem ck_X6 {l : Launch} {D : va_G} {cys : Nat → ClassId} {ws0 : va_W} (a : Nat) : CK l D cys yX6_init cX6_init 2 3 52 70 1664 a 6 [.null, .null, .null, .null, .null, .int 0, .int 0, .int 0, .int 0, .null, .null, .null] ws0 (fun tl => ∃ (b1 : Nat) (b2 : Nat) (b3 : Nat) (r4 : Nat → Nat) (b5 : Nat) (b6 : Nat) (b7 : Nat) (b8 : Nat) (b9 : Nat) (b10 : Nat) (b11 : Nat) (b12 : Nat) (b13 : Nat) (b14 : Nat) (b15 : Nat) (b16 : Nat) (b17 : Nat) (b18 : Nat) (b19 : Nat) (b20 : Nat) (b21 : Nat) (b22 : Nat) (b23 : Nat) (b24 : Nat) (b25 : Nat) (b26 : Nat) (b27 : Nat) (r27 : Nat → Nat) (b28 : Nat) (b29 : Nat) (b30 : Nat) (b31 : Nat) (b32 : Nat) (b33 : Nat) (b34 : Nat) (b35 : Nat) (b36 : Nat) (b37 : Nat) (b38 : Nat) (b39 : Nat) (b40 : Nat) (b41 : Nat) (b42 : Nat) (b43 : Nat), tl = [(a, .inr (6, [.ref b1, .ref b2, .ref b7, .ref b11, .ref b16, .int 0, .int 0, .int 0, .int 0, .ref b21, .ref b23, .ref b27])), (b1, QQ (cys 3) 4 (va_up (va_up (va_up (va_up (fun _ => none) 0 (some b28)) 1 (some b32)) 2 (some b36)) 3 (some b40))), (b2, .inr (1, [.ref b3, .ref b5, .ref b6, .int 0])), (b3, QQ (cys 4) 4 (fun i => if i < 4 then some (r4 i) else none)), ((r4 0), I0 (cys 0) 80), ((r4 1), I0 (cys 0) 80), ((r4 2), I0 (cys 0) 80), ((r4 3), I0 (cys 0) 80), (b5, I0 (cys 0) 80), (b6, I0 (cys 0) 80), (b7, .inr (5, [.ref b8, .ref b9, .ref b10, .int 0])), (b8, I0 (cys 0) 6), (b9, I0 (cys 0) 6), (b10, I0 (cys 1) 6), (b11, .inr (0, [.ref b12, .ref b14, .ref b15, .int 0, .int 0, .int 0])), (b12, .inr (3, [.ref b13, .int 0])), (b13, I0 (cys 0) 24), (b14, I0 (cys 1) 24), (b15, I0 (cys 0) 24), (b16, .inr (0, [.ref b17, .ref b19, .ref b20, .int 0, .int 0, .int 0])), (b17, .inr (3, [.ref b18, .int 0])), (b18, I0 (cys 0) 24), (b19, I0 (cys 1) 24), (b20, I0 (cys 0) 24), (b21, .inr (3, [.ref b22, .int 0])), (b22, I0 (cys 0) 24), (b23, .inr (2, [.ref b24, .ref b26])), (b24, .inr (3, [.ref b25, .int 0])), (b25, I0 (cys 0) 24), (b26, I0 (cys 0) 24), (b27, QQ (cys 4) 24 (fun i => if i < 24 then some (r27 i) else none)), ((r27 0), I0 (cys 0) 24), ((r27 1), I0 (cys 0) 24), ((r27 2), I0 (cys 0) 24), ((r27 3), I0 (cys 0) 24), ((r27 4), I0 (cys 0) 24), ((r27 5), I0 (cys 0) 24), ((r27 6), I0 (cys 0) 24), ((r27 7), I0 (cys 0) 24), ((r27 8), I0 (cys 0) 24), ((r27 9), I0 (cys 0) 24), ((r27 10), I0 (cys 0) 24), ((r27 11), I0 (cys 0) 24), ((r27 12), I0 (cys 0) 24), ((r27 13), I0 (cys 0) 24), ((r27 14), I0 (cys 0) 24), ((r27 15), I0 (cys 0) 24), ((r27 16), I0 (cys 0) 24), ((r27 17), I0 (cys 0) 24), ((r27 18), I0 (cys 0) 24), ((r27 19), I0 (cys 0) 24), ((r27 20), I0 (cys 0) 24), ((r27 21), I0 (cys 0) 24), ((r27 22), I0 (cys 0) 24), ((r27 23), I0 (cys 0) 24), (b28, .inr (4, [.ref b29, .ref b30, .ref b31, .int 0, .int 0, .int 0])), (b29, I0 (cys 0) 24), (b30, I0 (cys 0) 24), (b31, I0 (cys 1) 24), (b32, .inr (4, [.ref b33, .ref b34, .ref b35, .int 0, .int 0, .int 0])), (b33, I0 (cys 0) 24), (b34, I0 (cys 0) 24), (b35, I0 (cys 1) 24), (b36, .inr (4, [.ref b37, .ref b38, .ref b39, .int 0, .int 0, .int 0])), (b37, I0 (cys 0) 24), (b38, I0 (cys 0) 24), (b39, I0 (cys 1) 24), (b40, .inr (4, [.ref b41, .ref b42, .ref b43, .int 0, .int 0, .int 0])), (b41, I0 (cys 0) 24), (b42, I0 (cys 0) 24), (b43, I0 (cys 1) 24)]) := by
  refine ck_start (by decide +kernel) rfl (Nat.le_of_ble_eq_true rfl) ?_
  intro p e s m args below meth c A G hr hin
  refine k_aload_n G dX6_init_0 rfl ?_
  refine k_objInit G (TW_of 67 (by decide +kernel) (by decide +kernel)) dX6_init_1 (by decide) (Nat.le_of_ble_eq_true rfl) ?_
  refine k_aload_n G dX6_init_4 rfl ?_
  refine k_iconst G dX6_init_5 ?_
  refine k_newT G 4 (TW_of 70 (by decide +kernel) (by decide +kernel)) dX6_init_6 (by decide +kernel) (by decide +kernel) (by decide) ⟨by decide, by decide⟩ (fun b1 => ?_)
  refine k_eq (tl' := [(a, .inr (6, [.null, .null, .null, .null, .null, .int 0, .int 0, .int 0, .int 0, .null, .null, .null])), (b1, QQ (cys 3) 4 (fun _ => none))]) rfl ?_
  refine k_putF G hin 0 0 rfl rfl inT6 tyX6_ok nmX6 (by decide) lf6_11 rfl rfl rfl rfl rfl rfl (Nat.le_of_ble_eq_true rfl) dX6_init_9 ?_
  refine k_eq (tl' := [(a, .inr (6, [.ref b1, .null, .null, .null, .null, .int 0, .int 0, .int 0, .int 0, .null, .null, .null])), (b1, QQ (cys 3) 4 (fun _ => none))]) rfl ?_
  refine k_aload_n G dX6_init_12 rfl ?_
  refine k_new G (ci := 1) (fs := [.null, .null, .null, .int 0]) rfl inT1 tyX1_ok fsX1 (TW_of 72 (by decide +kernel) (by decide +kernel)) (TW_of 73 (by decide +kernel) (by decide +kernel)) (TW_of 37 (by decide +kernel) (by decide +kernel)) dX6_init_13 ⟨by decide, by decide⟩ (fun b2 => ?_)
  refine k_dup G dX6_init_16 rfl ?_
  refine k_callN G (TW_of 75 (by decide +kernel) (by decide +kernel)) (TW_of 37 (by decide +kernel) (by decide +kernel)) (TW_of 76 (by decide +kernel) (by decide +kernel)) ⟨by decide +kernel, by decide +kernel, by decide +kernel⟩ rfl (List.mem_of_getElem? (i := 0) rfl) (ck_X1 b2) dX6_init_17 ⟨by decide, by decide⟩ ⟨by decide, by decide⟩ (Nat.le_of_ble_eq_true rfl) (fun tl2 h2 => ?_)
  obtain ⟨b3, r4, b5, b6, rfl⟩ := h2
  refine k_eq (tl' := [(a, .inr (6, [.ref b1, .null, .null, .null, .null, .int 0, .int 0, .int 0, .int 0, .null, .null, .null])), (b1, QQ (cys 3) 4 (fun _ => none)), (b2, .inr (1, [.ref b3, .ref b5, .ref b6, .int 0])), (b3, QQ (cys 4) 4 (fun i => if i < 4 then some (r4 i) else none)), ((r4 0), I0 (cys 0) 80), ((r4 1), I0 (cys 0) 80), ((r4 2), I0 (cys 0) 80), ((r4 3), I0 (cys 0) 80), (b5, I0 (cys 0) 80), (b6, I0 (cys 0) 80)]) rfl ?_
  refine k_putF G hin 0 1 rfl rfl inT6 tyX6_ok nmX6 (by decide) lf6_18 rfl rfl rfl rfl rfl rfl (Nat.le_of_ble_eq_true rfl) dX6_init_20 ?_
  refine k_eq (tl' := [(a, .inr (6, [.ref b1, .ref b2, .null, .null, .null, .int 0, .int 0, .int 0, .int 0, .null, .null, .null])), (b1, QQ (cys 3) 4 (fun _ => none)), (b2, .inr (1, [.ref b3, .ref b5, .ref b6, .int 0])), (b3, QQ (cys 4) 4 (fun i => if i < 4 then some (r4 i) else none)), ((r4 0), I0 (cys 0) 80), ((r4 1), I0 (cys 0) 80), ((r4 2), I0 (cys 0) 80), ((r4 3), I0 (cys 0) 80), (b5, I0 (cys 0) 80), (b6, I0 (cys 0) 80)]) rfl ?_
  refine k_aload_n G dX6_init_23 rfl ?_
  refine k_new G (ci := 5) (fs := [.null, .null, .null, .int 0]) rfl inT5 tyX5_ok fsX5 (TW_of 98 (by decide +kernel) (by decide +kernel)) (TW_of 99 (by decide +kernel) (by decide +kernel)) (TW_of 38 (by decide +kernel) (by decide +kernel)) dX6_init_24 ⟨by decide, by decide⟩ (fun b7 => ?_)
  refine k_dup G dX6_init_27 rfl ?_
  refine k_callN G (TW_of 101 (by decide +kernel) (by decide +kernel)) (TW_of 38 (by decide +kernel) (by decide +kernel)) (TW_of 102 (by decide +kernel) (by decide +kernel)) ⟨by decide +kernel, by decide +kernel, by decide +kernel⟩ rfl (List.mem_of_getElem? (i := 1) rfl) (ck_X5 b7) dX6_init_28 ⟨by decide, by decide⟩ ⟨by decide, by decide⟩ (Nat.le_of_ble_eq_true rfl) (fun tl2 h2 => ?_)
  obtain ⟨b8, b9, b10, rfl⟩ := h2
  refine k_eq (tl' := [(a, .inr (6, [.ref b1, .ref b2, .null, .null, .null, .int 0, .int 0, .int 0, .int 0, .null, .null, .null])), (b1, QQ (cys 3) 4 (fun _ => none)), (b2, .inr (1, [.ref b3, .ref b5, .ref b6, .int 0])), (b3, QQ (cys 4) 4 (fun i => if i < 4 then some (r4 i) else none)), ((r4 0), I0 (cys 0) 80), ((r4 1), I0 (cys 0) 80), ((r4 2), I0 (cys 0) 80), ((r4 3), I0 (cys 0) 80), (b5, I0 (cys 0) 80), (b6, I0 (cys 0) 80), (b7, .inr (5, [.ref b8, .ref b9, .ref b10, .int 0])), (b8, I0 (cys 0) 6), (b9, I0 (cys 0) 6), (b10, I0 (cys 1) 6)]) rfl ?_
  refine k_putF G hin 0 2 rfl rfl inT6 tyX6_ok nmX6 (by decide) lf6_25 rfl rfl rfl rfl rfl rfl (Nat.le_of_ble_eq_true rfl) dX6_init_31 ?_
  refine k_eq (tl' := [(a, .inr (6, [.ref b1, .ref b2, .ref b7, .null, .null, .int 0, .int 0, .int 0, .int 0, .null, .null, .null])), (b1, QQ (cys 3) 4 (fun _ => none)), (b2, .inr (1, [.ref b3, .ref b5, .ref b6, .int 0])), (b3, QQ (cys 4) 4 (fun i => if i < 4 then some (r4 i) else none)), ((r4 0), I0 (cys 0) 80), ((r4 1), I0 (cys 0) 80), ((r4 2), I0 (cys 0) 80), ((r4 3), I0 (cys 0) 80), (b5, I0 (cys 0) 80), (b6, I0 (cys 0) 80), (b7, .inr (5, [.ref b8, .ref b9, .ref b10, .int 0])), (b8, I0 (cys 0) 6), (b9, I0 (cys 0) 6), (b10, I0 (cys 1) 6)]) rfl ?_
  refine k_aload_n G dX6_init_34 rfl ?_
  refine k_new G (ci := 0) (fs := [.null, .null, .null, .int 0, .int 0, .int 0]) rfl inT0 tyX0_ok fsX0 (TW_of 122 (by decide +kernel) (by decide +kernel)) (TW_of 123 (by decide +kernel) (by decide +kernel)) (TW_of 39 (by decide +kernel) (by decide +kernel)) dX6_init_35 ⟨by decide, by decide⟩ (fun b11 => ?_)
  refine k_dup G dX6_init_38 rfl ?_
  refine k_callN G (TW_of 125 (by decide +kernel) (by decide +kernel)) (TW_of 39 (by decide +kernel) (by decide +kernel)) (TW_of 126 (by decide +kernel) (by decide +kernel)) ⟨by decide +kernel, by decide +kernel, by decide +kernel⟩ rfl (List.mem_of_getElem? (i := 2) rfl) (ck_X0 b11) dX6_init_39 ⟨by decide, by decide⟩ ⟨by decide, by decide⟩ (Nat.le_of_ble_eq_true rfl) (fun tl2 h2 => ?_)
  obtain ⟨b12, b13, b14, b15, rfl⟩ := h2
  refine k_eq (tl' := [(a, .inr (6, [.ref b1, .ref b2, .ref b7, .null, .null, .int 0, .int 0, .int 0, .int 0, .null, .null, .null])), (b1, QQ (cys 3) 4 (fun _ => none)), (b2, .inr (1, [.ref b3, .ref b5, .ref b6, .int 0])), (b3, QQ (cys 4) 4 (fun i => if i < 4 then some (r4 i) else none)), ((r4 0), I0 (cys 0) 80), ((r4 1), I0 (cys 0) 80), ((r4 2), I0 (cys 0) 80), ((r4 3), I0 (cys 0) 80), (b5, I0 (cys 0) 80), (b6, I0 (cys 0) 80), (b7, .inr (5, [.ref b8, .ref b9, .ref b10, .int 0])), (b8, I0 (cys 0) 6), (b9, I0 (cys 0) 6), (b10, I0 (cys 1) 6), (b11, .inr (0, [.ref b12, .ref b14, .ref b15, .int 0, .int 0, .int 0])), (b12, .inr (3, [.ref b13, .int 0])), (b13, I0 (cys 0) 24), (b14, I0 (cys 1) 24), (b15, I0 (cys 0) 24)]) rfl ?_
  refine k_putF G hin 0 3 rfl rfl inT6 tyX6_ok nmX6 (by decide) lf6_32 rfl rfl rfl rfl rfl rfl (Nat.le_of_ble_eq_true rfl) dX6_init_42 ?_
  refine k_eq (tl' := [(a, .inr (6, [.ref b1, .ref b2, .ref b7, .ref b11, .null, .int 0, .int 0, .int 0, .int 0, .null, .null, .null])), (b1, QQ (cys 3) 4 (fun _ => none)), (b2, .inr (1, [.ref b3, .ref b5, .ref b6, .int 0])), (b3, QQ (cys 4) 4 (fun i => if i < 4 then some (r4 i) else none)), ((r4 0), I0 (cys 0) 80), ((r4 1), I0 (cys 0) 80), ((r4 2), I0 (cys 0) 80), ((r4 3), I0 (cys 0) 80), (b5, I0 (cys 0) 80), (b6, I0 (cys 0) 80), (b7, .inr (5, [.ref b8, .ref b9, .ref b10, .int 0])), (b8, I0 (cys 0) 6), (b9, I0 (cys 0) 6), (b10, I0 (cys 1) 6), (b11, .inr (0, [.ref b12, .ref b14, .ref b15, .int 0, .int 0, .int 0])), (b12, .inr (3, [.ref b13, .int 0])), (b13, I0 (cys 0) 24), (b14, I0 (cys 1) 24), (b15, I0 (cys 0) 24)]) rfl ?_
  refine k_aload_n G dX6_init_45 rfl ?_
  refine k_new G (ci := 0) (fs := [.null, .null, .null, .int 0, .int 0, .int 0]) rfl inT0 tyX0_ok fsX0 (TW_of 122 (by decide +kernel) (by decide +kernel)) (TW_of 123 (by decide +kernel) (by decide +kernel)) (TW_of 39 (by decide +kernel) (by decide +kernel)) dX6_init_46 ⟨by decide, by decide⟩ (fun b16 => ?_)
  refine k_dup G dX6_init_49 rfl ?_
  refine k_callN G (TW_of 125 (by decide +kernel) (by decide +kernel)) (TW_of 39 (by decide +kernel) (by decide +kernel)) (TW_of 126 (by decide +kernel) (by decide +kernel)) ⟨by decide +kernel, by decide +kernel, by decide +kernel⟩ rfl (List.mem_of_getElem? (i := 2) rfl) (ck_X0 b16) dX6_init_50 ⟨by decide, by decide⟩ ⟨by decide, by decide⟩ (Nat.le_of_ble_eq_true rfl) (fun tl2 h2 => ?_)
  obtain ⟨b17, b18, b19, b20, rfl⟩ := h2
  refine k_eq (tl' := [(a, .inr (6, [.ref b1, .ref b2, .ref b7, .ref b11, .null, .int 0, .int 0, .int 0, .int 0, .null, .null, .null])), (b1, QQ (cys 3) 4 (fun _ => none)), (b2, .inr (1, [.ref b3, .ref b5, .ref b6, .int 0])), (b3, QQ (cys 4) 4 (fun i => if i < 4 then some (r4 i) else none)), ((r4 0), I0 (cys 0) 80), ((r4 1), I0 (cys 0) 80), ((r4 2), I0 (cys 0) 80), ((r4 3), I0 (cys 0) 80), (b5, I0 (cys 0) 80), (b6, I0 (cys 0) 80), (b7, .inr (5, [.ref b8, .ref b9, .ref b10, .int 0])), (b8, I0 (cys 0) 6), (b9, I0 (cys 0) 6), (b10, I0 (cys 1) 6), (b11, .inr (0, [.ref b12, .ref b14, .ref b15, .int 0, .int 0, .int 0])), (b12, .inr (3, [.ref b13, .int 0])), (b13, I0 (cys 0) 24), (b14, I0 (cys 1) 24), (b15, I0 (cys 0) 24), (b16, .inr (0, [.ref b17, .ref b19, .ref b20, .int 0, .int 0, .int 0])), (b17, .inr (3, [.ref b18, .int 0])), (b18, I0 (cys 0) 24), (b19, I0 (cys 1) 24), (b20, I0 (cys 0) 24)]) rfl ?_
  refine k_putF G hin 0 4 rfl rfl inT6 tyX6_ok nmX6 (by decide) lf6_36 rfl rfl rfl rfl rfl rfl (Nat.le_of_ble_eq_true rfl) dX6_init_53 ?_
  refine k_eq (tl' := [(a, .inr (6, [.ref b1, .ref b2, .ref b7, .ref b11, .ref b16, .int 0, .int 0, .int 0, .int 0, .null, .null, .null])), (b1, QQ (cys 3) 4 (fun _ => none)), (b2, .inr (1, [.ref b3, .ref b5, .ref b6, .int 0])), (b3, QQ (cys 4) 4 (fun i => if i < 4 then some (r4 i) else none)), ((r4 0), I0 (cys 0) 80), ((r4 1), I0 (cys 0) 80), ((r4 2), I0 (cys 0) 80), ((r4 3), I0 (cys 0) 80), (b5, I0 (cys 0) 80), (b6, I0 (cys 0) 80), (b7, .inr (5, [.ref b8, .ref b9, .ref b10, .int 0])), (b8, I0 (cys 0) 6), (b9, I0 (cys 0) 6), (b10, I0 (cys 1) 6), (b11, .inr (0, [.ref b12, .ref b14, .ref b15, .int 0, .int 0, .int 0])), (b12, .inr (3, [.ref b13, .int 0])), (b13, I0 (cys 0) 24), (b14, I0 (cys 1) 24), (b15, I0 (cys 0) 24), (b16, .inr (0, [.ref b17, .ref b19, .ref b20, .int 0, .int 0, .int 0])), (b17, .inr (3, [.ref b18, .int 0])), (b18, I0 (cys 0) 24), (b19, I0 (cys 1) 24), (b20, I0 (cys 0) 24)]) rfl ?_
  refine k_aload_n G dX6_init_56 rfl ?_
  refine k_new G (ci := 3) (fs := [.null, .int 0]) rfl inT3 tyX3_ok fsX3 (TW_of 170 (by decide +kernel) (by decide +kernel)) (TW_of 129 (by decide +kernel) (by decide +kernel)) (TW_of 40 (by decide +kernel) (by decide +kernel)) dX6_init_57 ⟨by decide, by decide⟩ (fun b21 => ?_)
  refine k_dup G dX6_init_60 rfl ?_
  refine k_callN G (TW_of 131 (by decide +kernel) (by decide +kernel)) (TW_of 40 (by decide +kernel) (by decide +kernel)) (TW_of 132 (by decide +kernel) (by decide +kernel)) ⟨by decide +kernel, by decide +kernel, by decide +kernel⟩ rfl (List.mem_of_getElem? (i := 4) rfl) (ck_X3 b21) dX6_init_61 ⟨by decide, by decide⟩ ⟨by decide, by decide⟩ (Nat.le_of_ble_eq_true rfl) (fun tl2 h2 => ?_)
  obtain ⟨b22, rfl⟩ := h2
  refine k_eq (tl' := [(a, .inr (6, [.ref b1, .ref b2, .ref b7, .ref b11, .ref b16, .int 0, .int 0, .int 0, .int 0, .null, .null, .null])), (b1, QQ (cys 3) 4 (fun _ => none)), (b2, .inr (1, [.ref b3, .ref b5, .ref b6, .int 0])), (b3, QQ (cys 4) 4 (fun i => if i < 4 then some (r4 i) else none)), ((r4 0), I0 (cys 0) 80), ((r4 1), I0 (cys 0) 80), ((r4 2), I0 (cys 0) 80), ((r4 3), I0 (cys 0) 80), (b5, I0 (cys 0) 80), (b6, I0 (cys 0) 80), (b7, .inr (5, [.ref b8, .ref b9, .ref b10, .int 0])), (b8, I0 (cys 0) 6), (b9, I0 (cys 0) 6), (b10, I0 (cys 1) 6), (b11, .inr (0, [.ref b12, .ref b14, .ref b15, .int 0, .int 0, .int 0])), (b12, .inr (3, [.ref b13, .int 0])), (b13, I0 (cys 0) 24), (b14, I0 (cys 1) 24), (b15, I0 (cys 0) 24), (b16, .inr (0, [.ref b17, .ref b19, .ref b20, .int 0, .int 0, .int 0])), (b17, .inr (3, [.ref b18, .int 0])), (b18, I0 (cys 0) 24), (b19, I0 (cys 1) 24), (b20, I0 (cys 0) 24), (b21, .inr (3, [.ref b22, .int 0])), (b22, I0 (cys 0) 24)]) rfl ?_
  refine k_putF G hin 0 9 rfl rfl inT6 tyX6_ok nmX6 (by decide) lf6_42 rfl rfl rfl rfl rfl rfl (Nat.le_of_ble_eq_true rfl) dX6_init_64 ?_
  refine k_eq (tl' := [(a, .inr (6, [.ref b1, .ref b2, .ref b7, .ref b11, .ref b16, .int 0, .int 0, .int 0, .int 0, .ref b21, .null, .null])), (b1, QQ (cys 3) 4 (fun _ => none)), (b2, .inr (1, [.ref b3, .ref b5, .ref b6, .int 0])), (b3, QQ (cys 4) 4 (fun i => if i < 4 then some (r4 i) else none)), ((r4 0), I0 (cys 0) 80), ((r4 1), I0 (cys 0) 80), ((r4 2), I0 (cys 0) 80), ((r4 3), I0 (cys 0) 80), (b5, I0 (cys 0) 80), (b6, I0 (cys 0) 80), (b7, .inr (5, [.ref b8, .ref b9, .ref b10, .int 0])), (b8, I0 (cys 0) 6), (b9, I0 (cys 0) 6), (b10, I0 (cys 1) 6), (b11, .inr (0, [.ref b12, .ref b14, .ref b15, .int 0, .int 0, .int 0])), (b12, .inr (3, [.ref b13, .int 0])), (b13, I0 (cys 0) 24), (b14, I0 (cys 1) 24), (b15, I0 (cys 0) 24), (b16, .inr (0, [.ref b17, .ref b19, .ref b20, .int 0, .int 0, .int 0])), (b17, .inr (3, [.ref b18, .int 0])), (b18, I0 (cys 0) 24), (b19, I0 (cys 1) 24), (b20, I0 (cys 0) 24), (b21, .inr (3, [.ref b22, .int 0])), (b22, I0 (cys 0) 24)]) rfl ?_
  refine k_aload_n G dX6_init_67 rfl ?_
  refine k_new G (ci := 2) (fs := [.null, .null]) rfl inT2 tyX2_ok fsX2 (TW_of 172 (by decide +kernel) (by decide +kernel)) (TW_of 173 (by decide +kernel) (by decide +kernel)) (TW_of 41 (by decide +kernel) (by decide +kernel)) dX6_init_68 ⟨by decide, by decide⟩ (fun b23 => ?_)
  refine k_dup G dX6_init_71 rfl ?_
  refine k_callN G (TW_of 175 (by decide +kernel) (by decide +kernel)) (TW_of 41 (by decide +kernel) (by decide +kernel)) (TW_of 176 (by decide +kernel) (by decide +kernel)) ⟨by decide +kernel, by decide +kernel, by decide +kernel⟩ rfl (List.mem_of_getElem? (i := 5) rfl) (ck_X2 b23) dX6_init_72 ⟨by decide, by decide⟩ ⟨by decide, by decide⟩ (Nat.le_of_ble_eq_true rfl) (fun tl2 h2 => ?_)
  obtain ⟨b24, b25, b26, rfl⟩ := h2
  refine k_eq (tl' := [(a, .inr (6, [.ref b1, .ref b2, .ref b7, .ref b11, .ref b16, .int 0, .int 0, .int 0, .int 0, .ref b21, .null, .null])), (b1, QQ (cys 3) 4 (fun _ => none)), (b2, .inr (1, [.ref b3, .ref b5, .ref b6, .int 0])), (b3, QQ (cys 4) 4 (fun i => if i < 4 then some (r4 i) else none)), ((r4 0), I0 (cys 0) 80), ((r4 1), I0 (cys 0) 80), ((r4 2), I0 (cys 0) 80), ((r4 3), I0 (cys 0) 80), (b5, I0 (cys 0) 80), (b6, I0 (cys 0) 80), (b7, .inr (5, [.ref b8, .ref b9, .ref b10, .int 0])), (b8, I0 (cys 0) 6), (b9, I0 (cys 0) 6), (b10, I0 (cys 1) 6), (b11, .inr (0, [.ref b12, .ref b14, .ref b15, .int 0, .int 0, .int 0])), (b12, .inr (3, [.ref b13, .int 0])), (b13, I0 (cys 0) 24), (b14, I0 (cys 1) 24), (b15, I0 (cys 0) 24), (b16, .inr (0, [.ref b17, .ref b19, .ref b20, .int 0, .int 0, .int 0])), (b17, .inr (3, [.ref b18, .int 0])), (b18, I0 (cys 0) 24), (b19, I0 (cys 1) 24), (b20, I0 (cys 0) 24), (b21, .inr (3, [.ref b22, .int 0])), (b22, I0 (cys 0) 24), (b23, .inr (2, [.ref b24, .ref b26])), (b24, .inr (3, [.ref b25, .int 0])), (b25, I0 (cys 0) 24), (b26, I0 (cys 0) 24)]) rfl ?_
  refine k_putF G hin 0 10 rfl rfl inT6 tyX6_ok nmX6 (by decide) lf6_49 rfl rfl rfl rfl rfl rfl (Nat.le_of_ble_eq_true rfl) dX6_init_75 ?_
  refine k_eq (tl' := [(a, .inr (6, [.ref b1, .ref b2, .ref b7, .ref b11, .ref b16, .int 0, .int 0, .int 0, .int 0, .ref b21, .ref b23, .null])), (b1, QQ (cys 3) 4 (fun _ => none)), (b2, .inr (1, [.ref b3, .ref b5, .ref b6, .int 0])), (b3, QQ (cys 4) 4 (fun i => if i < 4 then some (r4 i) else none)), ((r4 0), I0 (cys 0) 80), ((r4 1), I0 (cys 0) 80), ((r4 2), I0 (cys 0) 80), ((r4 3), I0 (cys 0) 80), (b5, I0 (cys 0) 80), (b6, I0 (cys 0) 80), (b7, .inr (5, [.ref b8, .ref b9, .ref b10, .int 0])), (b8, I0 (cys 0) 6), (b9, I0 (cys 0) 6), (b10, I0 (cys 1) 6), (b11, .inr (0, [.ref b12, .ref b14, .ref b15, .int 0, .int 0, .int 0])), (b12, .inr (3, [.ref b13, .int 0])), (b13, I0 (cys 0) 24), (b14, I0 (cys 1) 24), (b15, I0 (cys 0) 24), (b16, .inr (0, [.ref b17, .ref b19, .ref b20, .int 0, .int 0, .int 0])), (b17, .inr (3, [.ref b18, .int 0])), (b18, I0 (cys 0) 24), (b19, I0 (cys 1) 24), (b20, I0 (cys 0) 24), (b21, .inr (3, [.ref b22, .int 0])), (b22, I0 (cys 0) 24), (b23, .inr (2, [.ref b24, .ref b26])), (b24, .inr (3, [.ref b25, .int 0])), (b25, I0 (cys 0) 24), (b26, I0 (cys 0) 24)]) rfl ?_
  refine k_aload_n G dX6_init_78 rfl ?_
  refine k_bipush G dX6_init_79 (by decide +kernel) ?_
  refine k_bipush G dX6_init_81 (by decide +kernel) ?_
  refine k_mna G (nm := "[[I") (ty := .int) (kO := 4) (kI := 0) 24 24 (TW_of 189 (by decide +kernel) (by decide +kernel)) (by decide +kernel) G.sf.2.2.1 (TW_of 97 (by decide +kernel) (by decide +kernel)) rfl rfl (fun _ => rfl) (by decide +kernel) (fun c => innI c _) rfl rfl (by decide) dX6_init_83 (by decide +kernel) (by decide +kernel) (by decide +kernel) (by decide +kernel) (by decide) (by decide) ⟨by decide, by decide⟩ (fun b27 r27 => ?_)
  refine k_eq (tl' := [(a, .inr (6, [.ref b1, .ref b2, .ref b7, .ref b11, .ref b16, .int 0, .int 0, .int 0, .int 0, .ref b21, .ref b23, .null])), (b1, QQ (cys 3) 4 (fun _ => none)), (b2, .inr (1, [.ref b3, .ref b5, .ref b6, .int 0])), (b3, QQ (cys 4) 4 (fun i => if i < 4 then some (r4 i) else none)), ((r4 0), I0 (cys 0) 80), ((r4 1), I0 (cys 0) 80), ((r4 2), I0 (cys 0) 80), ((r4 3), I0 (cys 0) 80), (b5, I0 (cys 0) 80), (b6, I0 (cys 0) 80), (b7, .inr (5, [.ref b8, .ref b9, .ref b10, .int 0])), (b8, I0 (cys 0) 6), (b9, I0 (cys 0) 6), (b10, I0 (cys 1) 6), (b11, .inr (0, [.ref b12, .ref b14, .ref b15, .int 0, .int 0, .int 0])), (b12, .inr (3, [.ref b13, .int 0])), (b13, I0 (cys 0) 24), (b14, I0 (cys 1) 24), (b15, I0 (cys 0) 24), (b16, .inr (0, [.ref b17, .ref b19, .ref b20, .int 0, .int 0, .int 0])), (b17, .inr (3, [.ref b18, .int 0])), (b18, I0 (cys 0) 24), (b19, I0 (cys 1) 24), (b20, I0 (cys 0) 24), (b21, .inr (3, [.ref b22, .int 0])), (b22, I0 (cys 0) 24), (b23, .inr (2, [.ref b24, .ref b26])), (b24, .inr (3, [.ref b25, .int 0])), (b25, I0 (cys 0) 24), (b26, I0 (cys 0) 24), (b27, QQ (cys 4) 24 (fun i => if i < 24 then some (r27 i) else none)), ((r27 0), I0 (cys 0) 24), ((r27 1), I0 (cys 0) 24), ((r27 2), I0 (cys 0) 24), ((r27 3), I0 (cys 0) 24), ((r27 4), I0 (cys 0) 24), ((r27 5), I0 (cys 0) 24), ((r27 6), I0 (cys 0) 24), ((r27 7), I0 (cys 0) 24), ((r27 8), I0 (cys 0) 24), ((r27 9), I0 (cys 0) 24), ((r27 10), I0 (cys 0) 24), ((r27 11), I0 (cys 0) 24), ((r27 12), I0 (cys 0) 24), ((r27 13), I0 (cys 0) 24), ((r27 14), I0 (cys 0) 24), ((r27 15), I0 (cys 0) 24), ((r27 16), I0 (cys 0) 24), ((r27 17), I0 (cys 0) 24), ((r27 18), I0 (cys 0) 24), ((r27 19), I0 (cys 0) 24), ((r27 20), I0 (cys 0) 24), ((r27 21), I0 (cys 0) 24), ((r27 22), I0 (cys 0) 24), ((r27 23), I0 (cys 0) 24)]) rfl ?_
  refine k_putF G hin 0 11 rfl rfl inT6 tyX6_ok nmX6 (by decide) lf6_55 rfl rfl rfl rfl rfl rfl (Nat.le_of_ble_eq_true rfl) dX6_init_87 ?_
  refine k_eq (tl' := [(a, .inr (6, [.ref b1, .ref b2, .ref b7, .ref b11, .ref b16, .int 0, .int 0, .int 0, .int 0, .ref b21, .ref b23, .ref b27])), (b1, QQ (cys 3) 4 (fun _ => none)), (b2, .inr (1, [.ref b3, .ref b5, .ref b6, .int 0])), (b3, QQ (cys 4) 4 (fun i => if i < 4 then some (r4 i) else none)), ((r4 0), I0 (cys 0) 80), ((r4 1), I0 (cys 0) 80), ((r4 2), I0 (cys 0) 80), ((r4 3), I0 (cys 0) 80), (b5, I0 (cys 0) 80), (b6, I0 (cys 0) 80), (b7, .inr (5, [.ref b8, .ref b9, .ref b10, .int 0])), (b8, I0 (cys 0) 6), (b9, I0 (cys 0) 6), (b10, I0 (cys 1) 6), (b11, .inr (0, [.ref b12, .ref b14, .ref b15, .int 0, .int 0, .int 0])), (b12, .inr (3, [.ref b13, .int 0])), (b13, I0 (cys 0) 24), (b14, I0 (cys 1) 24), (b15, I0 (cys 0) 24), (b16, .inr (0, [.ref b17, .ref b19, .ref b20, .int 0, .int 0, .int 0])), (b17, .inr (3, [.ref b18, .int 0])), (b18, I0 (cys 0) 24), (b19, I0 (cys 1) 24), (b20, I0 (cys 0) 24), (b21, .inr (3, [.ref b22, .int 0])), (b22, I0 (cys 0) 24), (b23, .inr (2, [.ref b24, .ref b26])), (b24, .inr (3, [.ref b25, .int 0])), (b25, I0 (cys 0) 24), (b26, I0 (cys 0) 24), (b27, QQ (cys 4) 24 (fun i => if i < 24 then some (r27 i) else none)), ((r27 0), I0 (cys 0) 24), ((r27 1), I0 (cys 0) 24), ((r27 2), I0 (cys 0) 24), ((r27 3), I0 (cys 0) 24), ((r27 4), I0 (cys 0) 24), ((r27 5), I0 (cys 0) 24), ((r27 6), I0 (cys 0) 24), ((r27 7), I0 (cys 0) 24), ((r27 8), I0 (cys 0) 24), ((r27 9), I0 (cys 0) 24), ((r27 10), I0 (cys 0) 24), ((r27 11), I0 (cys 0) 24), ((r27 12), I0 (cys 0) 24), ((r27 13), I0 (cys 0) 24), ((r27 14), I0 (cys 0) 24), ((r27 15), I0 (cys 0) 24), ((r27 16), I0 (cys 0) 24), ((r27 17), I0 (cys 0) 24), ((r27 18), I0 (cys 0) 24), ((r27 19), I0 (cys 0) 24), ((r27 20), I0 (cys 0) 24), ((r27 21), I0 (cys 0) 24), ((r27 22), I0 (cys 0) 24), ((r27 23), I0 (cys 0) 24)]) rfl ?_
  refine k_iconst G dX6_init_90 ?_
  refine k_istore_n G dX6_init_91 (by decide) rfl ?_
  refine k_iload_n G dX6_init_92 rfl ?_
  refine k_iconst G dX6_init_93 ?_
  refine k_icmp_ge G 116 dX6_init_94 (by decide) (by decide) (by decide) (fun h => absurd h (by decide)) (fun _ => ?_)
  refine k_aload_n G dX6_init_97 rfl ?_
  refine k_get G 0 0 rfl rfl inT6 (by decide) lf6_11 rfl rfl dX6_init_98 ?_
  refine k_iload_n G dX6_init_101 rfl ?_
  refine k_new G (ci := 4) (fs := [.null, .null, .null, .int 0, .int 0, .int 0]) rfl inT4 tyX4_ok fsX4 (TW_of 70 (by decide +kernel) (by decide +kernel)) (TW_of 190 (by decide +kernel) (by decide +kernel)) (TW_of 42 (by decide +kernel) (by decide +kernel)) dX6_init_102 ⟨by decide, by decide⟩ (fun b28 => ?_)
  refine k_dup G dX6_init_105 rfl ?_
  refine k_callN G (TW_of 192 (by decide +kernel) (by decide +kernel)) (TW_of 42 (by decide +kernel) (by decide +kernel)) (TW_of 193 (by decide +kernel) (by decide +kernel)) ⟨by decide +kernel, by decide +kernel, by decide +kernel⟩ rfl (List.mem_of_getElem? (i := 7) rfl) (ck_X4 b28) dX6_init_106 ⟨by decide, by decide⟩ ⟨by decide, by decide⟩ (Nat.le_of_ble_eq_true rfl) (fun tl2 h2 => ?_)
  obtain ⟨b29, b30, b31, rfl⟩ := h2
  refine k_eq (tl' := [(a, .inr (6, [.ref b1, .ref b2, .ref b7, .ref b11, .ref b16, .int 0, .int 0, .int 0, .int 0, .ref b21, .ref b23, .ref b27])), (b1, QQ (cys 3) 4 (fun _ => none)), (b2, .inr (1, [.ref b3, .ref b5, .ref b6, .int 0])), (b3, QQ (cys 4) 4 (fun i => if i < 4 then some (r4 i) else none)), ((r4 0), I0 (cys 0) 80), ((r4 1), I0 (cys 0) 80), ((r4 2), I0 (cys 0) 80), ((r4 3), I0 (cys 0) 80), (b5, I0 (cys 0) 80), (b6, I0 (cys 0) 80), (b7, .inr (5, [.ref b8, .ref b9, .ref b10, .int 0])), (b8, I0 (cys 0) 6), (b9, I0 (cys 0) 6), (b10, I0 (cys 1) 6), (b11, .inr (0, [.ref b12, .ref b14, .ref b15, .int 0, .int 0, .int 0])), (b12, .inr (3, [.ref b13, .int 0])), (b13, I0 (cys 0) 24), (b14, I0 (cys 1) 24), (b15, I0 (cys 0) 24), (b16, .inr (0, [.ref b17, .ref b19, .ref b20, .int 0, .int 0, .int 0])), (b17, .inr (3, [.ref b18, .int 0])), (b18, I0 (cys 0) 24), (b19, I0 (cys 1) 24), (b20, I0 (cys 0) 24), (b21, .inr (3, [.ref b22, .int 0])), (b22, I0 (cys 0) 24), (b23, .inr (2, [.ref b24, .ref b26])), (b24, .inr (3, [.ref b25, .int 0])), (b25, I0 (cys 0) 24), (b26, I0 (cys 0) 24), (b27, QQ (cys 4) 24 (fun i => if i < 24 then some (r27 i) else none)), ((r27 0), I0 (cys 0) 24), ((r27 1), I0 (cys 0) 24), ((r27 2), I0 (cys 0) 24), ((r27 3), I0 (cys 0) 24), ((r27 4), I0 (cys 0) 24), ((r27 5), I0 (cys 0) 24), ((r27 6), I0 (cys 0) 24), ((r27 7), I0 (cys 0) 24), ((r27 8), I0 (cys 0) 24), ((r27 9), I0 (cys 0) 24), ((r27 10), I0 (cys 0) 24), ((r27 11), I0 (cys 0) 24), ((r27 12), I0 (cys 0) 24), ((r27 13), I0 (cys 0) 24), ((r27 14), I0 (cys 0) 24), ((r27 15), I0 (cys 0) 24), ((r27 16), I0 (cys 0) 24), ((r27 17), I0 (cys 0) 24), ((r27 18), I0 (cys 0) 24), ((r27 19), I0 (cys 0) 24), ((r27 20), I0 (cys 0) 24), ((r27 21), I0 (cys 0) 24), ((r27 22), I0 (cys 0) 24), ((r27 23), I0 (cys 0) 24), (b28, .inr (4, [.ref b29, .ref b30, .ref b31, .int 0, .int 0, .int 0])), (b29, I0 (cys 0) 24), (b30, I0 (cys 0) 24), (b31, I0 (cys 1) 24)]) rfl ?_
  refine k_aastT G 1 55 0 rfl rfl (by decide +kernel) (vp_in_nI (n := 0) (by decide) (by decide)) dX6_init_109 ?_
  refine k_eq (tl' := [(a, .inr (6, [.ref b1, .ref b2, .ref b7, .ref b11, .ref b16, .int 0, .int 0, .int 0, .int 0, .ref b21, .ref b23, .ref b27])), (b1, QQ (cys 3) 4 (va_up (fun _ => none) 0 (some b28))), (b2, .inr (1, [.ref b3, .ref b5, .ref b6, .int 0])), (b3, QQ (cys 4) 4 (fun i => if i < 4 then some (r4 i) else none)), ((r4 0), I0 (cys 0) 80), ((r4 1), I0 (cys 0) 80), ((r4 2), I0 (cys 0) 80), ((r4 3), I0 (cys 0) 80), (b5, I0 (cys 0) 80), (b6, I0 (cys 0) 80), (b7, .inr (5, [.ref b8, .ref b9, .ref b10, .int 0])), (b8, I0 (cys 0) 6), (b9, I0 (cys 0) 6), (b10, I0 (cys 1) 6), (b11, .inr (0, [.ref b12, .ref b14, .ref b15, .int 0, .int 0, .int 0])), (b12, .inr (3, [.ref b13, .int 0])), (b13, I0 (cys 0) 24), (b14, I0 (cys 1) 24), (b15, I0 (cys 0) 24), (b16, .inr (0, [.ref b17, .ref b19, .ref b20, .int 0, .int 0, .int 0])), (b17, .inr (3, [.ref b18, .int 0])), (b18, I0 (cys 0) 24), (b19, I0 (cys 1) 24), (b20, I0 (cys 0) 24), (b21, .inr (3, [.ref b22, .int 0])), (b22, I0 (cys 0) 24), (b23, .inr (2, [.ref b24, .ref b26])), (b24, .inr (3, [.ref b25, .int 0])), (b25, I0 (cys 0) 24), (b26, I0 (cys 0) 24), (b27, QQ (cys 4) 24 (fun i => if i < 24 then some (r27 i) else none)), ((r27 0), I0 (cys 0) 24), ((r27 1), I0 (cys 0) 24), ((r27 2), I0 (cys 0) 24), ((r27 3), I0 (cys 0) 24), ((r27 4), I0 (cys 0) 24), ((r27 5), I0 (cys 0) 24), ((r27 6), I0 (cys 0) 24), ((r27 7), I0 (cys 0) 24), ((r27 8), I0 (cys 0) 24), ((r27 9), I0 (cys 0) 24), ((r27 10), I0 (cys 0) 24), ((r27 11), I0 (cys 0) 24), ((r27 12), I0 (cys 0) 24), ((r27 13), I0 (cys 0) 24), ((r27 14), I0 (cys 0) 24), ((r27 15), I0 (cys 0) 24), ((r27 16), I0 (cys 0) 24), ((r27 17), I0 (cys 0) 24), ((r27 18), I0 (cys 0) 24), ((r27 19), I0 (cys 0) 24), ((r27 20), I0 (cys 0) 24), ((r27 21), I0 (cys 0) 24), ((r27 22), I0 (cys 0) 24), ((r27 23), I0 (cys 0) 24), (b28, .inr (4, [.ref b29, .ref b30, .ref b31, .int 0, .int 0, .int 0])), (b29, I0 (cys 0) 24), (b30, I0 (cys 0) 24), (b31, I0 (cys 1) 24)]) rfl ?_
  refine k_iinc G dX6_init_110 rfl (by decide) rfl ?_
  refine k_goto G 92 dX6_init_113 (by decide) ?_
  refine k_iload_n G dX6_init_92 rfl ?_
  refine k_iconst G dX6_init_93 ?_
  refine k_icmp_ge G 116 dX6_init_94 (by decide) (by decide) (by decide) (fun h => absurd h (by decide)) (fun _ => ?_)
  refine k_aload_n G dX6_init_97 rfl ?_
  refine k_get G 0 0 rfl rfl inT6 (by decide) lf6_11 rfl rfl dX6_init_98 ?_
  refine k_iload_n G dX6_init_101 rfl ?_
  refine k_new G (ci := 4) (fs := [.null, .null, .null, .int 0, .int 0, .int 0]) rfl inT4 tyX4_ok fsX4 (TW_of 70 (by decide +kernel) (by decide +kernel)) (TW_of 190 (by decide +kernel) (by decide +kernel)) (TW_of 42 (by decide +kernel) (by decide +kernel)) dX6_init_102 ⟨by decide, by decide⟩ (fun b32 => ?_)
  refine k_dup G dX6_init_105 rfl ?_
  refine k_callN G (TW_of 192 (by decide +kernel) (by decide +kernel)) (TW_of 42 (by decide +kernel) (by decide +kernel)) (TW_of 193 (by decide +kernel) (by decide +kernel)) ⟨by decide +kernel, by decide +kernel, by decide +kernel⟩ rfl (List.mem_of_getElem? (i := 7) rfl) (ck_X4 b32) dX6_init_106 ⟨by decide, by decide⟩ ⟨by decide, by decide⟩ (Nat.le_of_ble_eq_true rfl) (fun tl2 h2 => ?_)
  obtain ⟨b33, b34, b35, rfl⟩ := h2
  refine k_eq (tl' := [(a, .inr (6, [.ref b1, .ref b2, .ref b7, .ref b11, .ref b16, .int 0, .int 0, .int 0, .int 0, .ref b21, .ref b23, .ref b27])), (b1, QQ (cys 3) 4 (va_up (fun _ => none) 0 (some b28))), (b2, .inr (1, [.ref b3, .ref b5, .ref b6, .int 0])), (b3, QQ (cys 4) 4 (fun i => if i < 4 then some (r4 i) else none)), ((r4 0), I0 (cys 0) 80), ((r4 1), I0 (cys 0) 80), ((r4 2), I0 (cys 0) 80), ((r4 3), I0 (cys 0) 80), (b5, I0 (cys 0) 80), (b6, I0 (cys 0) 80), (b7, .inr (5, [.ref b8, .ref b9, .ref b10, .int 0])), (b8, I0 (cys 0) 6), (b9, I0 (cys 0) 6), (b10, I0 (cys 1) 6), (b11, .inr (0, [.ref b12, .ref b14, .ref b15, .int 0, .int 0, .int 0])), (b12, .inr (3, [.ref b13, .int 0])), (b13, I0 (cys 0) 24), (b14, I0 (cys 1) 24), (b15, I0 (cys 0) 24), (b16, .inr (0, [.ref b17, .ref b19, .ref b20, .int 0, .int 0, .int 0])), (b17, .inr (3, [.ref b18, .int 0])), (b18, I0 (cys 0) 24), (b19, I0 (cys 1) 24), (b20, I0 (cys 0) 24), (b21, .inr (3, [.ref b22, .int 0])), (b22, I0 (cys 0) 24), (b23, .inr (2, [.ref b24, .ref b26])), (b24, .inr (3, [.ref b25, .int 0])), (b25, I0 (cys 0) 24), (b26, I0 (cys 0) 24), (b27, QQ (cys 4) 24 (fun i => if i < 24 then some (r27 i) else none)), ((r27 0), I0 (cys 0) 24), ((r27 1), I0 (cys 0) 24), ((r27 2), I0 (cys 0) 24), ((r27 3), I0 (cys 0) 24), ((r27 4), I0 (cys 0) 24), ((r27 5), I0 (cys 0) 24), ((r27 6), I0 (cys 0) 24), ((r27 7), I0 (cys 0) 24), ((r27 8), I0 (cys 0) 24), ((r27 9), I0 (cys 0) 24), ((r27 10), I0 (cys 0) 24), ((r27 11), I0 (cys 0) 24), ((r27 12), I0 (cys 0) 24), ((r27 13), I0 (cys 0) 24), ((r27 14), I0 (cys 0) 24), ((r27 15), I0 (cys 0) 24), ((r27 16), I0 (cys 0) 24), ((r27 17), I0 (cys 0) 24), ((r27 18), I0 (cys 0) 24), ((r27 19), I0 (cys 0) 24), ((r27 20), I0 (cys 0) 24), ((r27 21), I0 (cys 0) 24), ((r27 22), I0 (cys 0) 24), ((r27 23), I0 (cys 0) 24), (b28, .inr (4, [.ref b29, .ref b30, .ref b31, .int 0, .int 0, .int 0])), (b29, I0 (cys 0) 24), (b30, I0 (cys 0) 24), (b31, I0 (cys 1) 24), (b32, .inr (4, [.ref b33, .ref b34, .ref b35, .int 0, .int 0, .int 0])), (b33, I0 (cys 0) 24), (b34, I0 (cys 0) 24), (b35, I0 (cys 1) 24)]) rfl ?_
  refine k_aastT G 1 59 1 rfl rfl (by decide +kernel) (vp_in_nI (n := 1) (by decide) (by decide)) dX6_init_109 ?_
  refine k_eq (tl' := [(a, .inr (6, [.ref b1, .ref b2, .ref b7, .ref b11, .ref b16, .int 0, .int 0, .int 0, .int 0, .ref b21, .ref b23, .ref b27])), (b1, QQ (cys 3) 4 (va_up (va_up (fun _ => none) 0 (some b28)) 1 (some b32))), (b2, .inr (1, [.ref b3, .ref b5, .ref b6, .int 0])), (b3, QQ (cys 4) 4 (fun i => if i < 4 then some (r4 i) else none)), ((r4 0), I0 (cys 0) 80), ((r4 1), I0 (cys 0) 80), ((r4 2), I0 (cys 0) 80), ((r4 3), I0 (cys 0) 80), (b5, I0 (cys 0) 80), (b6, I0 (cys 0) 80), (b7, .inr (5, [.ref b8, .ref b9, .ref b10, .int 0])), (b8, I0 (cys 0) 6), (b9, I0 (cys 0) 6), (b10, I0 (cys 1) 6), (b11, .inr (0, [.ref b12, .ref b14, .ref b15, .int 0, .int 0, .int 0])), (b12, .inr (3, [.ref b13, .int 0])), (b13, I0 (cys 0) 24), (b14, I0 (cys 1) 24), (b15, I0 (cys 0) 24), (b16, .inr (0, [.ref b17, .ref b19, .ref b20, .int 0, .int 0, .int 0])), (b17, .inr (3, [.ref b18, .int 0])), (b18, I0 (cys 0) 24), (b19, I0 (cys 1) 24), (b20, I0 (cys 0) 24), (b21, .inr (3, [.ref b22, .int 0])), (b22, I0 (cys 0) 24), (b23, .inr (2, [.ref b24, .ref b26])), (b24, .inr (3, [.ref b25, .int 0])), (b25, I0 (cys 0) 24), (b26, I0 (cys 0) 24), (b27, QQ (cys 4) 24 (fun i => if i < 24 then some (r27 i) else none)), ((r27 0), I0 (cys 0) 24), ((r27 1), I0 (cys 0) 24), ((r27 2), I0 (cys 0) 24), ((r27 3), I0 (cys 0) 24), ((r27 4), I0 (cys 0) 24), ((r27 5), I0 (cys 0) 24), ((r27 6), I0 (cys 0) 24), ((r27 7), I0 (cys 0) 24), ((r27 8), I0 (cys 0) 24), ((r27 9), I0 (cys 0) 24), ((r27 10), I0 (cys 0) 24), ((r27 11), I0 (cys 0) 24), ((r27 12), I0 (cys 0) 24), ((r27 13), I0 (cys 0) 24), ((r27 14), I0 (cys 0) 24), ((r27 15), I0 (cys 0) 24), ((r27 16), I0 (cys 0) 24), ((r27 17), I0 (cys 0) 24), ((r27 18), I0 (cys 0) 24), ((r27 19), I0 (cys 0) 24), ((r27 20), I0 (cys 0) 24), ((r27 21), I0 (cys 0) 24), ((r27 22), I0 (cys 0) 24), ((r27 23), I0 (cys 0) 24), (b28, .inr (4, [.ref b29, .ref b30, .ref b31, .int 0, .int 0, .int 0])), (b29, I0 (cys 0) 24), (b30, I0 (cys 0) 24), (b31, I0 (cys 1) 24), (b32, .inr (4, [.ref b33, .ref b34, .ref b35, .int 0, .int 0, .int 0])), (b33, I0 (cys 0) 24), (b34, I0 (cys 0) 24), (b35, I0 (cys 1) 24)]) rfl ?_
  refine k_iinc G dX6_init_110 rfl (by decide) rfl ?_
  refine k_goto G 92 dX6_init_113 (by decide) ?_
  refine k_iload_n G dX6_init_92 rfl ?_
  refine k_iconst G dX6_init_93 ?_
  refine k_icmp_ge G 116 dX6_init_94 (by decide) (by decide) (by decide) (fun h => absurd h (by decide)) (fun _ => ?_)
  refine k_aload_n G dX6_init_97 rfl ?_
  refine k_get G 0 0 rfl rfl inT6 (by decide) lf6_11 rfl rfl dX6_init_98 ?_
  refine k_iload_n G dX6_init_101 rfl ?_
  refine k_new G (ci := 4) (fs := [.null, .null, .null, .int 0, .int 0, .int 0]) rfl inT4 tyX4_ok fsX4 (TW_of 70 (by decide +kernel) (by decide +kernel)) (TW_of 190 (by decide +kernel) (by decide +kernel)) (TW_of 42 (by decide +kernel) (by decide +kernel)) dX6_init_102 ⟨by decide, by decide⟩ (fun b36 => ?_)
  refine k_dup G dX6_init_105 rfl ?_
  refine k_callN G (TW_of 192 (by decide +kernel) (by decide +kernel)) (TW_of 42 (by decide +kernel) (by decide +kernel)) (TW_of 193 (by decide +kernel) (by decide +kernel)) ⟨by decide +kernel, by decide +kernel, by decide +kernel⟩ rfl (List.mem_of_getElem? (i := 7) rfl) (ck_X4 b36) dX6_init_106 ⟨by decide, by decide⟩ ⟨by decide, by decide⟩ (Nat.le_of_ble_eq_true rfl) (fun tl2 h2 => ?_)
  obtain ⟨b37, b38, b39, rfl⟩ := h2
  refine k_eq (tl' := [(a, .inr (6, [.ref b1, .ref b2, .ref b7, .ref b11, .ref b16, .int 0, .int 0, .int 0, .int 0, .ref b21, .ref b23, .ref b27])), (b1, QQ (cys 3) 4 (va_up (va_up (fun _ => none) 0 (some b28)) 1 (some b32))), (b2, .inr (1, [.ref b3, .ref b5, .ref b6, .int 0])), (b3, QQ (cys 4) 4 (fun i => if i < 4 then some (r4 i) else none)), ((r4 0), I0 (cys 0) 80), ((r4 1), I0 (cys 0) 80), ((r4 2), I0 (cys 0) 80), ((r4 3), I0 (cys 0) 80), (b5, I0 (cys 0) 80), (b6, I0 (cys 0) 80), (b7, .inr (5, [.ref b8, .ref b9, .ref b10, .int 0])), (b8, I0 (cys 0) 6), (b9, I0 (cys 0) 6), (b10, I0 (cys 1) 6), (b11, .inr (0, [.ref b12, .ref b14, .ref b15, .int 0, .int 0, .int 0])), (b12, .inr (3, [.ref b13, .int 0])), (b13, I0 (cys 0) 24), (b14, I0 (cys 1) 24), (b15, I0 (cys 0) 24), (b16, .inr (0, [.ref b17, .ref b19, .ref b20, .int 0, .int 0, .int 0])), (b17, .inr (3, [.ref b18, .int 0])), (b18, I0 (cys 0) 24), (b19, I0 (cys 1) 24), (b20, I0 (cys 0) 24), (b21, .inr (3, [.ref b22, .int 0])), (b22, I0 (cys 0) 24), (b23, .inr (2, [.ref b24, .ref b26])), (b24, .inr (3, [.ref b25, .int 0])), (b25, I0 (cys 0) 24), (b26, I0 (cys 0) 24), (b27, QQ (cys 4) 24 (fun i => if i < 24 then some (r27 i) else none)), ((r27 0), I0 (cys 0) 24), ((r27 1), I0 (cys 0) 24), ((r27 2), I0 (cys 0) 24), ((r27 3), I0 (cys 0) 24), ((r27 4), I0 (cys 0) 24), ((r27 5), I0 (cys 0) 24), ((r27 6), I0 (cys 0) 24), ((r27 7), I0 (cys 0) 24), ((r27 8), I0 (cys 0) 24), ((r27 9), I0 (cys 0) 24), ((r27 10), I0 (cys 0) 24), ((r27 11), I0 (cys 0) 24), ((r27 12), I0 (cys 0) 24), ((r27 13), I0 (cys 0) 24), ((r27 14), I0 (cys 0) 24), ((r27 15), I0 (cys 0) 24), ((r27 16), I0 (cys 0) 24), ((r27 17), I0 (cys 0) 24), ((r27 18), I0 (cys 0) 24), ((r27 19), I0 (cys 0) 24), ((r27 20), I0 (cys 0) 24), ((r27 21), I0 (cys 0) 24), ((r27 22), I0 (cys 0) 24), ((r27 23), I0 (cys 0) 24), (b28, .inr (4, [.ref b29, .ref b30, .ref b31, .int 0, .int 0, .int 0])), (b29, I0 (cys 0) 24), (b30, I0 (cys 0) 24), (b31, I0 (cys 1) 24), (b32, .inr (4, [.ref b33, .ref b34, .ref b35, .int 0, .int 0, .int 0])), (b33, I0 (cys 0) 24), (b34, I0 (cys 0) 24), (b35, I0 (cys 1) 24), (b36, .inr (4, [.ref b37, .ref b38, .ref b39, .int 0, .int 0, .int 0])), (b37, I0 (cys 0) 24), (b38, I0 (cys 0) 24), (b39, I0 (cys 1) 24)]) rfl ?_
  refine k_aastT G 1 63 2 rfl rfl (by decide +kernel) (vp_in_nI (n := 2) (by decide) (by decide)) dX6_init_109 ?_
  refine k_eq (tl' := [(a, .inr (6, [.ref b1, .ref b2, .ref b7, .ref b11, .ref b16, .int 0, .int 0, .int 0, .int 0, .ref b21, .ref b23, .ref b27])), (b1, QQ (cys 3) 4 (va_up (va_up (va_up (fun _ => none) 0 (some b28)) 1 (some b32)) 2 (some b36))), (b2, .inr (1, [.ref b3, .ref b5, .ref b6, .int 0])), (b3, QQ (cys 4) 4 (fun i => if i < 4 then some (r4 i) else none)), ((r4 0), I0 (cys 0) 80), ((r4 1), I0 (cys 0) 80), ((r4 2), I0 (cys 0) 80), ((r4 3), I0 (cys 0) 80), (b5, I0 (cys 0) 80), (b6, I0 (cys 0) 80), (b7, .inr (5, [.ref b8, .ref b9, .ref b10, .int 0])), (b8, I0 (cys 0) 6), (b9, I0 (cys 0) 6), (b10, I0 (cys 1) 6), (b11, .inr (0, [.ref b12, .ref b14, .ref b15, .int 0, .int 0, .int 0])), (b12, .inr (3, [.ref b13, .int 0])), (b13, I0 (cys 0) 24), (b14, I0 (cys 1) 24), (b15, I0 (cys 0) 24), (b16, .inr (0, [.ref b17, .ref b19, .ref b20, .int 0, .int 0, .int 0])), (b17, .inr (3, [.ref b18, .int 0])), (b18, I0 (cys 0) 24), (b19, I0 (cys 1) 24), (b20, I0 (cys 0) 24), (b21, .inr (3, [.ref b22, .int 0])), (b22, I0 (cys 0) 24), (b23, .inr (2, [.ref b24, .ref b26])), (b24, .inr (3, [.ref b25, .int 0])), (b25, I0 (cys 0) 24), (b26, I0 (cys 0) 24), (b27, QQ (cys 4) 24 (fun i => if i < 24 then some (r27 i) else none)), ((r27 0), I0 (cys 0) 24), ((r27 1), I0 (cys 0) 24), ((r27 2), I0 (cys 0) 24), ((r27 3), I0 (cys 0) 24), ((r27 4), I0 (cys 0) 24), ((r27 5), I0 (cys 0) 24), ((r27 6), I0 (cys 0) 24), ((r27 7), I0 (cys 0) 24), ((r27 8), I0 (cys 0) 24), ((r27 9), I0 (cys 0) 24), ((r27 10), I0 (cys 0) 24), ((r27 11), I0 (cys 0) 24), ((r27 12), I0 (cys 0) 24), ((r27 13), I0 (cys 0) 24), ((r27 14), I0 (cys 0) 24), ((r27 15), I0 (cys 0) 24), ((r27 16), I0 (cys 0) 24), ((r27 17), I0 (cys 0) 24), ((r27 18), I0 (cys 0) 24), ((r27 19), I0 (cys 0) 24), ((r27 20), I0 (cys 0) 24), ((r27 21), I0 (cys 0) 24), ((r27 22), I0 (cys 0) 24), ((r27 23), I0 (cys 0) 24), (b28, .inr (4, [.ref b29, .ref b30, .ref b31, .int 0, .int 0, .int 0])), (b29, I0 (cys 0) 24), (b30, I0 (cys 0) 24), (b31, I0 (cys 1) 24), (b32, .inr (4, [.ref b33, .ref b34, .ref b35, .int 0, .int 0, .int 0])), (b33, I0 (cys 0) 24), (b34, I0 (cys 0) 24), (b35, I0 (cys 1) 24), (b36, .inr (4, [.ref b37, .ref b38, .ref b39, .int 0, .int 0, .int 0])), (b37, I0 (cys 0) 24), (b38, I0 (cys 0) 24), (b39, I0 (cys 1) 24)]) rfl ?_
  refine k_iinc G dX6_init_110 rfl (by decide) rfl ?_
  refine k_goto G 92 dX6_init_113 (by decide) ?_
  refine k_iload_n G dX6_init_92 rfl ?_
  refine k_iconst G dX6_init_93 ?_
  refine k_icmp_ge G 116 dX6_init_94 (by decide) (by decide) (by decide) (fun h => absurd h (by decide)) (fun _ => ?_)
  refine k_aload_n G dX6_init_97 rfl ?_
  refine k_get G 0 0 rfl rfl inT6 (by decide) lf6_11 rfl rfl dX6_init_98 ?_
  refine k_iload_n G dX6_init_101 rfl ?_
  refine k_new G (ci := 4) (fs := [.null, .null, .null, .int 0, .int 0, .int 0]) rfl inT4 tyX4_ok fsX4 (TW_of 70 (by decide +kernel) (by decide +kernel)) (TW_of 190 (by decide +kernel) (by decide +kernel)) (TW_of 42 (by decide +kernel) (by decide +kernel)) dX6_init_102 ⟨by decide, by decide⟩ (fun b40 => ?_)
  refine k_dup G dX6_init_105 rfl ?_
  refine k_callN G (TW_of 192 (by decide +kernel) (by decide +kernel)) (TW_of 42 (by decide +kernel) (by decide +kernel)) (TW_of 193 (by decide +kernel) (by decide +kernel)) ⟨by decide +kernel, by decide +kernel, by decide +kernel⟩ rfl (List.mem_of_getElem? (i := 7) rfl) (ck_X4 b40) dX6_init_106 ⟨by decide, by decide⟩ ⟨by decide, by decide⟩ (Nat.le_of_ble_eq_true rfl) (fun tl2 h2 => ?_)
  obtain ⟨b41, b42, b43, rfl⟩ := h2
  refine k_eq (tl' := [(a, .inr (6, [.ref b1, .ref b2, .ref b7, .ref b11, .ref b16, .int 0, .int 0, .int 0, .int 0, .ref b21, .ref b23, .ref b27])), (b1, QQ (cys 3) 4 (va_up (va_up (va_up (fun _ => none) 0 (some b28)) 1 (some b32)) 2 (some b36))), (b2, .inr (1, [.ref b3, .ref b5, .ref b6, .int 0])), (b3, QQ (cys 4) 4 (fun i => if i < 4 then some (r4 i) else none)), ((r4 0), I0 (cys 0) 80), ((r4 1), I0 (cys 0) 80), ((r4 2), I0 (cys 0) 80), ((r4 3), I0 (cys 0) 80), (b5, I0 (cys 0) 80), (b6, I0 (cys 0) 80), (b7, .inr (5, [.ref b8, .ref b9, .ref b10, .int 0])), (b8, I0 (cys 0) 6), (b9, I0 (cys 0) 6), (b10, I0 (cys 1) 6), (b11, .inr (0, [.ref b12, .ref b14, .ref b15, .int 0, .int 0, .int 0])), (b12, .inr (3, [.ref b13, .int 0])), (b13, I0 (cys 0) 24), (b14, I0 (cys 1) 24), (b15, I0 (cys 0) 24), (b16, .inr (0, [.ref b17, .ref b19, .ref b20, .int 0, .int 0, .int 0])), (b17, .inr (3, [.ref b18, .int 0])), (b18, I0 (cys 0) 24), (b19, I0 (cys 1) 24), (b20, I0 (cys 0) 24), (b21, .inr (3, [.ref b22, .int 0])), (b22, I0 (cys 0) 24), (b23, .inr (2, [.ref b24, .ref b26])), (b24, .inr (3, [.ref b25, .int 0])), (b25, I0 (cys 0) 24), (b26, I0 (cys 0) 24), (b27, QQ (cys 4) 24 (fun i => if i < 24 then some (r27 i) else none)), ((r27 0), I0 (cys 0) 24), ((r27 1), I0 (cys 0) 24), ((r27 2), I0 (cys 0) 24), ((r27 3), I0 (cys 0) 24), ((r27 4), I0 (cys 0) 24), ((r27 5), I0 (cys 0) 24), ((r27 6), I0 (cys 0) 24), ((r27 7), I0 (cys 0) 24), ((r27 8), I0 (cys 0) 24), ((r27 9), I0 (cys 0) 24), ((r27 10), I0 (cys 0) 24), ((r27 11), I0 (cys 0) 24), ((r27 12), I0 (cys 0) 24), ((r27 13), I0 (cys 0) 24), ((r27 14), I0 (cys 0) 24), ((r27 15), I0 (cys 0) 24), ((r27 16), I0 (cys 0) 24), ((r27 17), I0 (cys 0) 24), ((r27 18), I0 (cys 0) 24), ((r27 19), I0 (cys 0) 24), ((r27 20), I0 (cys 0) 24), ((r27 21), I0 (cys 0) 24), ((r27 22), I0 (cys 0) 24), ((r27 23), I0 (cys 0) 24), (b28, .inr (4, [.ref b29, .ref b30, .ref b31, .int 0, .int 0, .int 0])), (b29, I0 (cys 0) 24), (b30, I0 (cys 0) 24), (b31, I0 (cys 1) 24), (b32, .inr (4, [.ref b33, .ref b34, .ref b35, .int 0, .int 0, .int 0])), (b33, I0 (cys 0) 24), (b34, I0 (cys 0) 24), (b35, I0 (cys 1) 24), (b36, .inr (4, [.ref b37, .ref b38, .ref b39, .int 0, .int 0, .int 0])), (b37, I0 (cys 0) 24), (b38, I0 (cys 0) 24), (b39, I0 (cys 1) 24), (b40, .inr (4, [.ref b41, .ref b42, .ref b43, .int 0, .int 0, .int 0])), (b41, I0 (cys 0) 24), (b42, I0 (cys 0) 24), (b43, I0 (cys 1) 24)]) rfl ?_
  refine k_aastT G 1 67 3 rfl rfl (by decide +kernel) (vp_in_nI (n := 3) (by decide) (by decide)) dX6_init_109 ?_
  refine k_eq (tl' := [(a, .inr (6, [.ref b1, .ref b2, .ref b7, .ref b11, .ref b16, .int 0, .int 0, .int 0, .int 0, .ref b21, .ref b23, .ref b27])), (b1, QQ (cys 3) 4 (va_up (va_up (va_up (va_up (fun _ => none) 0 (some b28)) 1 (some b32)) 2 (some b36)) 3 (some b40))), (b2, .inr (1, [.ref b3, .ref b5, .ref b6, .int 0])), (b3, QQ (cys 4) 4 (fun i => if i < 4 then some (r4 i) else none)), ((r4 0), I0 (cys 0) 80), ((r4 1), I0 (cys 0) 80), ((r4 2), I0 (cys 0) 80), ((r4 3), I0 (cys 0) 80), (b5, I0 (cys 0) 80), (b6, I0 (cys 0) 80), (b7, .inr (5, [.ref b8, .ref b9, .ref b10, .int 0])), (b8, I0 (cys 0) 6), (b9, I0 (cys 0) 6), (b10, I0 (cys 1) 6), (b11, .inr (0, [.ref b12, .ref b14, .ref b15, .int 0, .int 0, .int 0])), (b12, .inr (3, [.ref b13, .int 0])), (b13, I0 (cys 0) 24), (b14, I0 (cys 1) 24), (b15, I0 (cys 0) 24), (b16, .inr (0, [.ref b17, .ref b19, .ref b20, .int 0, .int 0, .int 0])), (b17, .inr (3, [.ref b18, .int 0])), (b18, I0 (cys 0) 24), (b19, I0 (cys 1) 24), (b20, I0 (cys 0) 24), (b21, .inr (3, [.ref b22, .int 0])), (b22, I0 (cys 0) 24), (b23, .inr (2, [.ref b24, .ref b26])), (b24, .inr (3, [.ref b25, .int 0])), (b25, I0 (cys 0) 24), (b26, I0 (cys 0) 24), (b27, QQ (cys 4) 24 (fun i => if i < 24 then some (r27 i) else none)), ((r27 0), I0 (cys 0) 24), ((r27 1), I0 (cys 0) 24), ((r27 2), I0 (cys 0) 24), ((r27 3), I0 (cys 0) 24), ((r27 4), I0 (cys 0) 24), ((r27 5), I0 (cys 0) 24), ((r27 6), I0 (cys 0) 24), ((r27 7), I0 (cys 0) 24), ((r27 8), I0 (cys 0) 24), ((r27 9), I0 (cys 0) 24), ((r27 10), I0 (cys 0) 24), ((r27 11), I0 (cys 0) 24), ((r27 12), I0 (cys 0) 24), ((r27 13), I0 (cys 0) 24), ((r27 14), I0 (cys 0) 24), ((r27 15), I0 (cys 0) 24), ((r27 16), I0 (cys 0) 24), ((r27 17), I0 (cys 0) 24), ((r27 18), I0 (cys 0) 24), ((r27 19), I0 (cys 0) 24), ((r27 20), I0 (cys 0) 24), ((r27 21), I0 (cys 0) 24), ((r27 22), I0 (cys 0) 24), ((r27 23), I0 (cys 0) 24), (b28, .inr (4, [.ref b29, .ref b30, .ref b31, .int 0, .int 0, .int 0])), (b29, I0 (cys 0) 24), (b30, I0 (cys 0) 24), (b31, I0 (cys 1) 24), (b32, .inr (4, [.ref b33, .ref b34, .ref b35, .int 0, .int 0, .int 0])), (b33, I0 (cys 0) 24), (b34, I0 (cys 0) 24), (b35, I0 (cys 1) 24), (b36, .inr (4, [.ref b37, .ref b38, .ref b39, .int 0, .int 0, .int 0])), (b37, I0 (cys 0) 24), (b38, I0 (cys 0) 24), (b39, I0 (cys 1) 24), (b40, .inr (4, [.ref b41, .ref b42, .ref b43, .int 0, .int 0, .int 0])), (b41, I0 (cys 0) 24), (b42, I0 (cys 0) 24), (b43, I0 (cys 1) 24)]) rfl ?_
  refine k_iinc G dX6_init_110 rfl (by decide) rfl ?_
  refine k_goto G 92 dX6_init_113 (by decide) ?_
  refine k_iload_n G dX6_init_92 rfl ?_
  refine k_iconst G dX6_init_93 ?_
  refine k_icmp_ge G 116 dX6_init_94 (by decide) (by decide) (by decide) (fun _ => ?_) (fun h => absurd h (by decide))
  refine k_ret G hr dX6_init_116 (by decide) (by decide) ?_
  exact ⟨b1, b2, b3, r4, b5, b6, b7, b8, b9, b10, b11, b12, b13, b14, b15, b16, b17, b18, b19, b20, b21, b22, b23, b24, b25, b26, b27, r27, b28, b29, b30, b31, b32, b33, b34, b35, b36, b37, b38, b39, b40, b41, b42, b43, rfl⟩
