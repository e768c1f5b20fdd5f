theorem dX4_has_0 : decode cX4_has 0 = .ok (.iload_n 1, 1) := by decide +kernel
theorem dX4_has_1 : decode cX4_has 1 = .ok (.ifCond .lt 15, 3) := by decide +kernel
theorem dX4_has_4 : decode cX4_has 4 = .ok (.iload_n 1, 1) := by decide +kernel
theorem dX4_has_5 : decode cX4_has 5 = .ok (.aload_n 0, 1) := by decide +kernel
theorem dX4_has_6 : decode cX4_has 6 = .ok (.getfield 26, 3) := by decide +kernel
theorem dX4_has_9 : decode cX4_has 9 = .ok (.if_icmp .ge 7, 3) := by decide +kernel
theorem dX4_has_12 : decode cX4_has 12 = .ok (.iconst 1, 1) := by decide +kernel
theorem dX4_has_13 : decode cX4_has 13 = .ok (.goto 4, 3) := by decide +kernel
theorem dX4_has_16 : decode cX4_has 16 = .ok (.iconst 0, 1) := by decide +kernel
theorem dX4_has_17 : decode cX4_has 17 = .ok (.ireturn, 1) := by decide +kernel
theorem dX4_isFull_0 : decode cX4_isFull 0 = .ok (.aload_n 0, 1) := by decide +kernel
theorem dX4_isFull_1 : decode cX4_isFull 1 = .ok (.getfield 26, 3) := by decide +kernel
theorem dX4_isFull_4 : decode cX4_isFull 4 = .ok (.bipush 24, 2) := by decide +kernel
theorem dX4_isFull_6 : decode cX4_isFull 6 = .ok (.if_icmp .lt 7, 3) := by decide +kernel
theorem dX4_isFull_9 : decode cX4_isFull 9 = .ok (.iconst 1, 1) := by decide +kernel
theorem dX4_isFull_10 : decode cX4_isFull 10 = .ok (.goto 4, 3) := by decide +kernel
theorem dX4_isFull_13 : decode cX4_isFull 13 = .ok (.iconst 0, 1) := by decide +kernel
theorem dX4_isFull_14 : decode cX4_isFull 14 = .ok (.ireturn, 1) := by decide +kernel
theorem dX4_aboveOn_0 : decode cX4_aboveOn 0 = .ok (.iload_n 1, 1) := by decide +kernel
theorem dX4_aboveOn_1 : decode cX4_aboveOn 1 = .ok (.istore_n 3, 1) := by decide +kernel
theorem dX4_aboveOn_2 : decode cX4_aboveOn 2 = .ok (.iconst 0, 1) := by decide +kernel
theorem dX4_aboveOn_3 : decode cX4_aboveOn 3 = .ok (.istore 4, 2) := by decide +kernel
theorem dX4_aboveOn_5 : decode cX4_aboveOn 5 = .ok (.iload 4, 2) := by decide +kernel
theorem dX4_aboveOn_7 : decode cX4_aboveOn 7 = .ok (.iconst 3, 1) := by decide +kernel
theorem dX4_aboveOn_8 : decode cX4_aboveOn 8 = .ok (.if_icmp .ge 34, 3) := by decide +kernel
theorem dX4_aboveOn_11 : decode cX4_aboveOn 11 = .ok (.aload_n 0, 1) := by decide +kernel
theorem dX4_aboveOn_12 : decode cX4_aboveOn 12 = .ok (.iload_n 3, 1) := by decide +kernel
theorem dX4_aboveOn_13 : decode cX4_aboveOn 13 = .ok (.invokevirtual 29, 3) := by decide +kernel
theorem dX4_aboveOn_16 : decode cX4_aboveOn 16 = .ok (.ifCond .eq 26, 3) := by decide +kernel
theorem dX4_aboveOn_19 : decode cX4_aboveOn 19 = .ok (.aload_n 0, 1) := by decide +kernel
theorem dX4_aboveOn_20 : decode cX4_aboveOn 20 = .ok (.getfield 15, 3) := by decide +kernel
theorem dX4_aboveOn_23 : decode cX4_aboveOn 23 = .ok (.iload_n 3, 1) := by decide +kernel
theorem dX4_aboveOn_24 : decode cX4_aboveOn 24 = .ok (.iaload, 1) := by decide +kernel
theorem dX4_aboveOn_25 : decode cX4_aboveOn 25 = .ok (.iload_n 2, 1) := by decide +kernel
theorem dX4_aboveOn_26 : decode cX4_aboveOn 26 = .ok (.if_icmp .le 16, 3) := by decide +kernel
theorem dX4_aboveOn_29 : decode cX4_aboveOn 29 = .ok (.aload_n 0, 1) := by decide +kernel
theorem dX4_aboveOn_30 : decode cX4_aboveOn 30 = .ok (.getfield 9, 3) := by decide +kernel
theorem dX4_aboveOn_33 : decode cX4_aboveOn 33 = .ok (.iload_n 3, 1) := by decide +kernel
theorem dX4_aboveOn_34 : decode cX4_aboveOn 34 = .ok (.iaload, 1) := by decide +kernel
theorem dX4_aboveOn_35 : decode cX4_aboveOn 35 = .ok (.istore_n 3, 1) := by decide +kernel
theorem dX4_aboveOn_36 : decode cX4_aboveOn 36 = .ok (.iinc 4 1, 3) := by decide +kernel
theorem dX4_aboveOn_39 : decode cX4_aboveOn 39 = .ok (.goto (-34), 3) := by decide +kernel
theorem dX4_aboveOn_42 : decode cX4_aboveOn 42 = .ok (.iload_n 3, 1) := by decide +kernel
theorem dX4_aboveOn_43 : decode cX4_aboveOn 43 = .ok (.ireturn, 1) := by decide +kernel
theorem dX4_plant_0 : decode cX4_plant 0 = .ok (.aload_n 0, 1) := by decide +kernel
theorem dX4_plant_1 : decode cX4_plant 1 = .ok (.iload_n 1, 1) := by decide +kernel
theorem dX4_plant_2 : decode cX4_plant 2 = .ok (.putfield 22, 3) := by decide +kernel
theorem dX4_plant_5 : decode cX4_plant 5 = .ok (.aload_n 0, 1) := by decide +kernel
theorem dX4_plant_6 : decode cX4_plant 6 = .ok (.getfield 9, 3) := by decide +kernel
theorem dX4_plant_9 : decode cX4_plant 9 = .ok (.iconst 0, 1) := by decide +kernel
theorem dX4_plant_10 : decode cX4_plant 10 = .ok (.iconst (-1), 1) := by decide +kernel
theorem dX4_plant_11 : decode cX4_plant 11 = .ok (.iastore, 1) := by decide +kernel
theorem dX4_plant_12 : decode cX4_plant 12 = .ok (.aload_n 0, 1) := by decide +kernel
theorem dX4_plant_13 : decode cX4_plant 13 = .ok (.iconst 1, 1) := by decide +kernel
theorem dX4_plant_14 : decode cX4_plant 14 = .ok (.putfield 26, 3) := by decide +kernel
theorem dX4_plant_17 : decode cX4_plant 17 = .ok (.return_, 1) := by decide +kernel
theorem dX4_isLeaf_0 : decode cX4_isLeaf 0 = .ok (.aload_n 0, 1) := by decide +kernel
theorem dX4_isLeaf_1 : decode cX4_isLeaf 1 = .ok (.iload_n 1, 1) := by decide +kernel
theorem dX4_isLeaf_2 : decode cX4_isLeaf 2 = .ok (.invokevirtual 29, 3) := by decide +kernel
theorem dX4_isLeaf_5 : decode cX4_isLeaf 5 = .ok (.ifCond .eq 20, 3) := by decide +kernel
theorem dX4_isLeaf_8 : decode cX4_isLeaf 8 = .ok (.aload_n 0, 1) := by decide +kernel
theorem dX4_isLeaf_9 : decode cX4_isLeaf 9 = .ok (.getfield 15, 3) := by decide +kernel
theorem dX4_isLeaf_12 : decode cX4_isLeaf 12 = .ok (.iload_n 1, 1) := by decide +kernel
theorem dX4_isLeaf_13 : decode cX4_isLeaf 13 = .ok (.iaload, 1) := by decide +kernel
theorem dX4_isLeaf_14 : decode cX4_isLeaf 14 = .ok (.aload_n 0, 1) := by decide +kernel
theorem dX4_isLeaf_15 : decode cX4_isLeaf 15 = .ok (.getfield 22, 3) := by decide +kernel
theorem dX4_isLeaf_18 : decode cX4_isLeaf 18 = .ok (.if_icmp .ne 7, 3) := by decide +kernel
theorem dX4_isLeaf_21 : decode cX4_isLeaf 21 = .ok (.iconst 1, 1) := by decide +kernel
theorem dX4_isLeaf_22 : decode cX4_isLeaf 22 = .ok (.goto 4, 3) := by decide +kernel
theorem dX4_isLeaf_25 : decode cX4_isLeaf 25 = .ok (.iconst 0, 1) := by decide +kernel
theorem dX4_isLeaf_26 : decode cX4_isLeaf 26 = .ok (.ireturn, 1) := by decide +kernel
theorem dX4_grow_0 : decode cX4_grow 0 = .ok (.aload_n 0, 1) := by decide +kernel
theorem dX4_grow_1 : decode cX4_grow 1 = .ok (.iload_n 1, 1) := by decide +kernel
theorem dX4_grow_2 : decode cX4_grow 2 = .ok (.invokevirtual 29, 3) := by decide +kernel
theorem dX4_grow_5 : decode cX4_grow 5 = .ok (.ifCond .eq 10, 3) := by decide +kernel
theorem dX4_grow_8 : decode cX4_grow 8 = .ok (.aload_n 0, 1) := by decide +kernel
theorem dX4_grow_9 : decode cX4_grow 9 = .ok (.invokevirtual 33, 3) := by decide +kernel
theorem dX4_grow_12 : decode cX4_grow 12 = .ok (.ifCond .eq 5, 3) := by decide +kernel
theorem dX4_grow_15 : decode cX4_grow 15 = .ok (.iconst (-1), 1) := by decide +kernel
theorem dX4_grow_16 : decode cX4_grow 16 = .ok (.ireturn, 1) := by decide +kernel
theorem dX4_grow_17 : decode cX4_grow 17 = .ok (.aload_n 0, 1) := by decide +kernel
theorem dX4_grow_18 : decode cX4_grow 18 = .ok (.getfield 26, 3) := by decide +kernel
theorem dX4_grow_21 : decode cX4_grow 21 = .ok (.istore_n 2, 1) := by decide +kernel
theorem dX4_grow_22 : decode cX4_grow 22 = .ok (.aload_n 0, 1) := by decide +kernel
theorem dX4_grow_23 : decode cX4_grow 23 = .ok (.getfield 9, 3) := by decide +kernel
theorem dX4_grow_26 : decode cX4_grow 26 = .ok (.iload_n 2, 1) := by decide +kernel
theorem dX4_grow_27 : decode cX4_grow 27 = .ok (.iload_n 1, 1) := by decide +kernel
theorem dX4_grow_28 : decode cX4_grow 28 = .ok (.iastore, 1) := by decide +kernel
theorem dX4_grow_29 : decode cX4_grow 29 = .ok (.aload_n 0, 1) := by decide +kernel
theorem dX4_grow_30 : decode cX4_grow 30 = .ok (.getfield 15, 3) := by decide +kernel
theorem dX4_grow_33 : decode cX4_grow 33 = .ok (.iload_n 2, 1) := by decide +kernel
theorem dX4_grow_34 : decode cX4_grow 34 = .ok (.aload_n 0, 1) := by decide +kernel
theorem dX4_grow_35 : decode cX4_grow 35 = .ok (.getfield 15, 3) := by decide +kernel
theorem dX4_grow_38 : decode cX4_grow 38 = .ok (.iload_n 1, 1) := by decide +kernel
theorem dX4_grow_39 : decode cX4_grow 39 = .ok (.iaload, 1) := by decide +kernel
theorem dX4_grow_40 : decode cX4_grow 40 = .ok (.iconst 1, 1) := by decide +kernel
theorem dX4_grow_41 : decode cX4_grow 41 = .ok (.iadd, 1) := by decide +kernel
theorem dX4_grow_42 : decode cX4_grow 42 = .ok (.iastore, 1) := by decide +kernel
theorem dX4_grow_43 : decode cX4_grow 43 = .ok (.aload_n 0, 1) := by decide +kernel
theorem dX4_grow_44 : decode cX4_grow 44 = .ok (.dup, 1) := by decide +kernel
theorem dX4_grow_45 : decode cX4_grow 45 = .ok (.getfield 26, 3) := by decide +kernel
theorem dX4_grow_48 : decode cX4_grow 48 = .ok (.iconst 1, 1) := by decide +kernel
theorem dX4_grow_49 : decode cX4_grow 49 = .ok (.iadd, 1) := by decide +kernel
theorem dX4_grow_50 : decode cX4_grow 50 = .ok (.putfield 26, 3) := by decide +kernel
theorem dX4_grow_53 : decode cX4_grow 53 = .ok (.iload_n 2, 1) := by decide +kernel
theorem dX4_grow_54 : decode cX4_grow 54 = .ok (.ireturn, 1) := by decide +kernel
theorem dX4_leaveNothingOut_0 : decode cX4_leaveNothingOut 0 = .ok (.iconst 0, 1) := by decide +kernel
theorem dX4_leaveNothingOut_1 : decode cX4_leaveNothingOut 1 = .ok (.istore_n 1, 1) := by decide +kernel
theorem dX4_leaveNothingOut_2 : decode cX4_leaveNothingOut 2 = .ok (.iload_n 1, 1) := by decide +kernel
theorem dX4_leaveNothingOut_3 : decode cX4_leaveNothingOut 3 = .ok (.bipush 24, 2) := by decide +kernel
theorem dX4_leaveNothingOut_5 : decode cX4_leaveNothingOut 5 = .ok (.if_icmp .ge 16, 3) := by decide +kernel
theorem dX4_leaveNothingOut_8 : decode cX4_leaveNothingOut 8 = .ok (.aload_n 0, 1) := by decide +kernel
theorem dX4_leaveNothingOut_9 : decode cX4_leaveNothingOut 9 = .ok (.getfield 18, 3) := by decide +kernel
theorem dX4_leaveNothingOut_12 : decode cX4_leaveNothingOut 12 = .ok (.iload_n 1, 1) := by decide +kernel
theorem dX4_leaveNothingOut_13 : decode cX4_leaveNothingOut 13 = .ok (.iconst 0, 1) := by decide +kernel
theorem dX4_leaveNothingOut_14 : decode cX4_leaveNothingOut 14 = .ok (.bastore, 1) := by decide +kernel
theorem dX4_leaveNothingOut_15 : decode cX4_leaveNothingOut 15 = .ok (.iinc 1 1, 3) := by decide +kernel
theorem dX4_leaveNothingOut_18 : decode cX4_leaveNothingOut 18 = .ok (.goto (-16), 3) := by decide +kernel
theorem dX4_leaveNothingOut_21 : decode cX4_leaveNothingOut 21 = .ok (.return_, 1) := by decide +kernel
theorem dX4_depthOfChildren_0 : decode cX4_depthOfChildren 0 = .ok (.aload_n 0, 1) := by decide +kernel
theorem dX4_depthOfChildren_1 : decode cX4_depthOfChildren 1 = .ok (.aload_n 0, 1) := by decide +kernel
theorem dX4_depthOfChildren_2 : decode cX4_depthOfChildren 2 = .ok (.getfield 37, 3) := by decide +kernel
theorem dX4_depthOfChildren_5 : decode cX4_depthOfChildren 5 = .ok (.invokevirtual 29, 3) := by decide +kernel
theorem dX4_depthOfChildren_8 : decode cX4_depthOfChildren 8 = .ok (.ifCond .eq 17, 3) := by decide +kernel
theorem dX4_depthOfChildren_11 : decode cX4_depthOfChildren 11 = .ok (.aload_n 0, 1) := by decide +kernel
theorem dX4_depthOfChildren_12 : decode cX4_depthOfChildren 12 = .ok (.getfield 15, 3) := by decide +kernel
theorem dX4_depthOfChildren_15 : decode cX4_depthOfChildren 15 = .ok (.aload_n 0, 1) := by decide +kernel
theorem dX4_depthOfChildren_16 : decode cX4_depthOfChildren 16 = .ok (.getfield 37, 3) := by decide +kernel
theorem dX4_depthOfChildren_19 : decode cX4_depthOfChildren 19 = .ok (.iaload, 1) := by decide +kernel
theorem dX4_depthOfChildren_20 : decode cX4_depthOfChildren 20 = .ok (.iconst 1, 1) := by decide +kernel
theorem dX4_depthOfChildren_21 : decode cX4_depthOfChildren 21 = .ok (.iadd, 1) := by decide +kernel
theorem dX4_depthOfChildren_22 : decode cX4_depthOfChildren 22 = .ok (.goto 4, 3) := by decide +kernel
theorem dX4_depthOfChildren_25 : decode cX4_depthOfChildren 25 = .ok (.iconst 0, 1) := by decide +kernel
theorem dX4_depthOfChildren_26 : decode cX4_depthOfChildren 26 = .ok (.ireturn, 1) := by decide +kernel
theorem dX4_childFrom_0 : decode cX4_childFrom 0 = .ok (.iload_n 2, 1) := by decide +kernel
theorem dX4_childFrom_1 : decode cX4_childFrom 1 = .ok (.istore_n 3, 1) := by decide +kernel
theorem dX4_childFrom_2 : decode cX4_childFrom 2 = .ok (.iload_n 3, 1) := by decide +kernel
theorem dX4_childFrom_3 : decode cX4_childFrom 3 = .ok (.aload_n 0, 1) := by decide +kernel
theorem dX4_childFrom_4 : decode cX4_childFrom 4 = .ok (.getfield 26, 3) := by decide +kernel
theorem dX4_childFrom_7 : decode cX4_childFrom 7 = .ok (.if_icmp .ge 21, 3) := by decide +kernel
theorem dX4_childFrom_10 : decode cX4_childFrom 10 = .ok (.aload_n 0, 1) := by decide +kernel
theorem dX4_childFrom_11 : decode cX4_childFrom 11 = .ok (.getfield 9, 3) := by decide +kernel
theorem dX4_childFrom_14 : decode cX4_childFrom 14 = .ok (.iload_n 3, 1) := by decide +kernel
theorem dX4_childFrom_15 : decode cX4_childFrom 15 = .ok (.iaload, 1) := by decide +kernel
theorem dX4_childFrom_16 : decode cX4_childFrom 16 = .ok (.iload_n 1, 1) := by decide +kernel
theorem dX4_childFrom_17 : decode cX4_childFrom 17 = .ok (.if_icmp .ne 5, 3) := by decide +kernel
theorem dX4_childFrom_20 : decode cX4_childFrom 20 = .ok (.iload_n 3, 1) := by decide +kernel
theorem dX4_childFrom_21 : decode cX4_childFrom 21 = .ok (.ireturn, 1) := by decide +kernel
theorem dX4_childFrom_22 : decode cX4_childFrom 22 = .ok (.iinc 3 1, 3) := by decide +kernel
theorem dX4_childFrom_25 : decode cX4_childFrom 25 = .ok (.goto (-23), 3) := by decide +kernel
theorem dX4_childFrom_28 : decode cX4_childFrom 28 = .ok (.iconst (-1), 1) := by decide +kernel
theorem dX4_childFrom_29 : decode cX4_childFrom 29 = .ok (.ireturn, 1) := by decide +kernel
theorem dX4_nextInWalk_0 : decode cX4_nextInWalk 0 = .ok (.aload_n 0, 1) := by decide +kernel
theorem dX4_nextInWalk_1 : decode cX4_nextInWalk 1 = .ok (.iload_n 1, 1) := by decide +kernel
theorem dX4_nextInWalk_2 : decode cX4_nextInWalk 2 = .ok (.iconst 0, 1) := by decide +kernel
theorem dX4_nextInWalk_3 : decode cX4_nextInWalk 3 = .ok (.invokevirtual 51, 3) := by decide +kernel
theorem dX4_nextInWalk_6 : decode cX4_nextInWalk 6 = .ok (.istore_n 3, 1) := by decide +kernel
theorem dX4_nextInWalk_7 : decode cX4_nextInWalk 7 = .ok (.iload_n 1, 1) := by decide +kernel
theorem dX4_nextInWalk_8 : decode cX4_nextInWalk 8 = .ok (.istore 4, 2) := by decide +kernel
theorem dX4_nextInWalk_10 : decode cX4_nextInWalk 10 = .ok (.iconst 0, 1) := by decide +kernel
theorem dX4_nextInWalk_11 : decode cX4_nextInWalk 11 = .ok (.istore 5, 2) := by decide +kernel
theorem dX4_nextInWalk_13 : decode cX4_nextInWalk 13 = .ok (.iload 5, 2) := by decide +kernel
theorem dX4_nextInWalk_15 : decode cX4_nextInWalk 15 = .ok (.iconst 3, 1) := by decide +kernel
theorem dX4_nextInWalk_16 : decode cX4_nextInWalk 16 = .ok (.if_icmp .ge 54, 3) := by decide +kernel
theorem dX4_nextInWalk_19 : decode cX4_nextInWalk 19 = .ok (.iload_n 3, 1) := by decide +kernel
theorem dX4_nextInWalk_20 : decode cX4_nextInWalk 20 = .ok (.iconst (-1), 1) := by decide +kernel
theorem dX4_nextInWalk_21 : decode cX4_nextInWalk 21 = .ok (.if_icmp .ne 49, 3) := by decide +kernel
theorem dX4_nextInWalk_24 : decode cX4_nextInWalk 24 = .ok (.iload 4, 2) := by decide +kernel
theorem dX4_nextInWalk_26 : decode cX4_nextInWalk 26 = .ok (.iload_n 2, 1) := by decide +kernel
theorem dX4_nextInWalk_27 : decode cX4_nextInWalk 27 = .ok (.if_icmp .eq 43, 3) := by decide +kernel
theorem dX4_nextInWalk_30 : decode cX4_nextInWalk 30 = .ok (.aload_n 0, 1) := by decide +kernel
theorem dX4_nextInWalk_31 : decode cX4_nextInWalk 31 = .ok (.iload 4, 2) := by decide +kernel
theorem dX4_nextInWalk_33 : decode cX4_nextInWalk 33 = .ok (.invokevirtual 29, 3) := by decide +kernel
theorem dX4_nextInWalk_36 : decode cX4_nextInWalk 36 = .ok (.ifCond .eq 34, 3) := by decide +kernel
theorem dX4_nextInWalk_39 : decode cX4_nextInWalk 39 = .ok (.aload_n 0, 1) := by decide +kernel
theorem dX4_nextInWalk_40 : decode cX4_nextInWalk 40 = .ok (.aload_n 0, 1) := by decide +kernel
theorem dX4_nextInWalk_41 : decode cX4_nextInWalk 41 = .ok (.getfield 9, 3) := by decide +kernel
theorem dX4_nextInWalk_44 : decode cX4_nextInWalk 44 = .ok (.iload 4, 2) := by decide +kernel
theorem dX4_nextInWalk_46 : decode cX4_nextInWalk 46 = .ok (.iaload, 1) := by decide +kernel
theorem dX4_nextInWalk_47 : decode cX4_nextInWalk 47 = .ok (.iload 4, 2) := by decide +kernel
theorem dX4_nextInWalk_49 : decode cX4_nextInWalk 49 = .ok (.iconst 1, 1) := by decide +kernel
theorem dX4_nextInWalk_50 : decode cX4_nextInWalk 50 = .ok (.iadd, 1) := by decide +kernel
theorem dX4_nextInWalk_51 : decode cX4_nextInWalk 51 = .ok (.invokevirtual 51, 3) := by decide +kernel
theorem dX4_nextInWalk_54 : decode cX4_nextInWalk 54 = .ok (.istore_n 3, 1) := by decide +kernel
theorem dX4_nextInWalk_55 : decode cX4_nextInWalk 55 = .ok (.aload_n 0, 1) := by decide +kernel
theorem dX4_nextInWalk_56 : decode cX4_nextInWalk 56 = .ok (.getfield 9, 3) := by decide +kernel
theorem dX4_nextInWalk_59 : decode cX4_nextInWalk 59 = .ok (.iload 4, 2) := by decide +kernel
theorem dX4_nextInWalk_61 : decode cX4_nextInWalk 61 = .ok (.iaload, 1) := by decide +kernel
theorem dX4_nextInWalk_62 : decode cX4_nextInWalk 62 = .ok (.istore 4, 2) := by decide +kernel
theorem dX4_nextInWalk_64 : decode cX4_nextInWalk 64 = .ok (.iinc 5 1, 3) := by decide +kernel
theorem dX4_nextInWalk_67 : decode cX4_nextInWalk 67 = .ok (.goto (-54), 3) := by decide +kernel
theorem dX4_nextInWalk_70 : decode cX4_nextInWalk 70 = .ok (.iload_n 3, 1) := by decide +kernel
theorem dX4_nextInWalk_71 : decode cX4_nextInWalk 71 = .ok (.ireturn, 1) := by decide +kernel
/-! by program: wip/whole/gen.py out of wip/whole/src/11.tree.eb -/
/-! Tree: place d of kind 2 -/
set_option maxRecDepth 100000 in
set_option maxHeartbeats 8000000 in
theorem c_X4_has {l : Launch} {D : va_G} {cys : Nat → ClassId} {ad : Nat → Int → Nat} {L : List Nat} {g : Nat → va_E} {X : Int64} {Z : ZT} (hi : injA ad) {d q : Int} (hd : vd 2 d) (hq : inR q) (hs : inR (Z 2 d 4)) : CM l D cys ad yX4_has cX4_has 2 (some .boolean) 0 0 0 0 [.ref (ad 2 d), .int (iI q)] L g X Z (PI L g X Z (fun r => (r = 1 ∧ 0 ≤ q ∧ q < Z 2 d 4) ∨ (r = 0 ∧ ¬ (0 ≤ q ∧ q < Z 2 d 4)))) := by
  refine cm_start hi (by decide +kernel) (Nat.le_of_ble_eq_true rfl) ?_
  intro p_ e_ s_ m_ args_ below_ meth_ c_ A_ Q_ hQ G hr hin
  refine j_iload_n G dX4_has_0 rfl ?_
  refine j_if_lt G 16 dX4_has_1 (by decide) (by omega) (fun c1 => ?_) (fun c1 => ?_)
  · refine j_iconst G dX4_has_16 ?_
    refine jr_B G hQ hr dX4_has_17 (by decide) (by decide) (by omega) ?_
    first | omega | (refine ⟨?_, ?_⟩ <;> (try intros) <;> first | rfl | omega | (exfalso; omega)) | simp
  · refine j_iload_n G dX4_has_4 rfl ?_
    refine j_aload_n G dX4_has_5 rfl ?_
    refine gf_2_4 G dX4_has_6 lf4_26 (by first | assumption | decide) ?_
    refine j_icmp_ge G 16 dX4_has_9 (by decide) (by omega) (by omega) (fun c9 => ?_) (fun c9 => ?_)
    · refine j_iconst G dX4_has_16 ?_
      refine jr_B G hQ hr dX4_has_17 (by decide) (by decide) (by omega) ?_
      first | omega | (refine ⟨?_, ?_⟩ <;> (try intros) <;> first | rfl | omega | (exfalso; omega)) | simp
    · refine j_iconst G dX4_has_12 ?_
      refine j_goto G 17 dX4_has_13 (by decide) ?_
      refine jr_B G hQ hr dX4_has_17 (by decide) (by decide) (by omega) ?_
      first | omega | (refine ⟨?_, ?_⟩ <;> (try intros) <;> first | rfl | omega | (exfalso; omega)) | simp
set_option maxRecDepth 100000 in
set_option maxHeartbeats 8000000 in
theorem c_X4_isFull {l : Launch} {D : va_G} {cys : Nat → ClassId} {ad : Nat → Int → Nat} {L : List Nat} {g : Nat → va_E} {X : Int64} {Z : ZT} (hi : injA ad) {d : Int} (hd : vd 2 d) (hs : inR (Z 2 d 4)) : CM l D cys ad yX4_isFull cX4_isFull 1 (some .boolean) 0 0 0 0 [.ref (ad 2 d)] L g X Z (PI L g X Z (fun r => (r = 1 ∧ 24 ≤ Z 2 d 4) ∨ (r = 0 ∧ Z 2 d 4 < 24))) := by
  refine cm_start hi (by decide +kernel) (Nat.le_of_ble_eq_true rfl) ?_
  intro p_ e_ s_ m_ args_ below_ meth_ c_ A_ Q_ hQ G hr hin
  refine j_aload_n G dX4_isFull_0 rfl ?_
  refine gf_2_4 G dX4_isFull_1 lf4_26 (by first | assumption | decide) ?_
  refine j_bipush G dX4_isFull_4 (by decide +kernel) ?_
  refine j_icmp_lt G 13 dX4_isFull_6 (by decide) (by omega) (by omega) (fun c6 => ?_) (fun c6 => ?_)
  · refine j_iconst G dX4_isFull_13 ?_
    refine jr_B G hQ hr dX4_isFull_14 (by decide) (by decide) (by omega) ?_
    first | omega | (refine ⟨?_, ?_⟩ <;> (try intros) <;> first | rfl | omega | (exfalso; omega)) | simp
  · refine j_iconst G dX4_isFull_9 ?_
    refine j_goto G 14 dX4_isFull_10 (by decide) ?_
    refine jr_B G hQ hr dX4_isFull_14 (by decide) (by decide) (by omega) ?_
    first | omega | (refine ⟨?_, ?_⟩ <;> (try intros) <;> first | rfl | omega | (exfalso; omega)) | simp
set_option maxRecDepth 100000 in
set_option maxHeartbeats 8000000 in
theorem c_X4_aboveOn {l : Launch} {D : va_G} {cys : Nat → ClassId} {ad : Nat → Int → Nat} {L : List Nat} {g : Nat → va_E} {X : Int64} {Z : ZT} (hi : injA ad) {d q lv : Int} (hd : vd 2 d) (hT : TOK Z d) (hq : 0 ≤ q ∧ q < Z 2 d 4) (hlv : 0 ≤ lv ∧ lv < 1000) : CM l D cys ad yX4_aboveOn cX4_aboveOn 5 (some .int) 1 21 0 0 [.ref (ad 2 d), .int (iI q), .int (iI lv)] L g X Z (PI L g X Z (fun r => r = abv Z d q lv)) := by
  refine cm_start hi (by decide +kernel) (Nat.le_of_ble_eq_true rfl) ?_
  intro p_ e_ s_ m_ args_ below_ meth_ c_ A_ Q_ hQ G hr hin
  have hT1 := hT.1
  have loop : ∀ (n : Nat) (a st : Int), 0 ≤ a → a < Z 2 d 4 → 0 ≤ st → st + Z 4 d a ≤ 3 → (Z 4 d a - lv).toNat = n → ancF (Z 3 d) n a = abv Z d q lv → JJ p_ l e_ { frames := 1, cells := 0, slots := 0, locals := 21 } s_ m_ args_ below_ meth_ c_ D cys ad A_ Q_ 5 0 0 L g X Z 5 [(0, .ref (ad 2 d)), (1, .int (iI q)), (2, .int (iI lv)), (3, .int (iI a)), (4, .int (iI st))] [] := by
    intro n
    induction n with
    | zero =>
      intro a st h0 h1 h2 h3 h4 h5
      have hm := hT.at h0 h1
      unfold MOK at hm
      refine j_iload G dX4_aboveOn_5 rfl ?_
      refine j_iconst G dX4_aboveOn_7 ?_
      refine j_icmp_ge G 42 dX4_aboveOn_8 (by decide) (by omega) (by omega) (fun c8 => ?_) (fun c8 => ?_)
      · refine j_iload_n G dX4_aboveOn_42 rfl ?_
        refine jr_I G hQ hr dX4_aboveOn_43 (by decide) (by decide) ?_
        exact h5
      · refine j_aload_n G dX4_aboveOn_11 rfl ?_
        refine j_iload_n G dX4_aboveOn_12 rfl ?_
        refine j_cVI G cvX4_has ml4_29 (c_X4_has hi (by first | assumption | omega | decide) (by first | assumption | omega | decide) (by first | assumption | omega | decide)) dX4_aboveOn_13 ⟨by decide, by decide⟩ ⟨by decide, by decide⟩ rfl rfl (Nat.le_of_ble_eq_true rfl) (by first | assumption | decide) rfl rfl rfl (fun r13 h13 => ?_)
        refine j_if_eq G 42 dX4_aboveOn_16 (by decide) (by omega) (fun c16 => ?_) (fun c16 => ?_)
        · refine j_iload_n G dX4_aboveOn_42 rfl ?_
          refine jr_I G hQ hr dX4_aboveOn_43 (by decide) (by decide) ?_
          exact h5
        · refine j_aload_n G dX4_aboveOn_19 rfl ?_
          refine gf_2_1 G dX4_aboveOn_20 lf4_15 (by first | assumption | decide) ?_
          refine j_iload_n G dX4_aboveOn_23 rfl ?_
          refine al_4 G dX4_aboveOn_24 (by first | assumption | decide) (by omega) (by omega) ?_
          refine j_iload_n G dX4_aboveOn_25 rfl ?_
          refine j_icmp_le G 42 dX4_aboveOn_26 (by decide) (by omega) (by omega) (fun c26 => ?_) (fun c26 => ?_)
          · refine j_iload_n G dX4_aboveOn_42 rfl ?_
            refine jr_I G hQ hr dX4_aboveOn_43 (by decide) (by decide) ?_
            exact h5
          · exfalso; omega
    | succ n ih =>
      intro a st h0 h1 h2 h3 h4 h5
      have hm := hT.at h0 h1
      unfold MOK at hm
      have hp := hm.2.2.2 (by have := hm.2.2.1; omega)
      refine j_iload G dX4_aboveOn_5 rfl ?_
      refine j_iconst G dX4_aboveOn_7 ?_
      refine j_icmp_ge G 42 dX4_aboveOn_8 (by decide) (by omega) (by omega) (fun c8 => ?_) (fun c8 => ?_)
      · exfalso; omega
      · refine j_aload_n G dX4_aboveOn_11 rfl ?_
        refine j_iload_n G dX4_aboveOn_12 rfl ?_
        refine j_cVI G cvX4_has ml4_29 (c_X4_has hi (by first | assumption | omega | decide) (by first | assumption | omega | decide) (by first | assumption | omega | decide)) dX4_aboveOn_13 ⟨by decide, by decide⟩ ⟨by decide, by decide⟩ rfl rfl (Nat.le_of_ble_eq_true rfl) (by first | assumption | decide) rfl rfl rfl (fun r13 h13 => ?_)
        refine j_if_eq G 42 dX4_aboveOn_16 (by decide) (by omega) (fun c16 => ?_) (fun c16 => ?_)
        · exfalso; omega
        · refine j_aload_n G dX4_aboveOn_19 rfl ?_
          refine gf_2_1 G dX4_aboveOn_20 lf4_15 (by first | assumption | decide) ?_
          refine j_iload_n G dX4_aboveOn_23 rfl ?_
          refine al_4 G dX4_aboveOn_24 (by first | assumption | decide) (by omega) (by omega) ?_
          refine j_iload_n G dX4_aboveOn_25 rfl ?_
          refine j_icmp_le G 42 dX4_aboveOn_26 (by decide) (by omega) (by omega) (fun c26 => ?_) (fun c26 => ?_)
          · exfalso; omega
          · refine j_aload_n G dX4_aboveOn_29 rfl ?_
            refine gf_2_0 G dX4_aboveOn_30 lf4_9 (by first | assumption | decide) ?_
            refine j_iload_n G dX4_aboveOn_33 rfl ?_
            refine al_3 G dX4_aboveOn_34 (by first | assumption | decide) (by omega) (by omega) ?_
            refine j_istore_n G dX4_aboveOn_35 (by decide) rfl ?_
            refine j_iinc G dX4_aboveOn_36 rfl (by decide) rfl ?_
            refine j_goto G 5 dX4_aboveOn_39 (by decide) ?_
            exact ih (Z 3 d a) (st + 1) hp.1 hp.2.1 (by omega) (by omega) (by omega) h5
  have hm := hT.at hq.1 hq.2
  unfold MOK at hm
  refine j_iload_n G dX4_aboveOn_0 rfl ?_
  refine j_istore_n G dX4_aboveOn_1 (by decide) rfl ?_
  refine j_iconst G dX4_aboveOn_2 ?_
  refine j_istore G dX4_aboveOn_3 (by decide) rfl ?_
  exact loop _ q 0 hq.1 hq.2 (by omega) (by omega) rfl rfl
set_option maxRecDepth 100000 in
set_option maxHeartbeats 8000000 in
theorem c_X4_plant {l : Launch} {D : va_G} {cys : Nat → ClassId} {ad : Nat → Int → Nat} {L : List Nat} {g : Nat → va_E} {X : Int64} {Z : ZT} (hi : injA ad) {d lv : Int} (hd : vd 2 d) : CM l D cys ad yX4_plant cX4_plant 2 none 0 0 0 0 [.ref (ad 2 d), .int (iI lv)] L g X Z (PVZ L g X Z (fun Z' => Z' = zS (zS (zS Z 2 d 3 lv) 3 d 0 (-1)) 2 d 4 1)) := by
  refine cm_start hi (by decide +kernel) (Nat.le_of_ble_eq_true rfl) ?_
  intro p_ e_ s_ m_ args_ below_ meth_ c_ A_ Q_ hQ G hr hin
  refine j_aload_n G dX4_plant_0 rfl ?_
  refine j_iload_n G dX4_plant_1 rfl ?_
  refine pf_2_3 G dX4_plant_2 lf4_22 (by first | assumption | decide) ?_
  refine j_aload_n G dX4_plant_5 rfl ?_
  refine gf_2_0 G dX4_plant_6 lf4_9 (by first | assumption | decide) ?_
  refine j_iconst G dX4_plant_9 ?_
  refine j_iconst G dX4_plant_10 ?_
  refine as_3 G dX4_plant_11 (by first | assumption | decide) (by omega) (by omega) ?_
  refine j_aload_n G dX4_plant_12 rfl ?_
  refine j_iconst G dX4_plant_13 ?_
  refine pf_2_4 G dX4_plant_14 lf4_26 (by first | assumption | decide) ?_
  refine jr_VZ G hQ hr dX4_plant_17 (by decide) (by decide) ?_
  try simp (config := { decide := true }) only [zS_k, zS_s, zS_j, ne_eq]
  all_goals rfl
set_option maxRecDepth 100000 in
set_option maxHeartbeats 8000000 in
theorem c_X4_isLeaf {l : Launch} {D : va_G} {cys : Nat → ClassId} {ad : Nat → Int → Nat} {L : List Nat} {g : Nat → va_E} {X : Int64} {Z : ZT} (hi : injA ad) {d q : Int} (hd : vd 2 d) (hT : TOK Z d) (hq : inR q) : CM l D cys ad yX4_isLeaf cX4_isLeaf 2 (some .boolean) 1 21 0 0 [.ref (ad 2 d), .int (iI q)] L g X Z (PI L g X Z (fun r => (r = 1 ∧ 0 ≤ q ∧ q < Z 2 d 4 ∧ Z 4 d q = Z 2 d 3) ∨ (r = 0 ∧ ¬ (0 ≤ q ∧ q < Z 2 d 4 ∧ Z 4 d q = Z 2 d 3)))) := by
  refine cm_start hi (by decide +kernel) (Nat.le_of_ble_eq_true rfl) ?_
  intro p_ e_ s_ m_ args_ below_ meth_ c_ A_ Q_ hQ G hr hin
  have hT1 := hT.1
  have hm := hT.at (m := q)
  unfold MOK at hm
  refine j_aload_n G dX4_isLeaf_0 rfl ?_
  refine j_iload_n G dX4_isLeaf_1 rfl ?_
  refine j_cVI G cvX4_has ml4_29 (c_X4_has hi (by first | assumption | omega | decide) (by first | assumption | omega | decide) (by first | assumption | omega | decide)) dX4_isLeaf_2 ⟨by decide, by decide⟩ ⟨by decide, by decide⟩ rfl rfl (Nat.le_of_ble_eq_true rfl) (by first | assumption | decide) rfl rfl rfl (fun r2 h2 => ?_)
  refine j_if_eq G 25 dX4_isLeaf_5 (by decide) (by omega) (fun c5 => ?_) (fun c5 => ?_)
  · refine j_iconst G dX4_isLeaf_25 ?_
    refine jr_B G hQ hr dX4_isLeaf_26 (by decide) (by decide) (by omega) ?_
    first | omega | (refine ⟨?_, ?_⟩ <;> (try intros) <;> first | rfl | omega | (exfalso; omega)) | simp
  · have hm := hm (by omega) (by omega)
    refine j_aload_n G dX4_isLeaf_8 rfl ?_
    refine gf_2_1 G dX4_isLeaf_9 lf4_15 (by first | assumption | decide) ?_
    refine j_iload_n G dX4_isLeaf_12 rfl ?_
    refine al_4 G dX4_isLeaf_13 (by first | assumption | decide) (by omega) (by omega) ?_
    refine j_aload_n G dX4_isLeaf_14 rfl ?_
    refine gf_2_3 G dX4_isLeaf_15 lf4_22 (by first | assumption | decide) ?_
    refine j_icmp_ne G 25 dX4_isLeaf_18 (by decide) (by omega) (by omega) (fun c18 => ?_) (fun c18 => ?_)
    · refine j_iconst G dX4_isLeaf_25 ?_
      refine jr_B G hQ hr dX4_isLeaf_26 (by decide) (by decide) (by omega) ?_
      first | omega | (refine ⟨?_, ?_⟩ <;> (try intros) <;> first | rfl | omega | (exfalso; omega)) | simp
    · refine j_iconst G dX4_isLeaf_21 ?_
      refine j_goto G 26 dX4_isLeaf_22 (by decide) ?_
      refine jr_B G hQ hr dX4_isLeaf_26 (by decide) (by decide) (by omega) ?_
      first | omega | (refine ⟨?_, ?_⟩ <;> (try intros) <;> first | rfl | omega | (exfalso; omega)) | simp
set_option maxRecDepth 100000 in
set_option maxHeartbeats 8000000 in
theorem c_X4_grow {l : Launch} {D : va_G} {cys : Nat → ClassId} {ad : Nat → Int → Nat} {L : List Nat} {g : Nat → va_E} {X : Int64} {Z : ZT} (hi : injA ad) {d q : Int} (hd : vd 2 d) (hT : TOK Z d) (hq : 0 ≤ q ∧ q < Z 2 d 4) (hf : Z 2 d 4 < 24) : CM l D cys ad yX4_grow cX4_grow 3 (some .int) 1 21 0 0 [.ref (ad 2 d), .int (iI q)] L g X Z (PIZ L g X Z (fun r Z' => r = Z 2 d 4 ∧ Z' = zS (zS (zS Z 3 d (Z 2 d 4) q) 4 d (Z 2 d 4) (Z 4 d q + 1)) 2 d 4 (Z 2 d 4 + 1))) := by
  refine cm_start hi (by decide +kernel) (Nat.le_of_ble_eq_true rfl) ?_
  intro p_ e_ s_ m_ args_ below_ meth_ c_ A_ Q_ hQ G hr hin
  have hT1 := hT.1
  refine j_aload_n G dX4_grow_0 rfl ?_
  refine j_iload_n G dX4_grow_1 rfl ?_
  refine j_cVI G cvX4_has ml4_29 (c_X4_has hi (by first | assumption | omega | decide) (by first | assumption | omega | decide) (by first | assumption | omega | decide)) dX4_grow_2 ⟨by decide, by decide⟩ ⟨by decide, by decide⟩ rfl rfl (Nat.le_of_ble_eq_true rfl) (by first | assumption | decide) rfl rfl rfl (fun r2 h2 => ?_)
  refine j_if_eq G 15 dX4_grow_5 (by decide) (by omega) (fun c5 => ?_) (fun c5 => ?_)
  · exfalso; omega
  · refine j_aload_n G dX4_grow_8 rfl ?_
    refine j_cVI G cvX4_isFull ml4_33 (c_X4_isFull hi (by first | assumption | omega | decide) (by first | assumption | omega | decide)) dX4_grow_9 ⟨by decide, by decide⟩ ⟨by decide, by decide⟩ rfl rfl (Nat.le_of_ble_eq_true rfl) (by first | assumption | decide) rfl rfl rfl (fun r9 h9 => ?_)
    refine j_if_eq G 17 dX4_grow_12 (by decide) (by omega) (fun c12 => ?_) (fun c12 => ?_)
    · refine j_aload_n G dX4_grow_17 rfl ?_
      refine gf_2_4 G dX4_grow_18 lf4_26 (by first | assumption | decide) ?_
      refine j_istore_n G dX4_grow_21 (by decide) rfl ?_
      refine j_aload_n G dX4_grow_22 rfl ?_
      refine gf_2_0 G dX4_grow_23 lf4_9 (by first | assumption | decide) ?_
      refine j_iload_n G dX4_grow_26 rfl ?_
      refine j_iload_n G dX4_grow_27 rfl ?_
      refine as_3 G dX4_grow_28 (by first | assumption | decide) (by omega) (by omega) ?_
      refine j_aload_n G dX4_grow_29 rfl ?_
      refine gf_2_1 G dX4_grow_30 lf4_15 (by first | assumption | decide) ?_
      refine j_iload_n G dX4_grow_33 rfl ?_
      refine j_aload_n G dX4_grow_34 rfl ?_
      refine gf_2_1 G dX4_grow_35 lf4_15 (by first | assumption | decide) ?_
      refine j_iload_n G dX4_grow_38 rfl ?_
      refine al_4 G dX4_grow_39 (by first | assumption | decide) (by omega) (by omega) ?_
      try simp (config := { decide := true }) only [zS_k, zS_s, zS_j, ne_eq]
      refine j_iconst G dX4_grow_40 ?_
      refine j_iadd G dX4_grow_41 ?_
      refine as_4 G dX4_grow_42 (by first | assumption | decide) (by omega) (by omega) ?_
      refine j_aload_n G dX4_grow_43 rfl ?_
      refine j_dup G dX4_grow_44 rfl ?_
      refine gf_2_4 G dX4_grow_45 lf4_26 (by first | assumption | decide) ?_
      try simp (config := { decide := true }) only [zS_k, zS_s, zS_j, ne_eq]
      refine j_iconst G dX4_grow_48 ?_
      refine j_iadd G dX4_grow_49 ?_
      refine pf_2_4 G dX4_grow_50 lf4_26 (by first | assumption | decide) ?_
      refine j_iload_n G dX4_grow_53 rfl ?_
      refine jr_IZ G hQ hr dX4_grow_54 (by decide) (by decide) ?_
      try simp (config := { decide := true }) only [zS_k, zS_s, zS_j, ne_eq]
      all_goals exact ⟨rfl, rfl⟩
    · exfalso; omega
set_option maxRecDepth 100000 in
set_option maxHeartbeats 8000000 in
theorem c_X4_leaveNothingOut {l : Launch} {D : va_G} {cys : Nat → ClassId} {ad : Nat → Int → Nat} {L : List Nat} {g : Nat → va_E} {X : Int64} {Z : ZT} (hi : injA ad) {d : Int} (hd : vd 2 d) : CM l D cys ad yX4_leaveNothingOut cX4_leaveNothingOut 2 none 0 0 0 0 [.ref (ad 2 d)] L g X Z (PVZ L g X Z (fun Z' => (∀ k i, ¬ (k = 5 ∧ i = d) → Z' k i = Z k i) ∧ ∀ j, 0 ≤ j → j < 24 → Z' 5 d j = 0)) := by
  refine cm_start hi (by decide +kernel) (Nat.le_of_ble_eq_true rfl) ?_
  intro p_ e_ s_ m_ args_ below_ meth_ c_ A_ Q_ hQ G hr hin
  have loop : ∀ (n : Nat) (a : Int) (Y : ZT), 0 ≤ a → a ≤ 24 → (24 - a).toNat = n → (∀ k i, ¬ (k = 5 ∧ i = d) → Y k i = Z k i) → (∀ j, 0 ≤ j → j < a → Y 5 d j = 0) → JJ p_ l e_ { frames := 0, cells := 0, slots := 0, locals := 0 } s_ m_ args_ below_ meth_ c_ D cys ad A_ Q_ 2 0 0 L g X Y 2 [(0, .ref (ad 2 d)), (1, .int (iI a))] [] := by
    intro n
    induction n with
    | zero =>
      intro a Y h0 h1 h2 h3 h4
      refine j_iload_n G dX4_leaveNothingOut_2 rfl ?_
      refine j_bipush G dX4_leaveNothingOut_3 (by decide +kernel) ?_
      refine j_icmp_ge G 21 dX4_leaveNothingOut_5 (by decide) (by omega) (by omega) (fun c5 => ?_) (fun c5 => ?_)
      · refine jr_VZ G hQ hr dX4_leaveNothingOut_21 (by decide) (by decide) ?_
        exact ⟨h3, fun j j0 j1 => h4 j j0 (by omega)⟩
      · exfalso; omega
    | succ n ih =>
      intro a Y h0 h1 h2 h3 h4
      refine j_iload_n G dX4_leaveNothingOut_2 rfl ?_
      refine j_bipush G dX4_leaveNothingOut_3 (by decide +kernel) ?_
      refine j_icmp_ge G 21 dX4_leaveNothingOut_5 (by decide) (by omega) (by omega) (fun c5 => ?_) (fun c5 => ?_)
      · exfalso; omega
      · refine j_aload_n G dX4_leaveNothingOut_8 rfl ?_
        refine gf_2_2 G dX4_leaveNothingOut_9 lf4_18 (by first | assumption | decide) ?_
        refine j_iload_n G dX4_leaveNothingOut_12 rfl ?_
        refine j_iconst G dX4_leaveNothingOut_13 ?_
        refine as_5 G dX4_leaveNothingOut_14 (by first | assumption | decide) (by omega) (by omega) (by omega) ?_
        refine j_iinc G dX4_leaveNothingOut_15 rfl (by decide) rfl ?_
        refine j_goto G 2 dX4_leaveNothingOut_18 (by decide) ?_
        refine ih (a + 1) _ (by omega) (by omega) (by omega) (fun k i hk => ?_) (fun j j0 j1 => ?_)
        · rw [zS_o hk]; exact h3 k i hk
        · rw [zS_v]
          split
          · rfl
          · exact h4 j j0 (by omega)
  refine j_iconst G dX4_leaveNothingOut_0 ?_
  refine j_istore_n G dX4_leaveNothingOut_1 (by decide) rfl ?_
  exact loop _ 0 Z (by omega) (by omega) rfl (fun _ _ _ => rfl) (fun j a b => by omega)
set_option maxRecDepth 100000 in
set_option maxHeartbeats 8000000 in
theorem c_X4_depthOfChildren {l : Launch} {D : va_G} {cys : Nat → ClassId} {ad : Nat → Int → Nat} {L : List Nat} {g : Nat → va_E} {X : Int64} {Z : ZT} (hi : injA ad) {d : Int} (hd : vd 2 d) (hT : TOK Z d) : CM l D cys ad yX4_depthOfChildren cX4_depthOfChildren 1 (some .int) 1 21 0 0 [.ref (ad 2 d)] L g X Z (PI L g X Z (fun r => r = Z 4 d (Z 2 d 5) + 1)) := by
  refine cm_start hi (by decide +kernel) (Nat.le_of_ble_eq_true rfl) ?_
  intro p_ e_ s_ m_ args_ below_ meth_ c_ A_ Q_ hQ G hr hin
  have hT1 := hT.1
  refine j_aload_n G dX4_depthOfChildren_0 rfl ?_
  refine j_aload_n G dX4_depthOfChildren_1 rfl ?_
  refine gf_2_5 G dX4_depthOfChildren_2 lf4_37 (by first | assumption | decide) ?_
  refine j_cVI G cvX4_has ml4_29 (c_X4_has hi (by first | assumption | omega | decide) (by first | assumption | omega | decide) (by first | assumption | omega | decide)) dX4_depthOfChildren_5 ⟨by decide, by decide⟩ ⟨by decide, by decide⟩ rfl rfl (Nat.le_of_ble_eq_true rfl) (by first | assumption | decide) rfl rfl rfl (fun r5 h5 => ?_)
  refine j_if_eq G 25 dX4_depthOfChildren_8 (by decide) (by omega) (fun c8 => ?_) (fun c8 => ?_)
  · exfalso; omega
  · refine j_aload_n G dX4_depthOfChildren_11 rfl ?_
    refine gf_2_1 G dX4_depthOfChildren_12 lf4_15 (by first | assumption | decide) ?_
    refine j_aload_n G dX4_depthOfChildren_15 rfl ?_
    refine gf_2_5 G dX4_depthOfChildren_16 lf4_37 (by first | assumption | decide) ?_
    refine al_4 G dX4_depthOfChildren_19 (by first | assumption | decide) (by omega) (by omega) ?_
    refine j_iconst G dX4_depthOfChildren_20 ?_
    refine j_iadd G dX4_depthOfChildren_21 ?_
    refine j_goto G 26 dX4_depthOfChildren_22 (by decide) ?_
    refine jr_I G hQ hr dX4_depthOfChildren_26 (by decide) (by decide) ?_
    first | omega | (refine ⟨?_, ?_⟩ <;> (try intros) <;> first | rfl | omega | (exfalso; omega)) | simp
set_option maxRecDepth 100000 in
set_option maxHeartbeats 8000000 in
theorem c_X4_childFrom {l : Launch} {D : va_G} {cys : Nat → ClassId} {ad : Nat → Int → Nat} {L : List Nat} {g : Nat → va_E} {X : Int64} {Z : ZT} (hi : injA ad) {d q st : Int} (hd : vd 2 d) (hT : TOK Z d) (hq : inR q) (hs : 0 ≤ st ∧ st ≤ 24) : CM l D cys ad yX4_childFrom cX4_childFrom 4 (some .int) 0 0 0 0 [.ref (ad 2 d), .int (iI q), .int (iI st)] L g X Z (PI L g X Z (fun r => (st ≤ r ∧ r < Z 2 d 4 ∧ Z 3 d r = q ∧ ∀ j, st ≤ j → j < r → Z 3 d j ≠ q) ∨ (r = -1 ∧ ∀ j, st ≤ j → j < Z 2 d 4 → Z 3 d j ≠ q))) := by
  refine cm_start hi (by decide +kernel) (Nat.le_of_ble_eq_true rfl) ?_
  intro p_ e_ s_ m_ args_ below_ meth_ c_ A_ Q_ hQ G hr hin
  have hT1 := hT.1
  have loop : ∀ (n : Nat) (a : Int), st ≤ a → a ≤ 24 → (24 - a).toNat = n → (∀ j, st ≤ j → j < a → Z 3 d j ≠ q) → JJ p_ l e_ { frames := 0, cells := 0, slots := 0, locals := 0 } s_ m_ args_ below_ meth_ c_ D cys ad A_ Q_ 4 0 0 L g X Z 2 [(0, .ref (ad 2 d)), (1, .int (iI q)), (2, .int (iI st)), (3, .int (iI a))] [] := by
    intro n
    induction n with
    | zero =>
      intro a h0 h1 h2 h3
      refine j_iload_n G dX4_childFrom_2 rfl ?_
      refine j_aload_n G dX4_childFrom_3 rfl ?_
      refine gf_2_4 G dX4_childFrom_4 lf4_26 (by first | assumption | decide) ?_
      refine j_icmp_ge G 28 dX4_childFrom_7 (by decide) (by omega) (by omega) (fun c7 => ?_) (fun c7 => ?_)
      · refine j_iconst G dX4_childFrom_28 ?_
        refine jr_I G hQ hr dX4_childFrom_29 (by decide) (by decide) ?_
        exact Or.inr ⟨rfl, fun j h4 h5 => h3 j h4 (by omega)⟩
      · exfalso; omega
    | succ n ih =>
      intro a h0 h1 h2 h3
      have hp := hT.par (m := a)
      refine j_iload_n G dX4_childFrom_2 rfl ?_
      refine j_aload_n G dX4_childFrom_3 rfl ?_
      refine gf_2_4 G dX4_childFrom_4 lf4_26 (by first | assumption | decide) ?_
      refine j_icmp_ge G 28 dX4_childFrom_7 (by decide) (by omega) (by omega) (fun c7 => ?_) (fun c7 => ?_)
      · refine j_iconst G dX4_childFrom_28 ?_
        refine jr_I G hQ hr dX4_childFrom_29 (by decide) (by decide) ?_
        exact Or.inr ⟨rfl, fun j h4 h5 => h3 j h4 (by omega)⟩
      · have hp := hp (by omega) (by omega)
        refine j_aload_n G dX4_childFrom_10 rfl ?_
        refine gf_2_0 G dX4_childFrom_11 lf4_9 (by first | assumption | decide) ?_
        refine j_iload_n G dX4_childFrom_14 rfl ?_
        refine al_3 G dX4_childFrom_15 (by first | assumption | decide) (by omega) (by omega) ?_
        refine j_iload_n G dX4_childFrom_16 rfl ?_
        refine j_icmp_ne G 22 dX4_childFrom_17 (by decide) (by omega) (by omega) (fun c17 => ?_) (fun c17 => ?_)
        · refine j_iinc G dX4_childFrom_22 rfl (by decide) rfl ?_
          refine j_goto G 2 dX4_childFrom_25 (by decide) ?_
          refine ih (a + 1) (by omega) (by omega) (by omega) (fun j h4 h5 => ?_)
          by_cases e : j = a
          · subst e; assumption
          · exact h3 j h4 (by omega)
        · refine j_iload_n G dX4_childFrom_20 rfl ?_
          skip
          refine jr_I G hQ hr dX4_childFrom_21 (by decide) (by decide) ?_
          exact Or.inl ⟨h0, by omega, by omega, h3⟩
  refine j_iload_n G dX4_childFrom_0 rfl ?_
  refine j_istore_n G dX4_childFrom_1 (by decide) rfl ?_
  exact loop _ st (by omega) (by omega) rfl (fun j h4 h5 => by omega)
set_option maxRecDepth 100000 in
set_option maxHeartbeats 8000000 in
theorem c_X4_nextInWalk {l : Launch} {D : va_G} {cys : Nat → ClassId} {ad : Nat → Int → Nat} {L : List Nat} {g : Nat → va_E} {X : Int64} {Z : ZT} (hi : injA ad) {d q top : Int} (hd : vd 2 d) (hT : TOK Z d) (hq : 0 ≤ q ∧ q < Z 2 d 4) (htop : 0 ≤ top ∧ top < Z 2 d 4) (hb : bel Z d q top) : CM l D cys ad yX4_nextInWalk cX4_nextInWalk 6 (some .int) 1 23 0 0 [.ref (ad 2 d), .int (iI q), .int (iI top)] L g X Z (PI L g X Z (fun r => (0 ≤ r ∧ r < Z 2 d 4 ∧ bel Z d r top ∧ nxt Z d top q = pre Z d r ++ aft Z d top r) ∨ (r = -1 ∧ nxt Z d top q = []))) := by
  refine cm_start hi (by decide +kernel) (Nat.le_of_ble_eq_true rfl) ?_
  intro p_ e_ s_ m_ args_ below_ meth_ c_ A_ Q_ hQ G hr hin
  have hT1 := hT.1
  have loop : ∀ (n : Nat) (a r st : Int), 0 ≤ a → a < Z 2 d 4 → bel Z d a top → 0 ≤ st → st + Z 4 d a ≤ 3 → (Z 4 d a).toNat = n → ((0 ≤ r ∧ r < Z 2 d 4 ∧ bel Z d r top ∧ nxt Z d top q = pre Z d r ++ aft Z d top r) ∨ (r = -1 ∧ nxt Z d top q = aft Z d top a)) → JJ p_ l e_ { frames := 1, cells := 0, slots := 0, locals := 23 } s_ m_ args_ below_ meth_ c_ D cys ad A_ Q_ 6 0 0 L g X Z 13 [(0, .ref (ad 2 d)), (1, .int (iI q)), (2, .int (iI top)), (3, .int (iI r)), (4, .int (iI a)), (5, .int (iI st))] [] := by
    intro n
    induction n with
    | zero =>
      intro a r st h0 h1 h2 h3 h4 h5 h6
      have hm := hT.at h0 h1
      have ht := hT.at htop.1 htop.2
      unfold MOK at hm ht
      have ha : a = 0 := by omega
      have hr6 : inR r := by rcases h6 with h6 | h6 <;> omega
      have htt : top = a := by
        have := h2.1
        omega
      refine j_iload G dX4_nextInWalk_13 rfl ?_
      refine j_iconst G dX4_nextInWalk_15 ?_
      refine j_icmp_ge G 70 dX4_nextInWalk_16 (by decide) (by omega) (by omega) (fun c16 => ?_) (fun c16 => ?_)
      · have h7 : ((0 ≤ r ∧ r < Z 2 d 4 ∧ bel Z d r top ∧ nxt Z d top q = pre Z d r ++ aft Z d top r) ∨ (r = -1 ∧ nxt Z d top q = [])) := by
          rcases h6 with h6 | h6
          · exact Or.inl h6
          · refine Or.inr ⟨h6.1, ?_⟩
            rw [h6.2, htt]; exact aft_top
        refine j_iload_n G dX4_nextInWalk_70 rfl ?_
        refine jr_I G hQ hr dX4_nextInWalk_71 (by decide) (by decide) ?_
        exact h7
      · refine j_iload_n G dX4_nextInWalk_19 rfl ?_
        refine j_iconst G dX4_nextInWalk_20 ?_
        refine j_icmp_ne G 70 dX4_nextInWalk_21 (by decide) (by omega) (by omega) (fun c21 => ?_) (fun c21 => ?_)
        · have h7 : ((0 ≤ r ∧ r < Z 2 d 4 ∧ bel Z d r top ∧ nxt Z d top q = pre Z d r ++ aft Z d top r) ∨ (r = -1 ∧ nxt Z d top q = [])) := by
            rcases h6 with h6 | h6
            · exact Or.inl h6
            · refine Or.inr ⟨h6.1, ?_⟩
              rw [h6.2, htt]; exact aft_top
          refine j_iload_n G dX4_nextInWalk_70 rfl ?_
          refine jr_I G hQ hr dX4_nextInWalk_71 (by decide) (by decide) ?_
          exact h7
        · refine j_iload G dX4_nextInWalk_24 rfl ?_
          refine j_iload_n G dX4_nextInWalk_26 rfl ?_
          refine j_icmp_eq G 70 dX4_nextInWalk_27 (by decide) (by omega) (by omega) (fun c27 => ?_) (fun c27 => ?_)
          · have h7 : ((0 ≤ r ∧ r < Z 2 d 4 ∧ bel Z d r top ∧ nxt Z d top q = pre Z d r ++ aft Z d top r) ∨ (r = -1 ∧ nxt Z d top q = [])) := by
              rcases h6 with h6 | h6
              · exact Or.inl h6
              · refine Or.inr ⟨h6.1, ?_⟩
                rw [h6.2, htt]; exact aft_top
            refine j_iload_n G dX4_nextInWalk_70 rfl ?_
            refine jr_I G hQ hr dX4_nextInWalk_71 (by decide) (by decide) ?_
            exact h7
          · exfalso; omega
    | succ n ih =>
      intro a r st h0 h1 h2 h3 h4 h5 h6
      have hm := hT.at h0 h1
      unfold MOK at hm
      have hr6 : inR r := by rcases h6 with h6 | h6 <;> omega
      have ha : 0 < a := by omega
      have hp := hm.2.2.2 ha
      have hdep : top ≠ a → Z 4 d top < Z 4 d a := by
        intro z
        rcases Int.lt_or_eq_of_le h2.1 with w | w
        · exact w
        · exact absurd (bel_uniq h2 (bel_rf Z d a) w) z
      have hbp : top ≠ a → bel Z d (Z 3 d a) top := by
        intro z
        have w := hdep z
        refine ⟨by omega, ?_⟩
        have e := h2.2
        rw [show (Z 4 d a - Z 4 d top).toNat = (Z 4 d (Z 3 d a) - Z 4 d top).toNat + 1 by omega] at e
        exact e
      refine j_iload G dX4_nextInWalk_13 rfl ?_
      refine j_iconst G dX4_nextInWalk_15 ?_
      refine j_icmp_ge G 70 dX4_nextInWalk_16 (by decide) (by omega) (by omega) (fun c16 => ?_) (fun c16 => ?_)
      · have h7 : ((0 ≤ r ∧ r < Z 2 d 4 ∧ bel Z d r top ∧ nxt Z d top q = pre Z d r ++ aft Z d top r) ∨ (r = -1 ∧ nxt Z d top q = [])) := by
          rcases h6 with h6 | h6
          · exact Or.inl h6
          · first
            | (exfalso; omega)
            | (refine Or.inr ⟨h6.1, ?_⟩
               rw [h6.2, show top = a by omega]; exact aft_top)
        refine j_iload_n G dX4_nextInWalk_70 rfl ?_
        refine jr_I G hQ hr dX4_nextInWalk_71 (by decide) (by decide) ?_
        exact h7
      · refine j_iload_n G dX4_nextInWalk_19 rfl ?_
        refine j_iconst G dX4_nextInWalk_20 ?_
        refine j_icmp_ne G 70 dX4_nextInWalk_21 (by decide) (by omega) (by omega) (fun c21 => ?_) (fun c21 => ?_)
        · have h7 : ((0 ≤ r ∧ r < Z 2 d 4 ∧ bel Z d r top ∧ nxt Z d top q = pre Z d r ++ aft Z d top r) ∨ (r = -1 ∧ nxt Z d top q = [])) := by
            rcases h6 with h6 | h6
            · exact Or.inl h6
            · first
              | (exfalso; omega)
              | (refine Or.inr ⟨h6.1, ?_⟩
                 rw [h6.2, show top = a by omega]; exact aft_top)
          refine j_iload_n G dX4_nextInWalk_70 rfl ?_
          refine jr_I G hQ hr dX4_nextInWalk_71 (by decide) (by decide) ?_
          exact h7
        · refine j_iload G dX4_nextInWalk_24 rfl ?_
          refine j_iload_n G dX4_nextInWalk_26 rfl ?_
          refine j_icmp_eq G 70 dX4_nextInWalk_27 (by decide) (by omega) (by omega) (fun c27 => ?_) (fun c27 => ?_)
          · have h7 : ((0 ≤ r ∧ r < Z 2 d 4 ∧ bel Z d r top ∧ nxt Z d top q = pre Z d r ++ aft Z d top r) ∨ (r = -1 ∧ nxt Z d top q = [])) := by
              rcases h6 with h6 | h6
              · exact Or.inl h6
              · first
                | (exfalso; omega)
                | (refine Or.inr ⟨h6.1, ?_⟩
                   rw [h6.2, show top = a by omega]; exact aft_top)
            refine j_iload_n G dX4_nextInWalk_70 rfl ?_
            refine jr_I G hQ hr dX4_nextInWalk_71 (by decide) (by decide) ?_
            exact h7
          · have h7 : r = -1 ∧ nxt Z d top q = aft Z d top a := by
              rcases h6 with h6 | h6
              · exfalso; omega
              · exact h6
            have hta : top ≠ a := by omega
            have hdep := hdep hta
            have hbp := hbp hta
            refine j_aload_n G dX4_nextInWalk_30 rfl ?_
            refine j_iload G dX4_nextInWalk_31 rfl ?_
            refine j_cVI G cvX4_has ml4_29 (c_X4_has hi (by first | assumption | omega | decide) (by first | assumption | omega | decide) (by first | assumption | omega | decide)) dX4_nextInWalk_33 ⟨by decide, by decide⟩ ⟨by decide, by decide⟩ rfl rfl (Nat.le_of_ble_eq_true rfl) (by first | assumption | decide) rfl rfl rfl (fun r33 h33 => ?_)
            refine j_if_eq G 70 dX4_nextInWalk_36 (by decide) (by omega) (fun c36 => ?_) (fun c36 => ?_)
            · have h7 : ((0 ≤ r ∧ r < Z 2 d 4 ∧ bel Z d r top ∧ nxt Z d top q = pre Z d r ++ aft Z d top r) ∨ (r = -1 ∧ nxt Z d top q = [])) := by
                rcases h6 with h6 | h6
                · exact Or.inl h6
                · first
                  | (exfalso; omega)
                  | (refine Or.inr ⟨h6.1, ?_⟩
                     rw [h6.2, show top = a by omega]; exact aft_top)
              refine j_iload_n G dX4_nextInWalk_70 rfl ?_
              refine jr_I G hQ hr dX4_nextInWalk_71 (by decide) (by decide) ?_
              exact h7
            · refine j_aload_n G dX4_nextInWalk_39 rfl ?_
              refine j_aload_n G dX4_nextInWalk_40 rfl ?_
              refine gf_2_0 G dX4_nextInWalk_41 lf4_9 (by first | assumption | decide) ?_
              refine j_iload G dX4_nextInWalk_44 rfl ?_
              refine al_3 G dX4_nextInWalk_46 (by first | assumption | decide) (by omega) (by omega) ?_
              refine j_iload G dX4_nextInWalk_47 rfl ?_
              refine j_iconst G dX4_nextInWalk_49 ?_
              refine j_iadd G dX4_nextInWalk_50 ?_
              refine j_cVI G cvX4_childFrom ml4_51 (c_X4_childFrom hi (by first | assumption | omega | decide) (by first | assumption | omega | decide) (by first | assumption | omega | decide) (by first | assumption | omega | decide)) dX4_nextInWalk_51 ⟨by decide, by decide⟩ ⟨by decide, by decide⟩ rfl rfl (Nat.le_of_ble_eq_true rfl) (by first | assumption | decide) rfl rfl rfl (fun r51 h51 => ?_)
              refine j_istore_n G dX4_nextInWalk_54 (by decide) rfl ?_
              refine j_aload_n G dX4_nextInWalk_55 rfl ?_
              refine gf_2_0 G dX4_nextInWalk_56 lf4_9 (by first | assumption | decide) ?_
              refine j_iload G dX4_nextInWalk_59 rfl ?_
              refine al_3 G dX4_nextInWalk_61 (by first | assumption | decide) (by omega) (by omega) ?_
              refine j_istore G dX4_nextInWalk_62 (by decide) rfl ?_
              refine j_iinc G dX4_nextInWalk_64 rfl (by decide) rfl ?_
              refine j_goto G 13 dX4_nextInWalk_67 (by decide) ?_
              refine ih (Z 3 d a) r51 (st + 1) hp.1 hp.2.1 hbp (by omega) (by omega) (by omega) ?_
              rcases h51 with w | w
              · refine Or.inl ⟨by omega, w.2.1, ?_, ?_⟩
                · have k := kid_dep hT hp.1 (by omega) w.2.1 w.2.2.1
                  refine ⟨by omega, ?_⟩
                  rw [show (Z 4 d r51 - Z 4 d top).toNat = (Z 4 d (Z 3 d a) - Z 4 d top).toNat + 1 by omega]
                  show ancF _ _ (Z 3 d r51) = _
                  rw [w.2.2.1]
                  exact hbp.2
                · rw [h7.2]
                  exact aft_sib hT ha h1 hdep w.1 w.2.1 w.2.2.1 w.2.2.2
              · refine Or.inr ⟨w.1, ?_⟩
                rw [h7.2]
                exact aft_up hT ha h1 hdep w.2
  have hm := hT.at hq.1 hq.2
  unfold MOK at hm
  refine j_aload_n G dX4_nextInWalk_0 rfl ?_
  refine j_iload_n G dX4_nextInWalk_1 rfl ?_
  refine j_iconst G dX4_nextInWalk_2 ?_
  refine j_cVI G cvX4_childFrom ml4_51 (c_X4_childFrom hi (by first | assumption | omega | decide) (by first | assumption | omega | decide) (by first | assumption | omega | decide) (by first | assumption | omega | decide)) dX4_nextInWalk_3 ⟨by decide, by decide⟩ ⟨by decide, by decide⟩ rfl rfl (Nat.le_of_ble_eq_true rfl) (by first | assumption | decide) rfl rfl rfl (fun r3 h3 => ?_)
  refine j_istore_n G dX4_nextInWalk_6 (by decide) rfl ?_
  refine j_iload_n G dX4_nextInWalk_7 rfl ?_
  refine j_istore G dX4_nextInWalk_8 (by decide) rfl ?_
  refine j_iconst G dX4_nextInWalk_10 ?_
  refine j_istore G dX4_nextInWalk_11 (by decide) rfl ?_
  refine loop _ q r3 0 hq.1 hq.2 hb (by omega) (by omega) rfl ?_
  rcases h3 with w | w
  · refine Or.inl ⟨by omega, w.2.1, ?_, ?_⟩
    · have k := kid_dep hT hq.1 (by omega) w.2.1 w.2.2.1
      refine ⟨by have := hb.1; omega, ?_⟩
      rw [show (Z 4 d r3 - Z 4 d top).toNat = (Z 4 d q - Z 4 d top).toNat + 1 by have := hb.1; omega]
      show ancF _ _ (Z 3 d r3) = _
      rw [w.2.2.1]
      exact hb.2
    · exact nxt_kid hT hq.1 hb.1 (by omega) w.2.1 w.2.2.1 (fun j j0 j1 => w.2.2.2 j j0 j1)
  · refine Or.inr ⟨w.1, ?_⟩
    unfold nxt
    rw [sibs_nil w.2]
    rfl

