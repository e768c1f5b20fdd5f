theorem dJ6_valueOf_2dffe_0 : decode cJ6_valueOf_2dffe 0 = .ok (.iload_n 0, 1) := by decide +kernel
theorem dJ6_valueOf_2dffe_1 : decode cJ6_valueOf_2dffe 1 = .ok (.bipush (-128), 2) := by decide +kernel
theorem dJ6_valueOf_2dffe_3 : decode cJ6_valueOf_2dffe 3 = .ok (.if_icmp .lt 20, 3) := by decide +kernel
theorem dJ6_valueOf_2dffe_6 : decode cJ6_valueOf_2dffe 6 = .ok (.iload_n 0, 1) := by decide +kernel
theorem dJ6_valueOf_2dffe_7 : decode cJ6_valueOf_2dffe 7 = .ok (.getstatic 191, 3) := by decide +kernel
theorem dJ6_valueOf_2dffe_10 : decode cJ6_valueOf_2dffe 10 = .ok (.if_icmp .gt 13, 3) := by decide +kernel
theorem dJ6_valueOf_2dffe_13 : decode cJ6_valueOf_2dffe 13 = .ok (.getstatic 195, 3) := by decide +kernel
theorem dJ6_valueOf_2dffe_16 : decode cJ6_valueOf_2dffe 16 = .ok (.iload_n 0, 1) := by decide +kernel
theorem dJ6_valueOf_2dffe_17 : decode cJ6_valueOf_2dffe 17 = .ok (.sipush 128, 3) := by decide +kernel
theorem dJ6_valueOf_2dffe_20 : decode cJ6_valueOf_2dffe 20 = .ok (.iadd, 1) := by decide +kernel
theorem dJ6_valueOf_2dffe_21 : decode cJ6_valueOf_2dffe 21 = .ok (.aaload, 1) := by decide +kernel
theorem dJ6_valueOf_2dffe_22 : decode cJ6_valueOf_2dffe 22 = .ok (.areturn, 1) := by decide +kernel
theorem dJ6_valueOf_2dffe_23 : decode cJ6_valueOf_2dffe 23 = .ok (.new 1, 3) := by decide +kernel
theorem dJ6_valueOf_2dffe_26 : decode cJ6_valueOf_2dffe 26 = .ok (.dup, 1) := by decide +kernel
theorem dJ6_valueOf_2dffe_27 : decode cJ6_valueOf_2dffe 27 = .ok (.iload_n 0, 1) := by decide +kernel
theorem dJ6_valueOf_2dffe_28 : decode cJ6_valueOf_2dffe 28 = .ok (.invokespecial 199, 3) := by decide +kernel
theorem dJ6_valueOf_2dffe_31 : decode cJ6_valueOf_2dffe 31 = .ok (.areturn, 1) := by decide +kernel
theorem dJ6_intValue_8abf5_0 : decode cJ6_intValue_8abf5 0 = .ok (.aload_n 0, 1) := by decide +kernel
theorem dJ6_intValue_8abf5_1 : decode cJ6_intValue_8abf5 1 = .ok (.getfield 205, 3) := by decide +kernel
theorem dJ6_intValue_8abf5_4 : decode cJ6_intValue_8abf5 4 = .ok (.ireturn, 1) := by decide +kernel
theorem dJxa1e45_init_da8c8_0 : decode cJxa1e45_init_da8c8 0 = .ok (.aload_n 0, 1) := by decide +kernel
theorem dJxa1e45_init_da8c8_1 : decode cJxa1e45_init_da8c8 1 = .ok (.invokespecial 1, 3) := by decide +kernel
theorem dJxa1e45_init_da8c8_4 : decode cJxa1e45_init_da8c8 4 = .ok (.return_, 1) := by decide +kernel
theorem dJxc12de_init_da8c8_0 : decode cJxc12de_init_da8c8 0 = .ok (.aload_n 0, 1) := by decide +kernel
theorem dJxc12de_init_da8c8_1 : decode cJxc12de_init_da8c8 1 = .ok (.invokespecial 1, 3) := by decide +kernel
theorem dJxc12de_init_da8c8_4 : decode cJxc12de_init_da8c8 4 = .ok (.aload_n 0, 1) := by decide +kernel
theorem dJxc12de_init_da8c8_5 : decode cJxc12de_init_da8c8 5 = .ok (.iconst 0, 1) := by decide +kernel
theorem dJxc12de_init_da8c8_6 : decode cJxc12de_init_da8c8 6 = .ok (.putfield 7, 3) := by decide +kernel
theorem dJxc12de_init_da8c8_9 : decode cJxc12de_init_da8c8 9 = .ok (.return_, 1) := by decide +kernel
theorem dJx4a65c_init_da8c8_0 : decode cJx4a65c_init_da8c8 0 = .ok (.aload_n 0, 1) := by decide +kernel
theorem dJx4a65c_init_da8c8_1 : decode cJx4a65c_init_da8c8 1 = .ok (.invokespecial 1, 3) := by decide +kernel
theorem dJx4a65c_init_da8c8_4 : decode cJx4a65c_init_da8c8 4 = .ok (.aload_n 0, 1) := by decide +kernel
theorem dJx4a65c_init_da8c8_5 : decode cJx4a65c_init_da8c8 5 = .ok (.getstatic 39, 3) := by decide +kernel
theorem dJx4a65c_init_da8c8_8 : decode cJx4a65c_init_da8c8 8 = .ok (.putfield 9, 3) := by decide +kernel
theorem dJx4a65c_init_da8c8_11 : decode cJx4a65c_init_da8c8 11 = .ok (.return_, 1) := by decide +kernel
theorem dJ8_newLength_cabcc_0 : decode cJ8_newLength_cabcc 0 = .ok (.iload_n 0, 1) := by decide +kernel
theorem dJ8_newLength_cabcc_1 : decode cJ8_newLength_cabcc 1 = .ok (.iload_n 1, 1) := by decide +kernel
theorem dJ8_newLength_cabcc_2 : decode cJ8_newLength_cabcc 2 = .ok (.iload_n 2, 1) := by decide +kernel
theorem dJ8_newLength_cabcc_3 : decode cJ8_newLength_cabcc 3 = .ok (.invokestatic 194, 3) := by decide +kernel
theorem dJ8_newLength_cabcc_6 : decode cJ8_newLength_cabcc 6 = .ok (.iadd, 1) := by decide +kernel
theorem dJ8_newLength_cabcc_7 : decode cJ8_newLength_cabcc 7 = .ok (.istore_n 3, 1) := by decide +kernel
theorem dJ8_newLength_cabcc_8 : decode cJ8_newLength_cabcc 8 = .ok (.iconst 0, 1) := by decide +kernel
theorem dJ8_newLength_cabcc_9 : decode cJ8_newLength_cabcc 9 = .ok (.iload_n 3, 1) := by decide +kernel
theorem dJ8_newLength_cabcc_10 : decode cJ8_newLength_cabcc 10 = .ok (.if_icmp .ge 11, 3) := by decide +kernel
theorem dJ8_newLength_cabcc_13 : decode cJ8_newLength_cabcc 13 = .ok (.iload_n 3, 1) := by decide +kernel
theorem dJ8_newLength_cabcc_14 : decode cJ8_newLength_cabcc 14 = .ok (.ldc 200, 2) := by decide +kernel
theorem dJ8_newLength_cabcc_16 : decode cJ8_newLength_cabcc 16 = .ok (.if_icmp .gt 5, 3) := by decide +kernel
theorem dJ8_newLength_cabcc_19 : decode cJ8_newLength_cabcc 19 = .ok (.iload_n 3, 1) := by decide +kernel
theorem dJ8_newLength_cabcc_20 : decode cJ8_newLength_cabcc 20 = .ok (.ireturn, 1) := by decide +kernel
theorem dJ8_newLength_cabcc_21 : decode cJ8_newLength_cabcc 21 = .ok (.iload_n 0, 1) := by decide +kernel
theorem dJ8_newLength_cabcc_22 : decode cJ8_newLength_cabcc 22 = .ok (.iload_n 1, 1) := by decide +kernel
theorem dJ8_newLength_cabcc_23 : decode cJ8_newLength_cabcc 23 = .ok (.invokestatic 201, 3) := by decide +kernel
theorem dJ8_newLength_cabcc_26 : decode cJ8_newLength_cabcc 26 = .ok (.ireturn, 1) := by decide +kernel
theorem dJ7_copyOf_6403c_0 : decode cJ7_copyOf_6403c 0 = .ok (.aload_n 2, 1) := by decide +kernel
theorem dJ7_copyOf_6403c_1 : decode cJ7_copyOf_6403c 1 = .ok (.ldc 110, 2) := by decide +kernel
theorem dJ7_copyOf_6403c_3 : decode cJ7_copyOf_6403c 3 = .ok (.if_acmp .ne 10, 3) := by decide +kernel
theorem dJ7_copyOf_6403c_6 : decode cJ7_copyOf_6403c 6 = .ok (.iload_n 1, 1) := by decide +kernel
theorem dJ7_copyOf_6403c_7 : decode cJ7_copyOf_6403c 7 = .ok (.anewarray 2, 3) := by decide +kernel
theorem dJ7_copyOf_6403c_10 : decode cJ7_copyOf_6403c 10 = .ok (.goto 14, 3) := by decide +kernel
theorem dJ7_copyOf_6403c_13 : decode cJ7_copyOf_6403c 13 = .ok (.aload_n 2, 1) := by decide +kernel
theorem dJ7_copyOf_6403c_14 : decode cJ7_copyOf_6403c 14 = .ok (.invokevirtual 90, 3) := by decide +kernel
theorem dJ7_copyOf_6403c_17 : decode cJ7_copyOf_6403c 17 = .ok (.iload_n 1, 1) := by decide +kernel
theorem dJ7_copyOf_6403c_18 : decode cJ7_copyOf_6403c 18 = .ok (.invokestatic 95, 3) := by decide +kernel
theorem dJ7_copyOf_6403c_21 : decode cJ7_copyOf_6403c 21 = .ok (.checkcast 110, 3) := by decide +kernel
theorem dJ7_copyOf_6403c_24 : decode cJ7_copyOf_6403c 24 = .ok (.astore_n 3, 1) := by decide +kernel
theorem dJ7_copyOf_6403c_25 : decode cJ7_copyOf_6403c 25 = .ok (.aload_n 0, 1) := by decide +kernel
theorem dJ7_copyOf_6403c_26 : decode cJ7_copyOf_6403c 26 = .ok (.iconst 0, 1) := by decide +kernel
theorem dJ7_copyOf_6403c_27 : decode cJ7_copyOf_6403c 27 = .ok (.aload_n 3, 1) := by decide +kernel
theorem dJ7_copyOf_6403c_28 : decode cJ7_copyOf_6403c 28 = .ok (.iconst 0, 1) := by decide +kernel
theorem dJ7_copyOf_6403c_29 : decode cJ7_copyOf_6403c 29 = .ok (.aload_n 0, 1) := by decide +kernel
theorem dJ7_copyOf_6403c_30 : decode cJ7_copyOf_6403c 30 = .ok (.arraylength, 1) := by decide +kernel
theorem dJ7_copyOf_6403c_31 : decode cJ7_copyOf_6403c 31 = .ok (.iload_n 1, 1) := by decide +kernel
theorem dJ7_copyOf_6403c_32 : decode cJ7_copyOf_6403c 32 = .ok (.invokestatic 304, 3) := by decide +kernel
theorem dJ7_copyOf_6403c_35 : decode cJ7_copyOf_6403c 35 = .ok (.invokestatic 150, 3) := by decide +kernel
theorem dJ7_copyOf_6403c_38 : decode cJ7_copyOf_6403c 38 = .ok (.aload_n 3, 1) := by decide +kernel
theorem dJ7_copyOf_6403c_39 : decode cJ7_copyOf_6403c 39 = .ok (.areturn, 1) := by decide +kernel
theorem dJ7_copyOf_1904c_0 : decode cJ7_copyOf_1904c 0 = .ok (.aload_n 0, 1) := by decide +kernel
theorem dJ7_copyOf_1904c_1 : decode cJ7_copyOf_1904c 1 = .ok (.iload_n 1, 1) := by decide +kernel
theorem dJ7_copyOf_1904c_2 : decode cJ7_copyOf_1904c 2 = .ok (.aload_n 0, 1) := by decide +kernel
theorem dJ7_copyOf_1904c_3 : decode cJ7_copyOf_1904c 3 = .ok (.invokevirtual 86, 3) := by decide +kernel
theorem dJ7_copyOf_1904c_6 : decode cJ7_copyOf_1904c 6 = .ok (.invokestatic 300, 3) := by decide +kernel
theorem dJ7_copyOf_1904c_9 : decode cJ7_copyOf_1904c 9 = .ok (.areturn, 1) := by decide +kernel
theorem dJx4a65c_toArray_d5877_0 : decode cJx4a65c_toArray_d5877 0 = .ok (.aload_n 0, 1) := by decide +kernel
theorem dJx4a65c_toArray_d5877_1 : decode cJx4a65c_toArray_d5877 1 = .ok (.getfield 9, 3) := by decide +kernel
theorem dJx4a65c_toArray_d5877_4 : decode cJx4a65c_toArray_d5877 4 = .ok (.aload_n 0, 1) := by decide +kernel
theorem dJx4a65c_toArray_d5877_5 : decode cJx4a65c_toArray_d5877 5 = .ok (.getfield 48, 3) := by decide +kernel
theorem dJx4a65c_toArray_d5877_8 : decode cJx4a65c_toArray_d5877 8 = .ok (.invokestatic 66, 3) := by decide +kernel
theorem dJx4a65c_toArray_d5877_11 : decode cJx4a65c_toArray_d5877 11 = .ok (.areturn, 1) := by decide +kernel
theorem dJx4a65c_grow_92f84_0 : decode cJx4a65c_grow_92f84 0 = .ok (.aload_n 0, 1) := by decide +kernel
theorem dJx4a65c_grow_92f84_1 : decode cJx4a65c_grow_92f84 1 = .ok (.getfield 9, 3) := by decide +kernel
theorem dJx4a65c_grow_92f84_4 : decode cJx4a65c_grow_92f84 4 = .ok (.arraylength, 1) := by decide +kernel
theorem dJx4a65c_grow_92f84_5 : decode cJx4a65c_grow_92f84 5 = .ok (.istore_n 2, 1) := by decide +kernel
theorem dJx4a65c_grow_92f84_6 : decode cJx4a65c_grow_92f84 6 = .ok (.iload_n 2, 1) := by decide +kernel
theorem dJx4a65c_grow_92f84_7 : decode cJx4a65c_grow_92f84 7 = .ok (.ifCond .gt 13, 3) := by decide +kernel
theorem dJx4a65c_grow_92f84_10 : decode cJx4a65c_grow_92f84 10 = .ok (.aload_n 0, 1) := by decide +kernel
theorem dJx4a65c_grow_92f84_11 : decode cJx4a65c_grow_92f84 11 = .ok (.getfield 9, 3) := by decide +kernel
theorem dJx4a65c_grow_92f84_14 : decode cJx4a65c_grow_92f84 14 = .ok (.getstatic 39, 3) := by decide +kernel
theorem dJx4a65c_grow_92f84_17 : decode cJx4a65c_grow_92f84 17 = .ok (.if_acmp .eq 28, 3) := by decide +kernel
theorem dJx4a65c_grow_92f84_20 : decode cJx4a65c_grow_92f84 20 = .ok (.iload_n 2, 1) := by decide +kernel
theorem dJx4a65c_grow_92f84_21 : decode cJx4a65c_grow_92f84 21 = .ok (.iload_n 1, 1) := by decide +kernel
theorem dJx4a65c_grow_92f84_22 : decode cJx4a65c_grow_92f84 22 = .ok (.iload_n 2, 1) := by decide +kernel
theorem dJx4a65c_grow_92f84_23 : decode cJx4a65c_grow_92f84 23 = .ok (.isub, 1) := by decide +kernel
theorem dJx4a65c_grow_92f84_24 : decode cJx4a65c_grow_92f84 24 = .ok (.iload_n 2, 1) := by decide +kernel
theorem dJx4a65c_grow_92f84_25 : decode cJx4a65c_grow_92f84 25 = .ok (.iconst 1, 1) := by decide +kernel
theorem dJx4a65c_grow_92f84_26 : decode cJx4a65c_grow_92f84 26 = .ok (.ishr, 1) := by decide +kernel
theorem dJx4a65c_grow_92f84_27 : decode cJx4a65c_grow_92f84 27 = .ok (.invokestatic 73, 3) := by decide +kernel
theorem dJx4a65c_grow_92f84_30 : decode cJx4a65c_grow_92f84 30 = .ok (.istore_n 3, 1) := by decide +kernel
theorem dJx4a65c_grow_92f84_31 : decode cJx4a65c_grow_92f84 31 = .ok (.aload_n 0, 1) := by decide +kernel
theorem dJx4a65c_grow_92f84_32 : decode cJx4a65c_grow_92f84 32 = .ok (.aload_n 0, 1) := by decide +kernel
theorem dJx4a65c_grow_92f84_33 : decode cJx4a65c_grow_92f84 33 = .ok (.getfield 9, 3) := by decide +kernel
theorem dJx4a65c_grow_92f84_36 : decode cJx4a65c_grow_92f84 36 = .ok (.iload_n 3, 1) := by decide +kernel
theorem dJx4a65c_grow_92f84_37 : decode cJx4a65c_grow_92f84 37 = .ok (.invokestatic 66, 3) := by decide +kernel
theorem dJx4a65c_grow_92f84_40 : decode cJx4a65c_grow_92f84 40 = .ok (.dup_x1, 1) := by decide +kernel
theorem dJx4a65c_grow_92f84_41 : decode cJx4a65c_grow_92f84 41 = .ok (.putfield 9, 3) := by decide +kernel
theorem dJx4a65c_grow_92f84_44 : decode cJx4a65c_grow_92f84 44 = .ok (.areturn, 1) := by decide +kernel
theorem dJx4a65c_grow_92f84_45 : decode cJx4a65c_grow_92f84 45 = .ok (.aload_n 0, 1) := by decide +kernel
theorem dJx4a65c_grow_92f84_46 : decode cJx4a65c_grow_92f84 46 = .ok (.bipush 10, 2) := by decide +kernel
theorem dJx4a65c_grow_92f84_48 : decode cJx4a65c_grow_92f84 48 = .ok (.iload_n 1, 1) := by decide +kernel
theorem dJx4a65c_grow_92f84_49 : decode cJx4a65c_grow_92f84 49 = .ok (.invokestatic 79, 3) := by decide +kernel
theorem dJx4a65c_grow_92f84_52 : decode cJx4a65c_grow_92f84 52 = .ok (.anewarray 7, 3) := by decide +kernel
theorem dJx4a65c_grow_92f84_55 : decode cJx4a65c_grow_92f84 55 = .ok (.dup_x1, 1) := by decide +kernel
theorem dJx4a65c_grow_92f84_56 : decode cJx4a65c_grow_92f84 56 = .ok (.putfield 9, 3) := by decide +kernel
theorem dJx4a65c_grow_92f84_59 : decode cJx4a65c_grow_92f84 59 = .ok (.areturn, 1) := by decide +kernel
theorem dJx4a65c_grow_d5877_0 : decode cJx4a65c_grow_d5877 0 = .ok (.aload_n 0, 1) := by decide +kernel
theorem dJx4a65c_grow_d5877_1 : decode cJx4a65c_grow_d5877 1 = .ok (.aload_n 0, 1) := by decide +kernel
theorem dJx4a65c_grow_d5877_2 : decode cJx4a65c_grow_d5877 2 = .ok (.getfield 48, 3) := by decide +kernel
theorem dJx4a65c_grow_d5877_5 : decode cJx4a65c_grow_d5877 5 = .ok (.iconst 1, 1) := by decide +kernel
theorem dJx4a65c_grow_d5877_6 : decode cJx4a65c_grow_d5877 6 = .ok (.iadd, 1) := by decide +kernel
theorem dJx4a65c_grow_d5877_7 : decode cJx4a65c_grow_d5877 7 = .ok (.invokevirtual 69, 3) := by decide +kernel
theorem dJx4a65c_grow_d5877_10 : decode cJx4a65c_grow_d5877 10 = .ok (.areturn, 1) := by decide +kernel
theorem dJx4a65c_add_72be8_0 : decode cJx4a65c_add_72be8 0 = .ok (.iload_n 3, 1) := by decide +kernel
theorem dJx4a65c_add_72be8_1 : decode cJx4a65c_add_72be8 1 = .ok (.aload_n 2, 1) := by decide +kernel
theorem dJx4a65c_add_72be8_2 : decode cJx4a65c_add_72be8 2 = .ok (.arraylength, 1) := by decide +kernel
theorem dJx4a65c_add_72be8_3 : decode cJx4a65c_add_72be8 3 = .ok (.if_icmp .ne 8, 3) := by decide +kernel
theorem dJx4a65c_add_72be8_6 : decode cJx4a65c_add_72be8 6 = .ok (.aload_n 0, 1) := by decide +kernel
theorem dJx4a65c_add_72be8_7 : decode cJx4a65c_add_72be8 7 = .ok (.invokevirtual 129, 3) := by decide +kernel
theorem dJx4a65c_add_72be8_10 : decode cJx4a65c_add_72be8 10 = .ok (.astore_n 2, 1) := by decide +kernel
theorem dJx4a65c_add_72be8_11 : decode cJx4a65c_add_72be8 11 = .ok (.aload_n 2, 1) := by decide +kernel
theorem dJx4a65c_add_72be8_12 : decode cJx4a65c_add_72be8 12 = .ok (.iload_n 3, 1) := by decide +kernel
theorem dJx4a65c_add_72be8_13 : decode cJx4a65c_add_72be8 13 = .ok (.aload_n 1, 1) := by decide +kernel
theorem dJx4a65c_add_72be8_14 : decode cJx4a65c_add_72be8 14 = .ok (.aastore, 1) := by decide +kernel
theorem dJx4a65c_add_72be8_15 : decode cJx4a65c_add_72be8 15 = .ok (.aload_n 0, 1) := by decide +kernel
theorem dJx4a65c_add_72be8_16 : decode cJx4a65c_add_72be8 16 = .ok (.iload_n 3, 1) := by decide +kernel
theorem dJx4a65c_add_72be8_17 : decode cJx4a65c_add_72be8 17 = .ok (.iconst 1, 1) := by decide +kernel
theorem dJx4a65c_add_72be8_18 : decode cJx4a65c_add_72be8 18 = .ok (.iadd, 1) := by decide +kernel
theorem dJx4a65c_add_72be8_19 : decode cJx4a65c_add_72be8 19 = .ok (.putfield 48, 3) := by decide +kernel
theorem dJx4a65c_add_72be8_22 : decode cJx4a65c_add_72be8 22 = .ok (.return_, 1) := by decide +kernel
theorem dJx4a65c_add_9ea2d_0 : decode cJx4a65c_add_9ea2d 0 = .ok (.aload_n 0, 1) := by decide +kernel
theorem dJx4a65c_add_9ea2d_1 : decode cJx4a65c_add_9ea2d 1 = .ok (.dup, 1) := by decide +kernel
theorem dJx4a65c_add_9ea2d_2 : decode cJx4a65c_add_9ea2d 2 = .ok (.getfield 63, 3) := by decide +kernel
theorem dJx4a65c_add_9ea2d_5 : decode cJx4a65c_add_9ea2d 5 = .ok (.iconst 1, 1) := by decide +kernel
theorem dJx4a65c_add_9ea2d_6 : decode cJx4a65c_add_9ea2d 6 = .ok (.iadd, 1) := by decide +kernel
theorem dJx4a65c_add_9ea2d_7 : decode cJx4a65c_add_9ea2d 7 = .ok (.putfield 63, 3) := by decide +kernel
theorem dJx4a65c_add_9ea2d_10 : decode cJx4a65c_add_9ea2d 10 = .ok (.aload_n 0, 1) := by decide +kernel
theorem dJx4a65c_add_9ea2d_11 : decode cJx4a65c_add_9ea2d 11 = .ok (.aload_n 1, 1) := by decide +kernel
theorem dJx4a65c_add_9ea2d_12 : decode cJx4a65c_add_9ea2d 12 = .ok (.aload_n 0, 1) := by decide +kernel
theorem dJx4a65c_add_9ea2d_13 : decode cJx4a65c_add_9ea2d 13 = .ok (.getfield 9, 3) := by decide +kernel
theorem dJx4a65c_add_9ea2d_16 : decode cJx4a65c_add_9ea2d 16 = .ok (.aload_n 0, 1) := by decide +kernel
theorem dJx4a65c_add_9ea2d_17 : decode cJx4a65c_add_9ea2d 17 = .ok (.getfield 48, 3) := by decide +kernel
theorem dJx4a65c_add_9ea2d_20 : decode cJx4a65c_add_9ea2d 20 = .ok (.invokevirtual 131, 3) := by decide +kernel
theorem dJx4a65c_add_9ea2d_23 : decode cJx4a65c_add_9ea2d 23 = .ok (.iconst 1, 1) := by decide +kernel
theorem dJx4a65c_add_9ea2d_24 : decode cJx4a65c_add_9ea2d 24 = .ok (.ireturn, 1) := by decide +kernel
theorem dJx4a65c_size_8abf5_0 : decode cJx4a65c_size_8abf5 0 = .ok (.aload_n 0, 1) := by decide +kernel
theorem dJx4a65c_size_8abf5_1 : decode cJx4a65c_size_8abf5 1 = .ok (.getfield 48, 3) := by decide +kernel
theorem dJx4a65c_size_8abf5_4 : decode cJx4a65c_size_8abf5 4 = .ok (.ireturn, 1) := by decide +kernel
theorem dJ3_checkIndex_8e157_0 : decode cJ3_checkIndex_8e157 0 = .ok (.iload_n 0, 1) := by decide +kernel
theorem dJ3_checkIndex_8e157_1 : decode cJ3_checkIndex_8e157 1 = .ok (.ifCond .lt 8, 3) := by decide +kernel
theorem dJ3_checkIndex_8e157_4 : decode cJ3_checkIndex_8e157 4 = .ok (.iload_n 0, 1) := by decide +kernel
theorem dJ3_checkIndex_8e157_5 : decode cJ3_checkIndex_8e157 5 = .ok (.iload_n 1, 1) := by decide +kernel
theorem dJ3_checkIndex_8e157_6 : decode cJ3_checkIndex_8e157 6 = .ok (.if_icmp .lt 10, 3) := by decide +kernel
theorem dJ3_checkIndex_8e157_9 : decode cJ3_checkIndex_8e157 9 = .ok (.aload_n 2, 1) := by decide +kernel
theorem dJ3_checkIndex_8e157_10 : decode cJ3_checkIndex_8e157 10 = .ok (.iload_n 0, 1) := by decide +kernel
theorem dJ3_checkIndex_8e157_11 : decode cJ3_checkIndex_8e157 11 = .ok (.iload_n 1, 1) := by decide +kernel
theorem dJ3_checkIndex_8e157_12 : decode cJ3_checkIndex_8e157 12 = .ok (.invokestatic 95, 3) := by decide +kernel
theorem dJ3_checkIndex_8e157_15 : decode cJ3_checkIndex_8e157 15 = .ok (.athrow, 1) := by decide +kernel
theorem dJ3_checkIndex_8e157_16 : decode cJ3_checkIndex_8e157 16 = .ok (.iload_n 0, 1) := by decide +kernel
theorem dJ3_checkIndex_8e157_17 : decode cJ3_checkIndex_8e157 17 = .ok (.ireturn, 1) := by decide +kernel
theorem dJ15_checkIndex_7cf53_0 : decode cJ15_checkIndex_7cf53 0 = .ok (.iload_n 0, 1) := by decide +kernel
theorem dJ15_checkIndex_7cf53_1 : decode cJ15_checkIndex_7cf53 1 = .ok (.iload_n 1, 1) := by decide +kernel
theorem dJ15_checkIndex_7cf53_2 : decode cJ15_checkIndex_7cf53 2 = .ok (.aconst_null, 1) := by decide +kernel
theorem dJ15_checkIndex_7cf53_3 : decode cJ15_checkIndex_7cf53 3 = .ok (.invokestatic 105, 3) := by decide +kernel
theorem dJ15_checkIndex_7cf53_6 : decode cJ15_checkIndex_7cf53 6 = .ok (.ireturn, 1) := by decide +kernel
theorem dJx4a65c_elementData_915e3_0 : decode cJx4a65c_elementData_915e3 0 = .ok (.aload_n 0, 1) := by decide +kernel
theorem dJx4a65c_elementData_915e3_1 : decode cJx4a65c_elementData_915e3 1 = .ok (.getfield 9, 3) := by decide +kernel
theorem dJx4a65c_elementData_915e3_4 : decode cJx4a65c_elementData_915e3 4 = .ok (.iload_n 1, 1) := by decide +kernel
theorem dJx4a65c_elementData_915e3_5 : decode cJx4a65c_elementData_915e3 5 = .ok (.aaload, 1) := by decide +kernel
theorem dJx4a65c_elementData_915e3_6 : decode cJx4a65c_elementData_915e3 6 = .ok (.areturn, 1) := by decide +kernel
theorem dJx4a65c_get_915e3_0 : decode cJx4a65c_get_915e3 0 = .ok (.iload_n 1, 1) := by decide +kernel
theorem dJx4a65c_get_915e3_1 : decode cJx4a65c_get_915e3 1 = .ok (.aload_n 0, 1) := by decide +kernel
theorem dJx4a65c_get_915e3_2 : decode cJx4a65c_get_915e3 2 = .ok (.getfield 48, 3) := by decide +kernel
theorem dJx4a65c_get_915e3_5 : decode cJx4a65c_get_915e3 5 = .ok (.invokestatic 118, 3) := by decide +kernel
theorem dJx4a65c_get_915e3_8 : decode cJx4a65c_get_915e3 8 = .ok (.pop, 1) := by decide +kernel
theorem dJx4a65c_get_915e3_9 : decode cJx4a65c_get_915e3 9 = .ok (.aload_n 0, 1) := by decide +kernel
theorem dJx4a65c_get_915e3_10 : decode cJx4a65c_get_915e3 10 = .ok (.iload_n 1, 1) := by decide +kernel
theorem dJx4a65c_get_915e3_11 : decode cJx4a65c_get_915e3 11 = .ok (.invokevirtual 123, 3) := by decide +kernel
theorem dJx4a65c_get_915e3_14 : decode cJx4a65c_get_915e3 14 = .ok (.areturn, 1) := by decide +kernel
theorem dJx4a65c_addAll_f0b43_0 : decode cJx4a65c_addAll_f0b43 0 = .ok (.aload_n 1, 1) := by decide +kernel
theorem dJx4a65c_addAll_f0b43_1 : decode cJx4a65c_addAll_f0b43 1 = .ok (.invokeinterface 42 1, 5) := by decide +kernel
theorem dJx4a65c_addAll_f0b43_6 : decode cJx4a65c_addAll_f0b43 6 = .ok (.astore_n 2, 1) := by decide +kernel
theorem dJx4a65c_addAll_f0b43_7 : decode cJx4a65c_addAll_f0b43 7 = .ok (.aload_n 0, 1) := by decide +kernel
theorem dJx4a65c_addAll_f0b43_8 : decode cJx4a65c_addAll_f0b43 8 = .ok (.dup, 1) := by decide +kernel
theorem dJx4a65c_addAll_f0b43_9 : decode cJx4a65c_addAll_f0b43 9 = .ok (.getfield 63, 3) := by decide +kernel
theorem dJx4a65c_addAll_f0b43_12 : decode cJx4a65c_addAll_f0b43 12 = .ok (.iconst 1, 1) := by decide +kernel
theorem dJx4a65c_addAll_f0b43_13 : decode cJx4a65c_addAll_f0b43 13 = .ok (.iadd, 1) := by decide +kernel
theorem dJx4a65c_addAll_f0b43_14 : decode cJx4a65c_addAll_f0b43 14 = .ok (.putfield 63, 3) := by decide +kernel
theorem dJx4a65c_addAll_f0b43_17 : decode cJx4a65c_addAll_f0b43 17 = .ok (.aload_n 2, 1) := by decide +kernel
theorem dJx4a65c_addAll_f0b43_18 : decode cJx4a65c_addAll_f0b43 18 = .ok (.arraylength, 1) := by decide +kernel
theorem dJx4a65c_addAll_f0b43_19 : decode cJx4a65c_addAll_f0b43 19 = .ok (.istore_n 3, 1) := by decide +kernel
theorem dJx4a65c_addAll_f0b43_20 : decode cJx4a65c_addAll_f0b43 20 = .ok (.iload_n 3, 1) := by decide +kernel
theorem dJx4a65c_addAll_f0b43_21 : decode cJx4a65c_addAll_f0b43 21 = .ok (.ifCond .ne 5, 3) := by decide +kernel
theorem dJx4a65c_addAll_f0b43_24 : decode cJx4a65c_addAll_f0b43 24 = .ok (.iconst 0, 1) := by decide +kernel
theorem dJx4a65c_addAll_f0b43_25 : decode cJx4a65c_addAll_f0b43 25 = .ok (.ireturn, 1) := by decide +kernel
theorem dJx4a65c_addAll_f0b43_26 : decode cJx4a65c_addAll_f0b43 26 = .ok (.iload_n 3, 1) := by decide +kernel
theorem dJx4a65c_addAll_f0b43_27 : decode cJx4a65c_addAll_f0b43 27 = .ok (.aload_n 0, 1) := by decide +kernel
theorem dJx4a65c_addAll_f0b43_28 : decode cJx4a65c_addAll_f0b43 28 = .ok (.getfield 9, 3) := by decide +kernel
theorem dJx4a65c_addAll_f0b43_31 : decode cJx4a65c_addAll_f0b43 31 = .ok (.dup, 1) := by decide +kernel
theorem dJx4a65c_addAll_f0b43_32 : decode cJx4a65c_addAll_f0b43 32 = .ok (.astore 4, 2) := by decide +kernel
theorem dJx4a65c_addAll_f0b43_34 : decode cJx4a65c_addAll_f0b43 34 = .ok (.arraylength, 1) := by decide +kernel
theorem dJx4a65c_addAll_f0b43_35 : decode cJx4a65c_addAll_f0b43 35 = .ok (.aload_n 0, 1) := by decide +kernel
theorem dJx4a65c_addAll_f0b43_36 : decode cJx4a65c_addAll_f0b43 36 = .ok (.getfield 48, 3) := by decide +kernel
theorem dJx4a65c_addAll_f0b43_39 : decode cJx4a65c_addAll_f0b43 39 = .ok (.dup, 1) := by decide +kernel
theorem dJx4a65c_addAll_f0b43_40 : decode cJx4a65c_addAll_f0b43 40 = .ok (.istore 5, 2) := by decide +kernel
theorem dJx4a65c_addAll_f0b43_42 : decode cJx4a65c_addAll_f0b43 42 = .ok (.isub, 1) := by decide +kernel
theorem dJx4a65c_addAll_f0b43_43 : decode cJx4a65c_addAll_f0b43 43 = .ok (.if_icmp .le 13, 3) := by decide +kernel
theorem dJx4a65c_addAll_f0b43_46 : decode cJx4a65c_addAll_f0b43 46 = .ok (.aload_n 0, 1) := by decide +kernel
theorem dJx4a65c_addAll_f0b43_47 : decode cJx4a65c_addAll_f0b43 47 = .ok (.iload 5, 2) := by decide +kernel
theorem dJx4a65c_addAll_f0b43_49 : decode cJx4a65c_addAll_f0b43 49 = .ok (.iload_n 3, 1) := by decide +kernel
theorem dJx4a65c_addAll_f0b43_50 : decode cJx4a65c_addAll_f0b43 50 = .ok (.iadd, 1) := by decide +kernel
theorem dJx4a65c_addAll_f0b43_51 : decode cJx4a65c_addAll_f0b43 51 = .ok (.invokevirtual 69, 3) := by decide +kernel
theorem dJx4a65c_addAll_f0b43_54 : decode cJx4a65c_addAll_f0b43 54 = .ok (.astore 4, 2) := by decide +kernel
theorem dJx4a65c_addAll_f0b43_56 : decode cJx4a65c_addAll_f0b43 56 = .ok (.aload_n 2, 1) := by decide +kernel
theorem dJx4a65c_addAll_f0b43_57 : decode cJx4a65c_addAll_f0b43 57 = .ok (.iconst 0, 1) := by decide +kernel
theorem dJx4a65c_addAll_f0b43_58 : decode cJx4a65c_addAll_f0b43 58 = .ok (.aload 4, 2) := by decide +kernel
theorem dJx4a65c_addAll_f0b43_60 : decode cJx4a65c_addAll_f0b43 60 = .ok (.iload 5, 2) := by decide +kernel
theorem dJx4a65c_addAll_f0b43_62 : decode cJx4a65c_addAll_f0b43 62 = .ok (.iload_n 3, 1) := by decide +kernel
theorem dJx4a65c_addAll_f0b43_63 : decode cJx4a65c_addAll_f0b43 63 = .ok (.invokestatic 112, 3) := by decide +kernel
theorem dJx4a65c_addAll_f0b43_66 : decode cJx4a65c_addAll_f0b43 66 = .ok (.aload_n 0, 1) := by decide +kernel
theorem dJx4a65c_addAll_f0b43_67 : decode cJx4a65c_addAll_f0b43 67 = .ok (.iload 5, 2) := by decide +kernel
theorem dJx4a65c_addAll_f0b43_69 : decode cJx4a65c_addAll_f0b43 69 = .ok (.iload_n 3, 1) := by decide +kernel
theorem dJx4a65c_addAll_f0b43_70 : decode cJx4a65c_addAll_f0b43 70 = .ok (.iadd, 1) := by decide +kernel
theorem dJx4a65c_addAll_f0b43_71 : decode cJx4a65c_addAll_f0b43 71 = .ok (.putfield 48, 3) := by decide +kernel
theorem dJx4a65c_addAll_f0b43_74 : decode cJx4a65c_addAll_f0b43 74 = .ok (.iconst 1, 1) := by decide +kernel
theorem dJx4a65c_addAll_f0b43_75 : decode cJx4a65c_addAll_f0b43 75 = .ok (.ireturn, 1) := by decide +kernel
/-! by program: wip/whole/gen.py out of wip/whole/src/31.jdk.eb -/
/-! the JDK's methods that the law reaches: Integer, ArrayList, Arrays, Objects -/
set_option maxRecDepth 100000 in
set_option maxHeartbeats 8000000 in
theorem c_J6_valueOf_2dffe {l : Launch} {D : va_G} {cys : Nat → ClassId} {ad : Nat → Int → Nat} {L : List Nat} {g : Nat → va_E} {X : Int64} {Z : ZT} (hi : injA ad) {x : Int} (hx : 0 ≤ x ∧ x < 100) : CM l D cys ad yJ6_valueOf_2dffe cJ6_valueOf_2dffe 1 (some (.object "java/lang/Integer")) 0 0 0 0 [.int (iI x)] L g X Z (PR L g X Z (fun r => r = ad 41 (x + 128))) := by
  refine cm_start hi (by decide +kernel) (Nat.le_of_ble_eq_true rfl) ?_
  intro p_ e_ s_ m_ args_ below_ meth_ c_ A_ Q_ hQ G hr hin
  refine j_iload_n G dJ6_valueOf_2dffe_0 rfl ?_
  refine j_bipush G dJ6_valueOf_2dffe_1 (by decide +kernel) ?_
  refine j_icmp_lt G 23 dJ6_valueOf_2dffe_3 (by decide) (by omega) (by omega) (fun c3 => ?_) (fun c3 => ?_)
  · exfalso; omega
  · refine j_iload_n G dJ6_valueOf_2dffe_6 rfl ?_
    refine j_gets G G.amx.2.1.2.1 lfIN_191 dJ6_valueOf_2dffe_7 ?_
    rw [show (127 : Int32) = iI 127 by decide +kernel]
    refine j_icmp_gt G 23 dJ6_valueOf_2dffe_10 (by decide) (by omega) (by omega) (fun c10 => ?_) (fun c10 => ?_)
    · exfalso; omega
    · refine j_gets G G.amx.2.1.2.2.1 lfIN_195 dJ6_valueOf_2dffe_13 ?_
      refine j_iload_n G dJ6_valueOf_2dffe_16 rfl ?_
      refine j_sipush G dJ6_valueOf_2dffe_17 (by decide +kernel) ?_
      refine j_iadd G dJ6_valueOf_2dffe_20 ?_
      refine jc_ld G dJ6_valueOf_2dffe_21 (by omega) (by omega) ?_
      refine jr_R G hQ hr (Or.inl ⟨_, rfl⟩) dJ6_valueOf_2dffe_22 (by decide) (by decide) ?_
      rfl
set_option maxRecDepth 100000 in
set_option maxHeartbeats 8000000 in
theorem c_J6_intValue_8abf5 {l : Launch} {D : va_G} {cys : Nat → ClassId} {ad : Nat → Int → Nat} {L : List Nat} {g : Nat → va_E} {X : Int64} {Z : ZT} (hi : injA ad) {x : Int} (hx : 0 ≤ x ∧ x < 256) : CM l D cys ad yJ6_intValue_8abf5 cJ6_intValue_8abf5 1 (some .int) 0 0 0 0 [.ref (ad 41 x)] L g X Z (PI L g X Z (fun r => r = x - 128)) := by
  refine cm_start hi (by decide +kernel) (Nat.le_of_ble_eq_true rfl) ?_
  intro p_ e_ s_ m_ args_ below_ meth_ c_ A_ Q_ hQ G hr hin
  refine j_aload_n G dJ6_intValue_8abf5_0 rfl ?_
  refine jc_val G hx.1 hx.2 lfIN_205 dJ6_intValue_8abf5_1 ?_
  refine jr_I G hQ hr dJ6_intValue_8abf5_4 (by decide) (by decide) ?_
  rfl
set_option maxRecDepth 100000 in
set_option maxHeartbeats 8000000 in
theorem c_Jxa1e45_init_da8c8 {l : Launch} {D : va_G} {cys : Nat → ClassId} {ad : Nat → Int → Nat} {L : List Nat} {g : Nat → va_E} {X : Int64} {Z : ZT} (hi : injA ad) {a : Nat}  : CM l D cys ad yJxa1e45_init_da8c8 cJxa1e45_init_da8c8 1 none 1 12 0 0 [.ref a] L g X Z (PVZ L g X Z (fun Z' => Z' = Z)) := by
  refine cm_start hi (by decide +kernel) (Nat.le_of_ble_eq_true rfl) ?_
  intro p_ e_ s_ m_ args_ below_ meth_ c_ A_ Q_ hQ G hr hin
  refine j_aload_n G dJxa1e45_init_da8c8_0 rfl ?_
  refine j_objInit G (TW_of 684 (by decide +kernel) (by decide +kernel)) (TW_of 68 (by decide +kernel) (by decide +kernel)) (TW_of 69 (by decide +kernel) (by decide +kernel)) dJxa1e45_init_da8c8_1 (by decide) (by decide) ?_
  refine jr_VZ G hQ hr dJxa1e45_init_da8c8_4 (by decide) (by decide) ?_
  rfl
set_option maxRecDepth 100000 in
set_option maxHeartbeats 8000000 in
theorem c_Jxc12de_init_da8c8 {l : Launch} {D : va_G} {cys : Nat → ClassId} {ad : Nat → Int → Nat} {L : List Nat} {g : Nat → va_E} {X : Int64} {Z : ZT} (hi : injA ad) {a : Nat} {v0 v1 v2 : Value} (hO : OB ad L g a 9 [v0, v1, v2]) : CM l D cys ad yJxc12de_init_da8c8 cJxc12de_init_da8c8 1 none 2 32 0 0 [.ref a] L g X Z (PGV L g X Z (fun L9 g9 X9 Z9 => L9 = L ∧ g9 = va_up g a (.inr (9, [.int (iI 0), v1, v2])) ∧ X9 = X ∧ Z9 = Z)) := by
  refine cm_start hi (by decide +kernel) (Nat.le_of_ble_eq_true rfl) ?_
  intro p_ e_ s_ m_ args_ below_ meth_ c_ A_ Q_ hQ G hr hin
  refine j_aload_n G dJxc12de_init_da8c8_0 rfl ?_
  refine j_cI_VZ G (TW_of 682 (by decide +kernel) (by decide +kernel)) (TW_of 50 (by decide +kernel) (by decide +kernel)) (TW_of 683 (by decide +kernel) (by decide +kernel)) ⟨by decide +kernel, by decide +kernel, by decide +kernel⟩ rfl (TW_of 681 (by decide +kernel) (by decide +kernel)) (c_Jxa1e45_init_da8c8 hi) dJxc12de_init_da8c8_1 ⟨by decide, by decide⟩ ⟨by decide, by decide⟩ rfl rfl (Nat.le_of_ble_eq_true rfl) (fun Z1 hZ1 => ?_)
  subst Z1
  refine j_aload_n G dJxc12de_init_da8c8_4 rfl ?_
  refine j_iconst G dJxc12de_init_da8c8_5 ?_
  refine jo_put G 0 hO dJxc12de_init_da8c8_6 rfl (by decide) (Nat.le_of_ble_eq_true rfl) lfBL_7 (Or.inl rfl) rfl inTL tyJx4a65c_ok nmJx4a65c (ty := .int) (by decide +kernel) rfl rfl ?_
  refine jr_GV G hQ hr dJxc12de_init_da8c8_9 (by first | decide | omega) (by first | decide | omega) ?_
  exact ⟨rfl, rfl, rfl, rfl⟩
set_option maxRecDepth 100000 in
set_option maxHeartbeats 8000000 in
theorem c_Jx4a65c_init_da8c8 {l : Launch} {D : va_G} {cys : Nat → ClassId} {ad : Nat → Int → Nat} {L : List Nat} {g : Nat → va_E} {X : Int64} {Z : ZT} (hi : injA ad) {a : Nat} (hO : OB ad L g a 9 [.int 0, .null, .int 0]) : CM l D cys ad yJx4a65c_init_da8c8 cJx4a65c_init_da8c8 1 none 3 52 0 0 [.ref a] L g X Z (PGV L g X Z (fun L9 g9 X9 Z9 => L9 = L ∧ g9 = va_up g a (.inr (9, [.int (iI 0), .ref (ad 42 1), .int (iI 0)])) ∧ X9 = X ∧ Z9 = Z)) := by
  refine cm_start hi (by decide +kernel) (Nat.le_of_ble_eq_true rfl) ?_
  intro p_ e_ s_ m_ args_ below_ meth_ c_ A_ Q_ hQ G hr hin
  have hO1 : OB ad L (va_up g a (.inr (9, [.int (iI 0), .null, .int 0]))) a 9 [.int (iI 0), .null, .int 0] := ⟨hO.1, hO.2.1, va_up_self _ _ _⟩
  refine j_aload_n G dJx4a65c_init_da8c8_0 rfl ?_
  refine j_cI_GV G (TW_of 679 (by decide +kernel) (by decide +kernel)) (TW_of 51 (by decide +kernel) (by decide +kernel)) (TW_of 680 (by decide +kernel) (by decide +kernel)) ⟨by decide +kernel, by decide +kernel, by decide +kernel⟩ rfl (TW_of 678 (by decide +kernel) (by decide +kernel)) (c_Jxc12de_init_da8c8 hi hO) dJx4a65c_init_da8c8_1 ⟨by decide, by decide⟩ ⟨by decide, by decide⟩ rfl rfl (Nat.le_of_ble_eq_true rfl) (fun L1 g1 X1 Z1 h1 => ?_)
  obtain ⟨e1, e2, e3, e4⟩ := h1
  subst L1 g1 X1 Z1
  refine j_aload_n G dJx4a65c_init_da8c8_4 rfl ?_
  refine j_gets G G.amx.2.2.1.1 lfAL_39 dJx4a65c_init_da8c8_5 ?_
  refine jo_put G 1 hO1 dJx4a65c_init_da8c8_8 rfl (by decide) (Nat.le_of_ble_eq_true rfl) lfAL_9 (Or.inl rfl) rfl inTL tyJx4a65c_ok nmJx4a65c (ty := .array (.object "java/lang/Object")) (by decide +kernel) rfl rfl ?_
  refine jr_GV G hQ hr dJx4a65c_init_da8c8_11 (by first | decide | omega) (by first | decide | omega) ?_
  refine ⟨rfl, ?_, rfl, rfl⟩
  rw [bx_uu, iI_0]
  rfl
set_option maxRecDepth 100000 in
set_option maxHeartbeats 8000000 in
theorem c_J8_newLength_cabcc {l : Launch} {D : va_G} {cys : Nat → ClassId} {ad : Nat → Int → Nat} {L : List Nat} {g : Nat → va_E} {X : Int64} {Z : ZT} (hi : injA ad) {a b q : Int} (ha : 1 ≤ a ∧ a ≤ 1000) (hb : 0 ≤ b ∧ b ≤ 1000) (hq : 0 ≤ q ∧ q ≤ 1000) : CM l D cys ad yJ8_newLength_cabcc cJ8_newLength_cabcc 4 (some .int) 1 20 0 0 [.int (iI a), .int (iI b), .int (iI q)] L g X Z (PI L g X Z (fun r => r = a + (if b < q then q else b))) := by
  refine cm_start hi (by decide +kernel) (Nat.le_of_ble_eq_true rfl) ?_
  intro p_ e_ s_ m_ args_ below_ meth_ c_ A_ Q_ hQ G hr hin
  obtain ⟨w, hw⟩ : ∃ w : Int, w = a + (if b < q then q else b) := ⟨_, rfl⟩
  have hwb : 1 ≤ w ∧ w ≤ 2000 := by rw [hw]; split <;> omega
  refine j_iload_n G dJ8_newLength_cabcc_0 rfl ?_
  refine j_iload_n G dJ8_newLength_cabcc_1 rfl ?_
  refine j_iload_n G dJ8_newLength_cabcc_2 rfl ?_
  refine j_max G (TW_of 738 (by decide +kernel) (by decide +kernel)) (TW_of 396 (by decide +kernel) (by decide +kernel)) (TW_of 57 (by decide +kernel) (by decide +kernel)) (TW_of 397 (by decide +kernel) (by decide +kernel)) dJ8_newLength_cabcc_3 (by decide) (Nat.le_of_ble_eq_true rfl) (by decide) (by decide) (by omega) (by omega) ?_
  refine j_iadd G dJ8_newLength_cabcc_6 ?_
  rw [← hw]
  refine j_istore_n G dJ8_newLength_cabcc_7 (by decide) rfl ?_
  refine j_iconst G dJ8_newLength_cabcc_8 ?_
  refine j_iload_n G dJ8_newLength_cabcc_9 rfl ?_
  refine j_icmp_ge G 21 dJ8_newLength_cabcc_10 (by decide) (by omega) (by omega) (fun c10 => ?_) (fun c10 => ?_)
  · exfalso; omega
  · refine j_iload_n G dJ8_newLength_cabcc_13 rfl ?_
    refine j_ldc G (v := 2147483639) 2147483639 (by decide +kernel) (TW_of 739 (by decide +kernel) (by decide +kernel)) dJ8_newLength_cabcc_14 ?_
    refine j_icmp_gt G 21 dJ8_newLength_cabcc_16 (by decide) (by omega) (by omega) (fun c16 => ?_) (fun c16 => ?_)
    · exfalso; omega
    · refine j_iload_n G dJ8_newLength_cabcc_19 rfl ?_
      refine jr_I G hQ hr dJ8_newLength_cabcc_20 (by decide) (by decide) ?_
      exact hw
set_option maxRecDepth 100000 in
set_option maxHeartbeats 8000000 in
theorem c_J7_copyOf_6403c {l : Launch} {D : va_G} {cys : Nat → ClassId} {ad : Nat → Int → Nat} {L : List Nat} {g : Nat → va_E} {X : Int64} {Z : ZT} (hi : injA ad) {a N : Nat} {f : Nat → Option Nat} {n : Int} (hE : ES cys ad L g a N f) (hN : N ≤ 40) (hn : 0 ≤ n ∧ n ≤ 40) (hf : ICO ad f (min N n.toNat)) : CM l D cys ad yJ7_copyOf_6403c cJ7_copyOf_6403c 4 (some (.array (.object "java/lang/Object"))) 1 40 1 40 [.ref a, .int (iI n), .ref (ad 42 2)] L g X Z (PGA L g X Z (fun r L9 g9 X9 Z9 => r ∉ L ∧ ¬ isS ad r ∧ L9 = L ++ [r] ∧ g9 = va_up g r (eQ (cys 2) n.toNat (va_cpy f (fun _ => none) 0 0 (min N n.toNat))) ∧ X9 = X ∧ Z9 = Z)) := by
  refine cm_start hi (by decide +kernel) (Nat.le_of_ble_eq_true rfl) ?_
  intro p_ e_ s_ m_ args_ below_ meth_ c_ A_ Q_ hQ G hr hin
  refine j_aload_n G dJ7_copyOf_6403c_0 rfl ?_
  refine jm_ldc G (TW_of 766 (by decide +kernel) (by decide +kernel)) dJ7_copyOf_6403c_1 ?_
  refine j_acmpN G 13 dJ7_copyOf_6403c_3 (by decide) ?_
  refine j_iload_n G dJ7_copyOf_6403c_6 rfl ?_
  refine jq_new G (TW_of 768 (by decide +kernel) (by decide +kernel)) dJ7_copyOf_6403c_7 hn.1 (by omega) ⟨by decide, by dsimp only; omega⟩ (fun a7 na7 ns7 => ?_)
  have hX7 : EXT L g (L ++ [a7]) (va_up g a7 (eQ (cys 2) n.toNat (fun _ => none))) := (EXT.rf L g).push na7 _
  have hQ7 : QR ad (L ++ [a7]) (va_up g a7 (eQ (cys 2) n.toNat (fun _ => none))) (cys 2) a7 n.toNat (fun _ => none) := ⟨List.mem_append_right _ (List.mem_singleton.mpr rfl), ns7, va_up_self _ _ _⟩
  have hmin : (if n < (N : Int) then n else (N : Int)) = ((min N n.toNat : Nat) : Int) := by split <;> omega
  refine j_goto G 24 dJ7_copyOf_6403c_10 (by decide) ?_
  refine j_astore_n G dJ7_copyOf_6403c_24 (by decide) rfl ?_
  refine j_aload_n G dJ7_copyOf_6403c_25 rfl ?_
  refine j_iconst G dJ7_copyOf_6403c_26 ?_
  refine j_aload_n G dJ7_copyOf_6403c_27 rfl ?_
  refine j_iconst G dJ7_copyOf_6403c_28 ?_
  refine j_aload_n G dJ7_copyOf_6403c_29 rfl ?_
  refine js_len G (hE.ext hX7) dJ7_copyOf_6403c_30 ?_
  refine j_iload_n G dJ7_copyOf_6403c_31 rfl ?_
  refine j_min G (TW_of 769 (by decide +kernel) (by decide +kernel)) (TW_of 770 (by decide +kernel) (by decide +kernel)) (TW_of 57 (by decide +kernel) (by decide +kernel)) (TW_of 771 (by decide +kernel) (by decide +kernel)) dJ7_copyOf_6403c_32 (by decide) (Nat.le_of_ble_eq_true rfl) (by first | decide | (dsimp only; omega)) (by first | decide | (dsimp only; omega)) (by omega) (by omega) ?_
  rw [hmin]
  refine js_copy G (hE.ext hX7) hQ7 (TW_of 772 (by decide +kernel) (by decide +kernel)) (TW_of 774 (by decide +kernel) (by decide +kernel)) (TW_of 773 (by decide +kernel) (by decide +kernel)) (TW_of 59 (by decide +kernel) (by decide +kernel)) dJ7_copyOf_6403c_35 (by omega) (by omega) (by omega) (by omega) (by omega) (by rw [Int.toNat_natCast]; exact hf) ⟨by decide, Nat.le_of_ble_eq_true rfl⟩ ?_
  refine j_aload_n G dJ7_copyOf_6403c_38 rfl ?_
  refine jr_GA G hQ hr (Or.inr ⟨_, rfl⟩) dJ7_copyOf_6403c_39 (by first | decide | omega) (by first | decide | omega) ?_
  refine ⟨na7, ns7, rfl, ?_, rfl, rfl⟩
  rw [bx_uu, Int.toNat_natCast]
set_option maxRecDepth 100000 in
set_option maxHeartbeats 8000000 in
theorem c_J7_copyOf_1904c {l : Launch} {D : va_G} {cys : Nat → ClassId} {ad : Nat → Int → Nat} {L : List Nat} {g : Nat → va_E} {X : Int64} {Z : ZT} (hi : injA ad) {a N : Nat} {f : Nat → Option Nat} {n : Int} (hE : ES cys ad L g a N f) (hN : N ≤ 40) (hn : 0 ≤ n ∧ n ≤ 40) (hf : ICO ad f (min N n.toNat)) : CM l D cys ad yJ7_copyOf_1904c cJ7_copyOf_1904c 2 (some (.array (.object "java/lang/Object"))) 2 63 1 40 [.ref a, .int (iI n)] L g X Z (PGA L g X Z (fun r L9 g9 X9 Z9 => r ∉ L ∧ ¬ isS ad r ∧ L9 = L ++ [r] ∧ g9 = va_up g r (eQ (cys 2) n.toNat (va_cpy f (fun _ => none) 0 0 (min N n.toNat))) ∧ X9 = X ∧ Z9 = Z)) := by
  refine cm_start hi (by decide +kernel) (Nat.le_of_ble_eq_true rfl) ?_
  intro p_ e_ s_ m_ args_ below_ meth_ c_ A_ Q_ hQ G hr hin
  refine j_aload_n G dJ7_copyOf_1904c_0 rfl ?_
  refine j_iload_n G dJ7_copyOf_1904c_1 rfl ?_
  refine j_aload_n G dJ7_copyOf_1904c_2 rfl ?_
  refine jm_getC G (rvES G hE) (TW_of 746 (by decide +kernel) (by decide +kernel)) (TW_of 1041 (by decide +kernel) (by decide +kernel)) (TW_of 747 (by decide +kernel) (by decide +kernel)) (TW_of 762 (by decide +kernel) (by decide +kernel)) ⟨by decide, Nat.le_of_ble_eq_true rfl⟩ dJ7_copyOf_1904c_3 ?_
  refine j_cU_GA G csJ7_copyOf_6403c (TW_of 763 (by decide +kernel) (by decide +kernel)) rfl (c_J7_copyOf_6403c hi hE hN hn hf) dJ7_copyOf_1904c_6 ⟨by decide, by decide⟩ ⟨by decide, by decide⟩ rfl rfl (Nat.le_of_ble_eq_true rfl) (fun r6 L6 g6 X6 Z6 h6 => ?_)
  refine jr_GA G hQ hr (Or.inr ⟨_, rfl⟩) dJ7_copyOf_1904c_9 (by first | decide | omega) (by first | decide | omega) ?_
  exact h6
set_option maxRecDepth 100000 in
set_option maxHeartbeats 8000000 in
theorem c_Jx4a65c_toArray_d5877 {l : Launch} {D : va_G} {cys : Nat → ClassId} {ad : Nat → Int → Nat} {L : List Nat} {g : Nat → va_E} {X : Int64} {Z : ZT} (hi : injA ad) {a e N : Nat} {f : Nat → Option Nat} {n : Int} {v0 : Value} (hO : OB ad L g a 9 [v0, .ref e, .int (iI n)]) (hE : ES cys ad L g e N f) (hN : N ≤ 40) (hn : 0 ≤ n ∧ n ≤ 40) (hf : ICO ad f (min N n.toNat)) : CM l D cys ad yJx4a65c_toArray_d5877 cJx4a65c_toArray_d5877 1 (some (.array (.object "java/lang/Object"))) 3 84 1 40 [.ref a] L g X Z (PGA L g X Z (fun r L9 g9 X9 Z9 => r ∉ L ∧ ¬ isS ad r ∧ L9 = L ++ [r] ∧ g9 = va_up g r (eQ (cys 2) n.toNat (va_cpy f (fun _ => none) 0 0 (min N n.toNat))) ∧ X9 = X ∧ Z9 = Z)) := by
  refine cm_start hi (by decide +kernel) (Nat.le_of_ble_eq_true rfl) ?_
  intro p_ e_ s_ m_ args_ below_ meth_ c_ A_ Q_ hQ G hr hin
  refine j_aload_n G dJx4a65c_toArray_d5877_0 rfl ?_
  refine jo_get G 1 hO dJx4a65c_toArray_d5877_1 rfl rfl (by decide) lfAL_9 (Or.inl rfl) inTL ?_
  refine j_aload_n G dJx4a65c_toArray_d5877_4 rfl ?_
  refine jo_get G 2 hO dJx4a65c_toArray_d5877_5 rfl rfl (by decide) lfAL_48 (Or.inl rfl) inTL ?_
  refine j_cT_GA G csJ7_copyOf_1904c (TW_of 743 (by decide +kernel) (by decide +kernel)) (c_J7_copyOf_1904c hi hE hN hn hf) dJx4a65c_toArray_d5877_8 ⟨by decide, by decide⟩ ⟨by decide, by decide⟩ rfl rfl (Nat.le_of_ble_eq_true rfl) (fun r8 L8 g8 X8 Z8 h8 => ?_)
  refine jr_GA G hQ hr (Or.inr ⟨_, rfl⟩) dJx4a65c_toArray_d5877_11 (by first | decide | omega) (by first | decide | omega) ?_
  exact h8
set_option maxRecDepth 100000 in
set_option maxHeartbeats 8000000 in
theorem c_Jx4a65c_grow_92f84 {l : Launch} {D : va_G} {cys : Nat → ClassId} {ad : Nat → Int → Nat} {L : List Nat} {g : Nat → va_E} {X : Int64} {Z : ZT} (hi : injA ad) {a e N : Nat} {f : Nat → Option Nat} {v0 v2 : Value} {q : Int} (hO : OB ad L g a 9 [v0, .ref e, v2]) (hE : ES cys ad L g e N f) (hN0 : N = 0 → e = ad 42 1) (hq : N < q ∧ q ≤ 24) (hf : ICO ad f N) : CM l D cys ad yJx4a65c_grow_92f84 cJx4a65c_grow_92f84 4 (some (.array (.object "java/lang/Object"))) 3 84 1 40 [.ref a, .int (iI q)] L g X Z (PGA L g X Z (fun r L9 g9 X9 Z9 => r ∉ L ∧ ¬ isS ad r ∧ L9 = L ++ [r] ∧ (∃ (M : Nat) (h : Nat → Option Nat), g9 = va_up (va_up g r (eQ (cys 2) M h)) a (.inr (9, [v0, .ref r, v2])) ∧ q ≤ M ∧ M ≤ 40 ∧ (∀ i, i < N → h i = f i) ∧ ICO ad h M) ∧ X9 = X ∧ Z9 = Z)) := by
  refine cm_start hi (by decide +kernel) (Nat.le_of_ble_eq_true rfl) ?_
  intro p_ e_ s_ m_ args_ below_ meth_ c_ A_ Q_ hQ G hr hin
  obtain ⟨w, hw⟩ : ∃ w : Int, w = (N : Int) + (if q - (N : Int) < ((N / 2 : Nat) : Int) then ((N / 2 : Nat) : Int) else q - (N : Int)) := ⟨_, rfl⟩
  have hwb : q ≤ w ∧ w ≤ 36 := by rw [hw]; split <;> omega
  obtain ⟨u, hu⟩ : ∃ u : Int, u = (if 10 < q then q else 10) := ⟨_, rfl⟩
  have hub : q ≤ u ∧ u ≤ 24 := by rw [hu]; split <;> omega
  have hfw : ICO ad f (min N w.toNat) := fun i hi => hf i (by omega)
  refine j_aload_n G dJx4a65c_grow_92f84_0 rfl ?_
  refine jo_get G 1 hO dJx4a65c_grow_92f84_1 rfl rfl (by decide) lfAL_9 (Or.inl rfl) inTL ?_
  refine js_len G hE dJx4a65c_grow_92f84_4 ?_
  refine j_istore_n G dJx4a65c_grow_92f84_5 (by decide) rfl ?_
  refine j_iload_n G dJx4a65c_grow_92f84_6 rfl ?_
  refine j_if_gt G 20 dJx4a65c_grow_92f84_7 (by decide) (by omega) (fun c7 => ?_) (fun c7 => ?_)
  · refine j_iload_n G dJx4a65c_grow_92f84_20 rfl ?_
    refine j_iload_n G dJx4a65c_grow_92f84_21 rfl ?_
    refine j_iload_n G dJx4a65c_grow_92f84_22 rfl ?_
    refine j_isub G dJx4a65c_grow_92f84_23 ?_
    refine j_iload_n G dJx4a65c_grow_92f84_24 rfl ?_
    refine j_iconst G dJx4a65c_grow_92f84_25 ?_
    refine j_ishr G dJx4a65c_grow_92f84_26 (z := iI ((N / 2 : Nat) : Int)) (by rw [iI_nat, iI_nat]; have h := pk_shrN (n := N) (by omega) (iI 1 &&& 31) 1 (by decide +kernel); rw [Nat.pow_one] at h; exact h) ?_
    refine j_cT_I G csJ8_newLength_cabcc (TW_of 735 (by decide +kernel) (by decide +kernel)) (c_J8_newLength_cabcc hi (a := N) (b := q - N) (q := ((N / 2 : Nat) : Int)) (by omega) (by omega) (by omega)) dJx4a65c_grow_92f84_27 ⟨by decide, by decide⟩ ⟨by decide, by decide⟩ rfl rfl (Nat.le_of_ble_eq_true rfl) (fun r27 h27 => ?_)
    rw [← hw] at h27
    subst r27
    refine j_istore_n G dJx4a65c_grow_92f84_30 (by decide) rfl ?_
    refine j_aload_n G dJx4a65c_grow_92f84_31 rfl ?_
    refine j_aload_n G dJx4a65c_grow_92f84_32 rfl ?_
    refine jo_get G 1 hO dJx4a65c_grow_92f84_33 rfl rfl (by decide) lfAL_9 (Or.inl rfl) inTL ?_
    refine j_iload_n G dJx4a65c_grow_92f84_36 rfl ?_
    refine j_cT_GA G csJ7_copyOf_1904c (TW_of 743 (by decide +kernel) (by decide +kernel)) (c_J7_copyOf_1904c hi hE (by omega) (n := w) (by omega) hfw) dJx4a65c_grow_92f84_37 ⟨by decide, by decide⟩ ⟨by decide, by decide⟩ rfl rfl (Nat.le_of_ble_eq_true rfl) (fun r37 L37 g37 X37 Z37 h37 => ?_)
    obtain ⟨p1, p2, e1, e2, e3, e4⟩ := h37
    subst L37 g37 X37 Z37
    have hO37 := hO.ext ((EXT.rf L g).push p1 (eQ (cys 2) w.toNat (va_cpy f (fun _ => none) 0 0 (min N w.toNat))))
    refine j_dup_x1 G dJx4a65c_grow_92f84_40 ?_
    refine jo_put G 1 hO37 dJx4a65c_grow_92f84_41 rfl (by decide) (Nat.le_of_ble_eq_true rfl) lfAL_9 (Or.inl rfl) rfl inTL tyJx4a65c_ok nmJx4a65c (ty := .array (.object "java/lang/Object")) (by decide +kernel) rfl rfl ?_
    refine jr_GA G hQ hr (Or.inr ⟨_, rfl⟩) dJx4a65c_grow_92f84_44 (by first | decide | omega) (by first | decide | omega) ?_
    refine ⟨p1, p2, rfl, ⟨_, _, rfl, by omega, by omega, fun i hi => ?_, ICO.cpy hf ICO.no (by omega)⟩, rfl, rfl⟩
    rw [pk_cpy_in (by omega) (by omega), Nat.zero_add, Nat.sub_zero]
  · refine j_aload_n G dJx4a65c_grow_92f84_10 rfl ?_
    refine jo_get G 1 hO dJx4a65c_grow_92f84_11 rfl rfl (by decide) lfAL_9 (Or.inl rfl) inTL ?_
    obtain rfl := hN0 (by omega)
    refine j_gets G G.amx.2.2.1.1 lfAL_39 dJx4a65c_grow_92f84_14 ?_
    refine j_acmpS G 45 dJx4a65c_grow_92f84_17 (by decide) ?_
    refine j_aload_n G dJx4a65c_grow_92f84_45 rfl ?_
    refine j_bipush G dJx4a65c_grow_92f84_46 (by decide +kernel) ?_
    refine j_iload_n G dJx4a65c_grow_92f84_48 rfl ?_
    refine j_max G (TW_of 775 (by decide +kernel) (by decide +kernel)) (TW_of 396 (by decide +kernel) (by decide +kernel)) (TW_of 57 (by decide +kernel) (by decide +kernel)) (TW_of 397 (by decide +kernel) (by decide +kernel)) dJx4a65c_grow_92f84_49 (by decide) (Nat.le_of_ble_eq_true rfl) (by decide) (by decide) (by omega) (by omega) ?_
    rw [← hu]
    refine jq_new G (TW_of 776 (by decide +kernel) (by decide +kernel)) dJx4a65c_grow_92f84_52 (by omega) (by omega) ⟨by decide, by dsimp only; omega⟩ (fun a52 na52 ns52 => ?_)
    have hO52 := hO.ext ((EXT.rf L g).push na52 (eQ (cys 2) u.toNat (fun _ => none)))
    refine j_dup_x1 G dJx4a65c_grow_92f84_55 ?_
    refine jo_put G 1 hO52 dJx4a65c_grow_92f84_56 rfl (by decide) (Nat.le_of_ble_eq_true rfl) lfAL_9 (Or.inl rfl) rfl inTL tyJx4a65c_ok nmJx4a65c (ty := .array (.object "java/lang/Object")) (by decide +kernel) rfl rfl ?_
    refine jr_GA G hQ hr (Or.inr ⟨_, rfl⟩) dJx4a65c_grow_92f84_59 (by first | decide | omega) (by first | decide | omega) ?_
    exact ⟨na52, ns52, rfl, ⟨_, _, rfl, by omega, by omega, fun i hi => by omega, ICO.no⟩, rfl, rfl⟩
set_option maxRecDepth 100000 in
set_option maxHeartbeats 8000000 in
theorem c_Jx4a65c_grow_d5877 {l : Launch} {D : va_G} {cys : Nat → ClassId} {ad : Nat → Int → Nat} {L : List Nat} {g : Nat → va_E} {X : Int64} {Z : ZT} (hi : injA ad) {a : Nat} {v0 : Value} (hO : OB ad L g a 9 [v0, .ref (ad 42 1), .int (iI 0)]) : CM l D cys ad yJx4a65c_grow_d5877 cJx4a65c_grow_d5877 1 (some (.array (.object "java/lang/Object"))) 4 107 1 40 [.ref a] L g X Z (PGA L g X Z (fun r L9 g9 X9 Z9 => r ∉ L ∧ ¬ isS ad r ∧ L9 = L ++ [r] ∧ (∃ (M : Nat) (h : Nat → Option Nat), g9 = va_up (va_up g r (eQ (cys 2) M h)) a (.inr (9, [v0, .ref r, .int (iI 0)])) ∧ 1 ≤ M ∧ M ≤ 40 ∧ ICO ad h M) ∧ X9 = X ∧ Z9 = Z)) := by
  refine cm_start hi (by decide +kernel) (Nat.le_of_ble_eq_true rfl) ?_
  intro p_ e_ s_ m_ args_ below_ meth_ c_ A_ Q_ hQ G hr hin
  refine j_aload_n G dJx4a65c_grow_d5877_0 rfl ?_
  refine j_aload_n G dJx4a65c_grow_d5877_1 rfl ?_
  refine jo_get G 2 hO dJx4a65c_grow_d5877_2 rfl rfl (by decide) lfAL_48 (Or.inl rfl) inTL ?_
  refine j_iconst G dJx4a65c_grow_d5877_5 ?_
  refine j_iadd G dJx4a65c_grow_d5877_6 ?_
  refine j_cR_GA G cvJx4a65c_grow_92f84 (TW_of 731 (by decide +kernel) (by decide +kernel)) (c_Jx4a65c_grow_92f84 hi (N := 0) (f := fun _ => none) (q := 0 + 1) hO (Or.inl ⟨rfl, rfl⟩) (fun _ => rfl) (by omega) (fun i hi => by omega)) dJx4a65c_grow_d5877_7 ⟨by decide, by decide⟩ ⟨by decide, by decide⟩ rfl rfl (Nat.le_of_ble_eq_true rfl) (rvO G hO rfl rfl) (fun r7 L7 g7 X7 Z7 h7 => ?_)
  refine jr_GA G hQ hr (Or.inr ⟨_, rfl⟩) dJx4a65c_grow_d5877_10 (by first | decide | omega) (by first | decide | omega) ?_
  obtain ⟨p1, p2, p3, ⟨M, h, q1, q2, q3, -, q4⟩, p5, p6⟩ := h7
  exact ⟨p1, p2, p3, ⟨M, h, q1, by omega, q3, q4⟩, p5, p6⟩
set_option maxRecDepth 100000 in
set_option maxHeartbeats 8000000 in
theorem c_Jx4a65c_add_72be8 {l : Launch} {D : va_G} {cys : Nat → ClassId} {ad : Nat → Int → Nat} {L : List Nat} {g : Nat → va_E} {X : Int64} {Z : ZT} (hi : injA ad) {a : Nat} {v0 : Value} {x : Int} (hO : OB ad L g a 9 [v0, .ref (ad 42 1), .int (iI 0)]) (hx : 0 ≤ x ∧ x < 256) : CM l D cys ad yJx4a65c_add_72be8 cJx4a65c_add_72be8 4 none 5 127 1 40 [.ref a, .ref (ad 41 x), .ref (ad 42 1), .int (iI 0)] L g X Z (PGV L g X Z (fun L9 g9 X9 Z9 => ∃ (r M : Nat) (h : Nat → Option Nat), r ∉ L ∧ L9 = L ++ [r] ∧ (∀ b ∈ L, b ≠ a → g9 b = g b) ∧ OB ad L9 g9 a 9 [v0, .ref r, .int (iI 1)] ∧ QR ad L9 g9 (cys 2) r M h ∧ h 0 = some (ad 41 x) ∧ 1 ≤ M ∧ M ≤ 40 ∧ ICO ad h M ∧ X9 = X ∧ Z9 = Z)) := by
  refine cm_start hi (by decide +kernel) (Nat.le_of_ble_eq_true rfl) ?_
  intro p_ e_ s_ m_ args_ below_ meth_ c_ A_ Q_ hQ G hr hin
  refine j_iload_n G dJx4a65c_add_72be8_0 rfl ?_
  refine j_aload_n G dJx4a65c_add_72be8_1 rfl ?_
  refine je_len G dJx4a65c_add_72be8_2 ?_
  refine j_icmp_ne G 11 dJx4a65c_add_72be8_3 (by decide) (by omega) (by omega) (fun c3 => ?_) (fun c3 => ?_)
  · exfalso; omega
  · refine j_aload_n G dJx4a65c_add_72be8_6 rfl ?_
    refine j_cR_GA G cvJx4a65c_grow_d5877 (TW_of 727 (by decide +kernel) (by decide +kernel)) (c_Jx4a65c_grow_d5877 hi hO) dJx4a65c_add_72be8_7 ⟨by decide, by decide⟩ ⟨by decide, by decide⟩ rfl rfl (Nat.le_of_ble_eq_true rfl) (rvO G hO rfl rfl) (fun r7 L7 g7 X7 Z7 h7 => ?_)
    obtain ⟨p1, p2, p3, ⟨M, h, q1, q2, q3, q4⟩, p5, p6⟩ := h7
    subst L7 g7 X7 Z7
    have hne : r7 ≠ a := by rintro rfl; exact p1 hO.1
    have hQ7 : QR ad (L ++ [r7]) (va_up (va_up g r7 (eQ (cys 2) M h)) a (.inr (9, [v0, .ref r7, .int (iI 0)]))) (cys 2) r7 M h := ⟨List.mem_append_right _ (List.mem_singleton.mpr rfl), p2, by rw [va_up_ne _ _ hne, va_up_self]⟩
    have hO7 : OB ad (L ++ [r7]) (va_up (va_up (va_up g r7 (eQ (cys 2) M h)) a (.inr (9, [v0, .ref r7, .int (iI 0)]))) r7 (eQ (cys 2) M (va_up h (0 : Int).toNat (some (ad 41 x))))) a 9 [v0, .ref r7, .int (iI 0)] := ⟨List.mem_append_left _ hO.1, hO.2.1, by rw [va_up_ne _ _ (Ne.symm hne), va_up_self]⟩
    refine j_astore_n G dJx4a65c_add_72be8_10 (by decide) rfl ?_
    refine j_aload_n G dJx4a65c_add_72be8_11 rfl ?_
    refine j_iload_n G dJx4a65c_add_72be8_12 rfl ?_
    refine j_aload_n G dJx4a65c_add_72be8_13 rfl ?_
    refine jq_st G hQ7 hx.1 hx.2 dJx4a65c_add_72be8_14 (by omega) (by omega) (by omega) ?_
    refine j_aload_n G dJx4a65c_add_72be8_15 rfl ?_
    refine j_iload_n G dJx4a65c_add_72be8_16 rfl ?_
    refine j_iconst G dJx4a65c_add_72be8_17 ?_
    refine j_iadd G dJx4a65c_add_72be8_18 ?_
    refine jo_put G 2 hO7 dJx4a65c_add_72be8_19 rfl (by decide) (Nat.le_of_ble_eq_true rfl) lfAL_48 (Or.inl rfl) rfl inTL tyJx4a65c_ok nmJx4a65c (ty := .int) (by decide +kernel) rfl rfl ?_
    refine jr_GV G hQ hr dJx4a65c_add_72be8_22 (by first | decide | omega) (by first | decide | omega) ?_
    refine ⟨r7, M, va_up h 0 (some (ad 41 x)), p1, rfl, fun b hb hba => ?_, ⟨List.mem_append_left _ hO.1, hO.2.1, va_up_self _ _ _⟩, ⟨List.mem_append_right _ (List.mem_singleton.mpr rfl), p2, by rw [va_up_ne _ _ hne, va_up_self]; rfl⟩, va_up_self _ _ _, by omega, by omega, fun i hi y hy => ?_, rfl, rfl⟩
    rotate_left
    · by_cases e : i = 0
      · subst e
        rw [va_up_self] at hy
        cases hy
        exact ⟨x, hx.1, hx.2, rfl⟩
      · rw [va_up_ne _ _ e] at hy
        exact q4 i hi y hy
    have hbr : b ≠ r7 := by rintro rfl; exact p1 hb
    rw [va_up_ne _ _ hba, va_up_ne _ _ hbr, va_up_ne _ _ hba, va_up_ne _ _ hbr]
set_option maxRecDepth 100000 in
set_option maxHeartbeats 8000000 in
theorem c_Jx4a65c_add_9ea2d {l : Launch} {D : va_G} {cys : Nat → ClassId} {ad : Nat → Int → Nat} {L : List Nat} {g : Nat → va_E} {X : Int64} {Z : ZT} (hi : injA ad) {L0 : List Nat} {a : Nat} {y k : Int} (hL0 : ∀ b ∈ L0, b ∈ L) (ha0 : a ∉ L0) (hO : OB ad L g a 9 [.int (iI k), .ref (ad 42 1), .int (iI 0)]) (hy : 0 ≤ y ∧ y < 100) : CM l D cys ad yJx4a65c_add_9ea2d cJx4a65c_add_9ea2d 2 (some .boolean) 6 150 1 40 [.ref a, .ref (ad 41 (y + 128))] L g X Z (PGI L g X Z (fun r L9 g9 X9 Z9 => EXT L0 g L9 g9 ∧ ALS cys ad L0 L9 g9 a [y] ∧ X9 = X ∧ Z9 = Z)) := by
  refine cm_start hi (by decide +kernel) (Nat.le_of_ble_eq_true rfl) ?_
  intro p_ e_ s_ m_ args_ below_ meth_ c_ A_ Q_ hQ G hr hin
  have hO2 : OB ad L (va_up g a (.inr (9, [.int (iI (k + 1)), .ref (ad 42 1), .int (iI 0)]))) a 9 [.int (iI (k + 1)), .ref (ad 42 1), .int (iI 0)] := ⟨hO.1, hO.2.1, va_up_self _ _ _⟩
  refine j_aload_n G dJx4a65c_add_9ea2d_0 rfl ?_
  refine j_dup G dJx4a65c_add_9ea2d_1 rfl ?_
  refine jo_get G 0 hO dJx4a65c_add_9ea2d_2 rfl rfl (by decide) lfAL_63 (Or.inr (TW_of 691 (by decide +kernel) (by decide +kernel))) inTL ?_
  refine j_iconst G dJx4a65c_add_9ea2d_5 ?_
  refine j_iadd G dJx4a65c_add_9ea2d_6 ?_
  refine jo_put G 0 hO dJx4a65c_add_9ea2d_7 rfl (by decide) (Nat.le_of_ble_eq_true rfl) lfAL_63 (Or.inr (TW_of 691 (by decide +kernel) (by decide +kernel))) rfl inTL tyJx4a65c_ok nmJx4a65c (ty := .int) (by decide +kernel) rfl rfl ?_
  refine j_aload_n G dJx4a65c_add_9ea2d_10 rfl ?_
  refine j_aload_n G dJx4a65c_add_9ea2d_11 rfl ?_
  refine j_aload_n G dJx4a65c_add_9ea2d_12 rfl ?_
  refine jo_get G 1 hO2 dJx4a65c_add_9ea2d_13 rfl rfl (by decide) lfAL_9 (Or.inl rfl) inTL ?_
  refine j_aload_n G dJx4a65c_add_9ea2d_16 rfl ?_
  refine jo_get G 2 hO2 dJx4a65c_add_9ea2d_17 rfl rfl (by decide) lfAL_48 (Or.inl rfl) inTL ?_
  refine j_cR_GV G cvJx4a65c_add_72be8 (TW_of 723 (by decide +kernel) (by decide +kernel)) (c_Jx4a65c_add_72be8 hi (x := y + 128) hO2 (by omega)) dJx4a65c_add_9ea2d_20 ⟨by decide, by decide⟩ ⟨by decide, by decide⟩ rfl rfl (Nat.le_of_ble_eq_true rfl) (rvO G hO2 rfl rfl) (fun L20 g20 X20 Z20 h20 => ?_)
  refine j_iconst G dJx4a65c_add_9ea2d_23 ?_
  refine jr_GB G hQ hr dJx4a65c_add_9ea2d_24 (by first | decide | omega) (by first | decide | omega) (by omega) ?_
  obtain ⟨r, M, h, p1, p2, p3, p4, p5, p6, p7, p8, p11, p9, p10⟩ := h20
  subst L20
  refine ⟨⟨fun b hb => List.mem_append_left _ (hL0 b hb), fun b hb => ?_⟩, ⟨ha0, fun z hz => by rw [List.mem_singleton.mp hz]; exact hy, k + 1, r, M, h, p4, Or.inr p5, fun _ z => p1 (hL0 _ z), fun z => by omega, by show 1 ≤ M; omega, p8, fun i hi => ?_, p11⟩, p9, p10⟩
  · have hba : b ≠ a := by rintro rfl; exact ha0 hb
    rw [p3 b (hL0 b hb) hba, va_up_ne _ _ hba]
  · have hi : i < 1 := hi
    obtain rfl : i = 0 := by omega
    exact p6
set_option maxRecDepth 100000 in
set_option maxHeartbeats 8000000 in
theorem c_Jx4a65c_size_8abf5 {l : Launch} {D : va_G} {cys : Nat → ClassId} {ad : Nat → Int → Nat} {L : List Nat} {g : Nat → va_E} {X : Int64} {Z : ZT} (hi : injA ad) {a : Nat} {v0 v1 : Value} {n : Int} (hO : OB ad L g a 9 [v0, v1, .int (iI n)]) : CM l D cys ad yJx4a65c_size_8abf5 cJx4a65c_size_8abf5 1 (some .int) 0 0 0 0 [.ref a] L g X Z (PI L g X Z (fun r => r = n)) := by
  refine cm_start hi (by decide +kernel) (Nat.le_of_ble_eq_true rfl) ?_
  intro p_ e_ s_ m_ args_ below_ meth_ c_ A_ Q_ hQ G hr hin
  refine j_aload_n G dJx4a65c_size_8abf5_0 rfl ?_
  refine jo_get G 2 hO dJx4a65c_size_8abf5_1 rfl rfl (by decide) lfAL_48 (Or.inl rfl) inTL ?_
  refine jr_I G hQ hr dJx4a65c_size_8abf5_4 (by decide) (by decide) ?_
  rfl
set_option maxRecDepth 100000 in
set_option maxHeartbeats 8000000 in
theorem c_J3_checkIndex_8e157 {l : Launch} {D : va_G} {cys : Nat → ClassId} {ad : Nat → Int → Nat} {L : List Nat} {g : Nat → va_E} {X : Int64} {Z : ZT} (hi : injA ad) {i n : Int} (hi0 : 0 ≤ i ∧ i < n) (hn : n ≤ 1000) : CM l D cys ad yJ3_checkIndex_8e157 cJ3_checkIndex_8e157 3 (some .int) 0 0 0 0 [.int (iI i), .int (iI n), .null] L g X Z (PI L g X Z (fun r => r = i)) := by
  refine cm_start hi (by decide +kernel) (Nat.le_of_ble_eq_true rfl) ?_
  intro p_ e_ s_ m_ args_ below_ meth_ c_ A_ Q_ hQ G hr hin
  refine j_iload_n G dJ3_checkIndex_8e157_0 rfl ?_
  refine j_if_lt G 9 dJ3_checkIndex_8e157_1 (by decide) (by omega) (fun c1 => ?_) (fun c1 => ?_)
  · exfalso; omega
  · refine j_iload_n G dJ3_checkIndex_8e157_4 rfl ?_
    refine j_iload_n G dJ3_checkIndex_8e157_5 rfl ?_
    refine j_icmp_lt G 16 dJ3_checkIndex_8e157_6 (by decide) (by omega) (by omega) (fun c6 => ?_) (fun c6 => ?_)
    · refine j_iload_n G dJ3_checkIndex_8e157_16 rfl ?_
      refine jr_I G hQ hr dJ3_checkIndex_8e157_17 (by decide) (by decide) ?_
      rfl
    · exfalso; omega
set_option maxRecDepth 100000 in
set_option maxHeartbeats 8000000 in
theorem c_J15_checkIndex_7cf53 {l : Launch} {D : va_G} {cys : Nat → ClassId} {ad : Nat → Int → Nat} {L : List Nat} {g : Nat → va_E} {X : Int64} {Z : ZT} (hi : injA ad) {i n : Int} (hi0 : 0 ≤ i ∧ i < n) (hn : n ≤ 1000) : CM l D cys ad yJ15_checkIndex_7cf53 cJ15_checkIndex_7cf53 2 (some .int) 1 22 0 0 [.int (iI i), .int (iI n)] L g X Z (PI L g X Z (fun r => r = i)) := by
  refine cm_start hi (by decide +kernel) (Nat.le_of_ble_eq_true rfl) ?_
  intro p_ e_ s_ m_ args_ below_ meth_ c_ A_ Q_ hQ G hr hin
  refine j_iload_n G dJ15_checkIndex_7cf53_0 rfl ?_
  refine j_iload_n G dJ15_checkIndex_7cf53_1 rfl ?_
  refine j_null G dJ15_checkIndex_7cf53_2 ?_
  refine j_cT_I G csJ3_checkIndex_8e157 (TW_of 803 (by decide +kernel) (by decide +kernel)) (c_J3_checkIndex_8e157 hi hi0 hn) dJ15_checkIndex_7cf53_3 ⟨by decide, by decide⟩ ⟨by decide, by decide⟩ rfl rfl (Nat.le_of_ble_eq_true rfl) (fun r3 h3 => ?_)
  refine jr_I G hQ hr dJ15_checkIndex_7cf53_6 (by decide) (by decide) ?_
  exact h3
set_option maxRecDepth 100000 in
set_option maxHeartbeats 8000000 in
theorem c_Jx4a65c_elementData_915e3 {l : Launch} {D : va_G} {cys : Nat → ClassId} {ad : Nat → Int → Nat} {L : List Nat} {g : Nat → va_E} {X : Int64} {Z : ZT} (hi : injA ad) {a e N b : Nat} {f : Nat → Option Nat} {v0 v2 : Value} {i : Int} (hO : OB ad L g a 9 [v0, .ref e, v2]) (hqe : QR ad L g (cys 2) e N f) (hi0 : 0 ≤ i ∧ i < N) (hN : N ≤ 40) (hf : f i.toNat = some b) : CM l D cys ad yJx4a65c_elementData_915e3 cJx4a65c_elementData_915e3 2 (some (.object "java/lang/Object")) 0 0 0 0 [.ref a, .int (iI i)] L g X Z (PR L g X Z (fun r => r = b)) := by
  refine cm_start hi (by decide +kernel) (Nat.le_of_ble_eq_true rfl) ?_
  intro p_ e_ s_ m_ args_ below_ meth_ c_ A_ Q_ hQ G hr hin
  refine j_aload_n G dJx4a65c_elementData_915e3_0 rfl ?_
  refine jo_get G 1 hO dJx4a65c_elementData_915e3_1 rfl rfl (by decide) lfAL_9 (Or.inl rfl) inTL ?_
  refine j_iload_n G dJx4a65c_elementData_915e3_4 rfl ?_
  refine jq_ld G hqe dJx4a65c_elementData_915e3_5 (by omega) hi0.1 hi0.2 hf ?_
  refine jr_R G hQ hr (Or.inl ⟨_, rfl⟩) dJx4a65c_elementData_915e3_6 (by decide) (by decide) ?_
  rfl
set_option maxRecDepth 100000 in
set_option maxHeartbeats 8000000 in
theorem c_Jx4a65c_get_915e3 {l : Launch} {D : va_G} {cys : Nat → ClassId} {ad : Nat → Int → Nat} {L : List Nat} {g : Nat → va_E} {X : Int64} {Z : ZT} (hi : injA ad) {L0 : List Nat} {a : Nat} {W : List Int} {i : Int} (hA : ALS cys ad L0 L g a W) (hi0 : 0 ≤ i ∧ i < W.length) : CM l D cys ad yJx4a65c_get_915e3 cJx4a65c_get_915e3 2 (some (.object "java/lang/Object")) 2 43 0 0 [.ref a, .int (iI i)] L g X Z (PR L g X Z (fun r => r = ad 41 (W.getD i.toNat 0 + 128))) := by
  refine cm_start hi (by decide +kernel) (Nat.le_of_ble_eq_true rfl) ?_
  intro p_ e_ s_ m_ args_ below_ meth_ c_ A_ Q_ hQ G hr hin
  obtain ⟨h1, h2, k, e, N, f, hO, hE, h5, h6, h7, h8, h9, -⟩ := hA
  have hqe : QR ad L g (cys 2) e N f := by
    rcases hE with ⟨-, z⟩ | z
    · omega
    · exact z
  have hfi := h9 i.toNat (by omega)
  refine j_iload_n G dJx4a65c_get_915e3_0 rfl ?_
  refine j_aload_n G dJx4a65c_get_915e3_1 rfl ?_
  refine jo_get G 2 hO dJx4a65c_get_915e3_2 rfl rfl (by decide) lfAL_48 (Or.inl rfl) inTL ?_
  refine j_cT_I G csJ15_checkIndex_7cf53 (TW_of 800 (by decide +kernel) (by decide +kernel)) (c_J15_checkIndex_7cf53 hi hi0 (by omega)) dJx4a65c_get_915e3_5 ⟨by decide, by decide⟩ ⟨by decide, by decide⟩ rfl rfl (Nat.le_of_ble_eq_true rfl) (fun r5 h5 => ?_)
  refine j_pop G dJx4a65c_get_915e3_8 rfl ?_
  refine j_aload_n G dJx4a65c_get_915e3_9 rfl ?_
  refine j_iload_n G dJx4a65c_get_915e3_10 rfl ?_
  refine j_cR_R G cvJx4a65c_elementData_915e3 (TW_of 806 (by decide +kernel) (by decide +kernel)) (c_Jx4a65c_elementData_915e3 hi hO hqe (by omega) h8 hfi) dJx4a65c_get_915e3_11 ⟨by decide, by decide⟩ ⟨by decide, by decide⟩ rfl rfl (Nat.le_of_ble_eq_true rfl) (rvO G hO rfl rfl) (fun r11 h11 => ?_)
  refine jr_R G hQ hr (Or.inl ⟨_, rfl⟩) dJx4a65c_get_915e3_14 (by decide) (by decide) ?_
  exact h11
set_option maxRecDepth 100000 in
set_option maxHeartbeats 8000000 in
theorem c_Jx4a65c_addAll_f0b43 {l : Launch} {D : va_G} {cys : Nat → ClassId} {ad : Nat → Int → Nat} {L : List Nat} {g : Nat → va_E} {X : Int64} {Z : ZT} (hi : injA ad) {L0 L00 : List Nat} {a b : Nat} {W V : List Int} (hL0 : ∀ x ∈ L0, x ∈ L) (hA : ALS cys ad L0 L g a W) (hB : ALS cys ad L00 L g b V) (hlen : W.length + V.length ≤ 24) : CM l D cys ad yJx4a65c_addAll_f0b43 cJx4a65c_addAll_f0b43 6 (some .boolean) 4 107 2 80 [.ref a, .ref b] L g X Z (PGI L g X Z (fun r L9 g9 X9 Z9 => EXT L0 g L9 g9 ∧ ALS cys ad L0 L9 g9 a (W ++ V) ∧ X9 = X ∧ Z9 = Z)) := by
  refine cm_start hi (by decide +kernel) (Nat.le_of_ble_eq_true rfl) ?_
  intro p_ e_ s_ m_ args_ below_ meth_ c_ A_ Q_ hQ G hr hin
  obtain ⟨a1, a2, k, e, N, f, aO, aE, a5, a6, a7, a8, a9, a10⟩ := hA
  obtain ⟨b1, b2, k', e', N', f', bO, bE, b5, b6, b7, b8, b9, b10⟩ := hB
  have hVf : ICO ad f' (min N' (V.length : Int).toNat) := fun i hi => b9.o b2 i (by omega)
  have hWV : SMW (W ++ V) := fun x hx => (List.mem_append.mp hx).elim (a2 x) (b2 x)
  have hlenI : ((W ++ V).length : Int) = (W.length : Int) + (V.length : Int) := by rw [List.length_append]; omega
  have K : ∀ (cells slots : Nat) (L3 : List Nat) (g3 : Nat → va_E) (e3 N3 : Nat) (f3 : Nat → Option Nat) (r1 : Nat) (h1 : Nat → Option Nat), cells ≤ 2 → slots ≤ 80 → 0 < N3 → EXT L0 g L3 g3 → OB ad L3 g3 a 9 [.int (iI (k + 1)), .ref e3, .int (iI W.length)] → QR ad L3 g3 (cys 2) e3 N3 f3 → e3 ∉ L0 → W.length + V.length ≤ N3 → N3 ≤ 40 → ICF ad f3 W → ICO ad f3 N3 → QR ad L3 g3 (cys 2) r1 V.length h1 → ICF ad h1 V → JJ p_ l e_ { frames := 4, cells := 2, slots := 80, locals := 107 } s_ m_ args_ below_ meth_ c_ D cys ad A_ Q_ 6 cells slots L3 g3 X Z 56 [(0, .ref a), (1, .ref b), (2, .ref r1), (3, .int (iI V.length)), (4, .ref e3), (5, .int (iI W.length))] [] := by
    intro cells slots L3 g3 e3 N3 f3 r1 h1 hc hs hN3 hX hO hq3 he hl hN hF hC hQ1 hF1
    have hea : a ≠ e3 := hO.nQ hq3
    have hO3 : ∀ x : va_E, OB ad L3 (va_up g3 e3 x) a 9 [.int (iI (k + 1)), .ref e3, .int (iI W.length)] := fun x => hO.up hea
    refine j_aload_n G dJx4a65c_addAll_f0b43_56 rfl ?_
    refine j_iconst G dJx4a65c_addAll_f0b43_57 ?_
    refine j_aload G dJx4a65c_addAll_f0b43_58 rfl ?_
    refine j_iload G dJx4a65c_addAll_f0b43_60 rfl ?_
    refine j_iload_n G dJx4a65c_addAll_f0b43_62 rfl ?_
    refine jq_copy G hQ1 hq3 (TW_of 791 (by decide +kernel) (by decide +kernel)) (TW_of 774 (by decide +kernel) (by decide +kernel)) (TW_of 773 (by decide +kernel) (by decide +kernel)) (TW_of 59 (by decide +kernel) (by decide +kernel)) dJx4a65c_addAll_f0b43_63 (by omega) (by omega) (by omega) (by omega) (by omega) (by omega) (by omega) (fun i hi y hy => (hF1.o b2) i (by omega) y (by rw [show (0 : Int).toNat + i = i by omega] at hy; exact hy)) ⟨by decide, by decide⟩ ?_
    refine j_aload_n G dJx4a65c_addAll_f0b43_66 rfl ?_
    refine j_iload G dJx4a65c_addAll_f0b43_67 rfl ?_
    refine j_iload_n G dJx4a65c_addAll_f0b43_69 rfl ?_
    refine j_iadd G dJx4a65c_addAll_f0b43_70 ?_
    refine jo_put G 2 (hO3 _) dJx4a65c_addAll_f0b43_71 rfl (by decide) (Nat.le_of_ble_eq_true rfl) lfAL_48 (Or.inl rfl) rfl inTL tyJx4a65c_ok nmJx4a65c (ty := .int) (by decide +kernel) rfl rfl ?_
    refine j_iconst G dJx4a65c_addAll_f0b43_74 ?_
    refine jr_GB G hQ hr dJx4a65c_addAll_f0b43_75 (by first | decide | omega) (by first | decide | omega) (by omega) ?_
    refine ⟨⟨hX.1, fun x hx => ?_⟩, ⟨a1, hWV, k + 1, e3, N3, va_cpy h1 f3 0 W.length V.length, ⟨hO.1, hO.2.1, ?_⟩, Or.inr ⟨hq3.1, hq3.2.1, ?_⟩, fun _ => he, fun z => by omega, by rw [List.length_append]; omega, hN, ?_, ?_⟩, rfl, rfl⟩
    · have hne : x ≠ a := by rintro rfl; exact a1 hx
      have hne2 : x ≠ e3 := by rintro rfl; exact he hx
      rw [va_up_ne _ _ hne, va_up_ne _ _ hne2]; exact hX.2 x hx
    · rw [va_up_self, hlenI]; rfl
    · rw [va_up_ne _ _ (Ne.symm hea), va_up_self]
      simp only [Int.toNat_natCast, Int.toNat_zero]
    · exact hF.app hF1
    · exact ICO.cpy (hF1.o b2) hC (by simp)
  refine j_aload_n G dJx4a65c_addAll_f0b43_0 rfl ?_
  refine j_cF_GA G (TW_of 782 (by decide +kernel) (by decide +kernel)) (TW_of 786 (by decide +kernel) (by decide +kernel)) (TW_of 788 (by decide +kernel) (by decide +kernel)) (TW_of 52 (by decide +kernel) (by decide +kernel)) (TW_of 790 (by decide +kernel) (by decide +kernel)) bO (c_Jx4a65c_toArray_d5877 hi bO bE b8 (by omega) hVf) dJx4a65c_addAll_f0b43_1 ⟨by decide, by decide⟩ ⟨by decide, by decide⟩ (Nat.le_of_ble_eq_true rfl) (fun r1 L1 g1 X1 Z1 h1 => ?_)
  obtain ⟨p1, p2, p3, p4, p5, p6⟩ := h1
  subst L1 X1 Z1
  have hX1 : EXT L g (L ++ [r1]) g1 := by rw [p4]; exact (EXT.rf L g).push p1 _
  have hr1a : r1 ≠ a := by rintro rfl; exact p1 aO.1
  have aO1 := aO.ext hX1
  have aE1 := aE.ext hX1
  have hQ1 : QR ad (L ++ [r1]) g1 (cys 2) r1 V.length (va_cpy f' (fun _ => none) 0 0 V.length) := ⟨List.mem_append_right _ (List.mem_singleton.mpr rfl), p2, by rw [p4, va_up_self, Int.toNat_natCast, Nat.min_eq_right (by omega)]⟩
  have hI1 : ICF ad (va_cpy f' (fun _ => none) 0 0 V.length) V := b9.cpy (Nat.le_refl _)
  clear p4
  have hX2 : ∀ v : Value, EXT L0 g (L ++ [r1]) (va_up g1 a (.inr (9, [v, .ref e, .int (iI W.length)]))) := fun v => ⟨fun x hx => hX1.1 x (hL0 x hx), fun x hx => by
    have hne : x ≠ a := by rintro rfl; exact a1 hx
    rw [va_up_ne _ _ hne]; exact hX1.2 x (hL0 x hx)⟩
  have aO2 : OB ad (L ++ [r1]) (va_up g1 a (.inr (9, [.int (iI (k + 1)), .ref e, .int (iI W.length)]))) a 9 [.int (iI (k + 1)), .ref e, .int (iI W.length)] := ⟨aO1.1, aO1.2.1, va_up_self _ _ _⟩
  have aE2 : ES cys ad (L ++ [r1]) (va_up g1 a (.inr (9, [.int (iI (k + 1)), .ref e, .int (iI W.length)]))) e N f := aE1.imp id (fun q => q.up (Ne.symm (aO1.nQ q)))
  have hQ2 : QR ad (L ++ [r1]) (va_up g1 a (.inr (9, [.int (iI (k + 1)), .ref e, .int (iI W.length)]))) (cys 2) r1 V.length (va_cpy f' (fun _ => none) 0 0 V.length) := hQ1.up hr1a
  refine j_astore_n G dJx4a65c_addAll_f0b43_6 (by decide) rfl ?_
  refine j_aload_n G dJx4a65c_addAll_f0b43_7 rfl ?_
  refine j_dup G dJx4a65c_addAll_f0b43_8 rfl ?_
  refine jo_get G 0 aO1 dJx4a65c_addAll_f0b43_9 rfl rfl (by decide) lfAL_63 (Or.inr (TW_of 691 (by decide +kernel) (by decide +kernel))) inTL ?_
  refine j_iconst G dJx4a65c_addAll_f0b43_12 ?_
  refine j_iadd G dJx4a65c_addAll_f0b43_13 ?_
  refine jo_put G 0 aO1 dJx4a65c_addAll_f0b43_14 rfl (by decide) (Nat.le_of_ble_eq_true rfl) lfAL_63 (Or.inr (TW_of 691 (by decide +kernel) (by decide +kernel))) rfl inTL tyJx4a65c_ok nmJx4a65c (ty := .int) (by decide +kernel) rfl rfl ?_
  refine j_aload_n G dJx4a65c_addAll_f0b43_17 rfl ?_
  refine jq_len G 2 hQ2 rfl dJx4a65c_addAll_f0b43_18 ?_
  refine j_istore_n G dJx4a65c_addAll_f0b43_19 (by decide) rfl ?_
  refine j_iload_n G dJx4a65c_addAll_f0b43_20 rfl ?_
  refine j_if_ne G 26 dJx4a65c_addAll_f0b43_21 (by decide) (by omega) (fun c21 => ?_) (fun c21 => ?_)
  · refine j_iload_n G dJx4a65c_addAll_f0b43_26 rfl ?_
    refine j_aload_n G dJx4a65c_addAll_f0b43_27 rfl ?_
    refine jo_get G 1 aO2 dJx4a65c_addAll_f0b43_28 rfl rfl (by decide) lfAL_9 (Or.inl rfl) inTL ?_
    refine j_dup G dJx4a65c_addAll_f0b43_31 rfl ?_
    refine j_astore G dJx4a65c_addAll_f0b43_32 (by decide) rfl ?_
    refine js_len G aE2 dJx4a65c_addAll_f0b43_34 ?_
    refine j_aload_n G dJx4a65c_addAll_f0b43_35 rfl ?_
    refine jo_get G 2 aO2 dJx4a65c_addAll_f0b43_36 rfl rfl (by decide) lfAL_48 (Or.inl rfl) inTL ?_
    refine j_dup G dJx4a65c_addAll_f0b43_39 rfl ?_
    refine j_istore G dJx4a65c_addAll_f0b43_40 (by decide) rfl ?_
    refine j_isub G dJx4a65c_addAll_f0b43_42 ?_
    refine j_icmp_le G 56 dJx4a65c_addAll_f0b43_43 (by decide) (by omega) (by omega) (fun c43 => ?_) (fun c43 => ?_)
    · have hQe : QR ad (L ++ [r1]) (va_up g1 a (.inr (9, [.int (iI (k + 1)), .ref e, .int (iI W.length)]))) (cys 2) e N f := by
        rcases aE2 with ⟨-, z⟩ | z
        · omega
        · exact z
      refine j_keep [0, 1, 2, 3, 4, 5] ?_
      exact K _ _ _ _ e N f r1 _ (by omega) (by omega) (by omega) (hX2 _) aO2 hQe (a5 (by omega)) (by omega) a8 a9 a10 hQ2 hI1
    · refine j_aload_n G dJx4a65c_addAll_f0b43_46 rfl ?_
      refine j_iload G dJx4a65c_addAll_f0b43_47 rfl ?_
      refine j_iload_n G dJx4a65c_addAll_f0b43_49 rfl ?_
      refine j_iadd G dJx4a65c_addAll_f0b43_50 ?_
      refine j_cR_GA G cvJx4a65c_grow_92f84 (TW_of 731 (by decide +kernel) (by decide +kernel)) (c_Jx4a65c_grow_92f84 hi aO2 aE2 a6 (q := (W.length : Int) + V.length) (by omega) a10) dJx4a65c_addAll_f0b43_51 ⟨by decide, by decide⟩ ⟨by decide, by decide⟩ rfl rfl (Nat.le_of_ble_eq_true rfl) (rvO G aO2 rfl rfl) (fun r51 L51 g51 X51 Z51 h51 => ?_)
      obtain ⟨q1, q2, q3, ⟨M, h, q4, q5, q6, q7, q8⟩, q9, q10⟩ := h51
      subst L51 X51 Z51
      have hra : r51 ≠ a := by rintro rfl; exact q1 aO2.1
      have hr1r : r1 ≠ r51 := by rintro rfl; exact q1 hQ2.1
      have hX51 : EXT L0 g (L ++ [r1] ++ [r51]) g51 := ⟨fun x hx => List.mem_append_left _ ((hX2 (.int (iI (k + 1)))).1 x hx), fun x hx => by
        have hne : x ≠ a := by rintro rfl; exact a1 hx
        have hne2 : x ≠ r51 := by rintro rfl; exact q1 ((hX2 (.int (iI (k + 1)))).1 _ hx)
        rw [q4, va_up_ne _ _ hne, va_up_ne _ _ hne2]; exact (hX2 _).2 x hx⟩
      have aO51 : OB ad (L ++ [r1] ++ [r51]) g51 a 9 [.int (iI (k + 1)), .ref r51, .int (iI W.length)] := ⟨List.mem_append_left _ aO2.1, aO2.2.1, by rw [q4, va_up_self]⟩
      have hQ51 : QR ad (L ++ [r1] ++ [r51]) g51 (cys 2) r51 M h := ⟨List.mem_append_right _ (List.mem_singleton.mpr rfl), q2, by rw [q4, va_up_ne _ _ hra, va_up_self]⟩
      have hQ1' : QR ad (L ++ [r1] ++ [r51]) g51 (cys 2) r1 V.length (va_cpy f' (fun _ => none) 0 0 V.length) := ⟨List.mem_append_left _ hQ2.1, hQ2.2.1, by rw [q4, va_up_ne _ _ hr1a, va_up_ne _ _ hr1r]; exact hQ2.2.2⟩
      have hr0 : r51 ∉ L0 := fun z => q1 ((hX2 (.int (iI (k + 1)))).1 _ z)
      refine j_astore G dJx4a65c_addAll_f0b43_54 (by decide) rfl ?_
      refine j_keep [0, 1, 2, 3, 4, 5] ?_
      exact K _ _ _ _ r51 M h r1 _ (by omega) (by omega) (by omega) hX51 aO51 hQ51 hr0 (by omega) q6 (a9.congr a7 q7) q8 hQ1' hI1
  · refine j_iconst G dJx4a65c_addAll_f0b43_24 ?_
    refine jr_GB G hQ hr dJx4a65c_addAll_f0b43_25 (by first | decide | omega) (by first | decide | omega) (by omega) ?_
    have hV : V = [] := List.length_eq_zero_iff.mp (by omega)
    subst hV
    rw [List.append_nil]
    exact ⟨hX2 _, ⟨a1, a2, k + 1, e, N, f, aO2, aE2, a5, a6, a7, a8, a9, a10⟩, rfl, rfl⟩

