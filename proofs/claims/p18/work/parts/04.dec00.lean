theorem dAB_init_0 : decode cAB_init 0 = .ok (.aload_n 0, 1) := by decide +kernel
theorem dAB_init_1 : decode cAB_init 1 = .ok (.invokespecial 1, 3) := by decide +kernel
theorem dAB_init_4 : decode cAB_init 4 = .ok (.aload_n 0, 1) := by decide +kernel
theorem dAB_init_5 : decode cAB_init 5 = .ok (.iconst 0, 1) := by decide +kernel
theorem dAB_init_6 : decode cAB_init 6 = .ok (.putfield 7, 3) := by decide +kernel
theorem dAB_init_9 : decode cAB_init 9 = .ok (.return_, 1) := by decide +kernel
theorem dAC_init_0 : decode cAC_init 0 = .ok (.aload_n 0, 1) := by decide +kernel
theorem dAC_init_1 : decode cAC_init 1 = .ok (.invokespecial 1, 3) := by decide +kernel
theorem dAC_init_4 : decode cAC_init 4 = .ok (.return_, 1) := by decide +kernel
theorem dAL_add_0 : decode cAL_add 0 = .ok (.aload_n 0, 1) := by decide +kernel
theorem dAL_add_1 : decode cAL_add 1 = .ok (.dup, 1) := by decide +kernel
theorem dAL_add_2 : decode cAL_add 2 = .ok (.getfield 63, 3) := by decide +kernel
theorem dAL_add_5 : decode cAL_add 5 = .ok (.iconst 1, 1) := by decide +kernel
theorem dAL_add_6 : decode cAL_add 6 = .ok (.iadd, 1) := by decide +kernel
theorem dAL_add_7 : decode cAL_add 7 = .ok (.putfield 63, 3) := by decide +kernel
theorem dAL_add_10 : decode cAL_add 10 = .ok (.aload_n 0, 1) := by decide +kernel
theorem dAL_add_11 : decode cAL_add 11 = .ok (.aload_n 1, 1) := by decide +kernel
theorem dAL_add_12 : decode cAL_add 12 = .ok (.aload_n 0, 1) := by decide +kernel
theorem dAL_add_13 : decode cAL_add 13 = .ok (.getfield 9, 3) := by decide +kernel
theorem dAL_add_16 : decode cAL_add 16 = .ok (.aload_n 0, 1) := by decide +kernel
theorem dAL_add_17 : decode cAL_add 17 = .ok (.getfield 48, 3) := by decide +kernel
theorem dAL_add_20 : decode cAL_add 20 = .ok (.invokevirtual 131, 3) := by decide +kernel
theorem dAL_add_23 : decode cAL_add 23 = .ok (.iconst 1, 1) := by decide +kernel
theorem dAL_add_24 : decode cAL_add 24 = .ok (.ireturn, 1) := by decide +kernel
theorem dAL_add_41_0 : decode cAL_add_41 0 = .ok (.iload_n 3, 1) := by decide +kernel
theorem dAL_add_41_1 : decode cAL_add_41 1 = .ok (.aload_n 2, 1) := by decide +kernel
theorem dAL_add_41_2 : decode cAL_add_41 2 = .ok (.arraylength, 1) := by decide +kernel
theorem dAL_add_41_3 : decode cAL_add_41 3 = .ok (.if_icmp .ne 8, 3) := by decide +kernel
theorem dAL_add_41_6 : decode cAL_add_41 6 = .ok (.aload_n 0, 1) := by decide +kernel
theorem dAL_add_41_7 : decode cAL_add_41 7 = .ok (.invokevirtual 129, 3) := by decide +kernel
theorem dAL_add_41_10 : decode cAL_add_41 10 = .ok (.astore_n 2, 1) := by decide +kernel
theorem dAL_add_41_11 : decode cAL_add_41 11 = .ok (.aload_n 2, 1) := by decide +kernel
theorem dAL_add_41_12 : decode cAL_add_41 12 = .ok (.iload_n 3, 1) := by decide +kernel
theorem dAL_add_41_13 : decode cAL_add_41 13 = .ok (.aload_n 1, 1) := by decide +kernel
theorem dAL_add_41_14 : decode cAL_add_41 14 = .ok (.aastore, 1) := by decide +kernel
theorem dAL_add_41_15 : decode cAL_add_41 15 = .ok (.aload_n 0, 1) := by decide +kernel
theorem dAL_add_41_16 : decode cAL_add_41 16 = .ok (.iload_n 3, 1) := by decide +kernel
theorem dAL_add_41_17 : decode cAL_add_41 17 = .ok (.iconst 1, 1) := by decide +kernel
theorem dAL_add_41_18 : decode cAL_add_41 18 = .ok (.iadd, 1) := by decide +kernel
theorem dAL_add_41_19 : decode cAL_add_41 19 = .ok (.putfield 48, 3) := by decide +kernel
theorem dAL_add_41_22 : decode cAL_add_41 22 = .ok (.return_, 1) := by decide +kernel
theorem dAL_clear_0 : decode cAL_clear 0 = .ok (.aload_n 0, 1) := by decide +kernel
theorem dAL_clear_1 : decode cAL_clear 1 = .ok (.dup, 1) := by decide +kernel
theorem dAL_clear_2 : decode cAL_clear 2 = .ok (.getfield 63, 3) := by decide +kernel
theorem dAL_clear_5 : decode cAL_clear 5 = .ok (.iconst 1, 1) := by decide +kernel
theorem dAL_clear_6 : decode cAL_clear 6 = .ok (.iadd, 1) := by decide +kernel
theorem dAL_clear_7 : decode cAL_clear 7 = .ok (.putfield 63, 3) := by decide +kernel
theorem dAL_clear_10 : decode cAL_clear 10 = .ok (.aload_n 0, 1) := by decide +kernel
theorem dAL_clear_11 : decode cAL_clear 11 = .ok (.getfield 9, 3) := by decide +kernel
theorem dAL_clear_14 : decode cAL_clear 14 = .ok (.astore_n 1, 1) := by decide +kernel
theorem dAL_clear_15 : decode cAL_clear 15 = .ok (.aload_n 0, 1) := by decide +kernel
theorem dAL_clear_16 : decode cAL_clear 16 = .ok (.getfield 48, 3) := by decide +kernel
theorem dAL_clear_19 : decode cAL_clear 19 = .ok (.istore_n 2, 1) := by decide +kernel
theorem dAL_clear_20 : decode cAL_clear 20 = .ok (.aload_n 0, 1) := by decide +kernel
theorem dAL_clear_21 : decode cAL_clear 21 = .ok (.iconst 0, 1) := by decide +kernel
theorem dAL_clear_22 : decode cAL_clear 22 = .ok (.dup_x1, 1) := by decide +kernel
theorem dAL_clear_23 : decode cAL_clear 23 = .ok (.putfield 48, 3) := by decide +kernel
theorem dAL_clear_26 : decode cAL_clear 26 = .ok (.istore_n 3, 1) := by decide +kernel
theorem dAL_clear_27 : decode cAL_clear 27 = .ok (.iload_n 3, 1) := by decide +kernel
theorem dAL_clear_28 : decode cAL_clear 28 = .ok (.iload_n 2, 1) := by decide +kernel
theorem dAL_clear_29 : decode cAL_clear 29 = .ok (.if_icmp .ge 13, 3) := by decide +kernel
theorem dAL_clear_32 : decode cAL_clear 32 = .ok (.aload_n 1, 1) := by decide +kernel
theorem dAL_clear_33 : decode cAL_clear 33 = .ok (.iload_n 3, 1) := by decide +kernel
theorem dAL_clear_34 : decode cAL_clear 34 = .ok (.aconst_null, 1) := by decide +kernel
theorem dAL_clear_35 : decode cAL_clear 35 = .ok (.aastore, 1) := by decide +kernel
theorem dAL_clear_36 : decode cAL_clear 36 = .ok (.iinc 3 1, 3) := by decide +kernel
theorem dAL_clear_39 : decode cAL_clear 39 = .ok (.goto (-12), 3) := by decide +kernel
theorem dAL_clear_42 : decode cAL_clear 42 = .ok (.return_, 1) := by decide +kernel
theorem dAL_elementData_0 : decode cAL_elementData 0 = .ok (.aload_n 0, 1) := by decide +kernel
theorem dAL_elementData_1 : decode cAL_elementData 1 = .ok (.getfield 9, 3) := by decide +kernel
theorem dAL_elementData_4 : decode cAL_elementData 4 = .ok (.iload_n 1, 1) := by decide +kernel
theorem dAL_elementData_5 : decode cAL_elementData 5 = .ok (.aaload, 1) := by decide +kernel
theorem dAL_elementData_6 : decode cAL_elementData 6 = .ok (.areturn, 1) := by decide +kernel
theorem dAL_get_0 : decode cAL_get 0 = .ok (.iload_n 1, 1) := by decide +kernel
theorem dAL_get_1 : decode cAL_get 1 = .ok (.aload_n 0, 1) := by decide +kernel
theorem dAL_get_2 : decode cAL_get 2 = .ok (.getfield 48, 3) := by decide +kernel
theorem dAL_get_5 : decode cAL_get 5 = .ok (.invokestatic 118, 3) := by decide +kernel
theorem dAL_get_8 : decode cAL_get 8 = .ok (.pop, 1) := by decide +kernel
theorem dAL_get_9 : decode cAL_get 9 = .ok (.aload_n 0, 1) := by decide +kernel
theorem dAL_get_10 : decode cAL_get 10 = .ok (.iload_n 1, 1) := by decide +kernel
theorem dAL_get_11 : decode cAL_get 11 = .ok (.invokevirtual 123, 3) := by decide +kernel
theorem dAL_get_14 : decode cAL_get 14 = .ok (.areturn, 1) := by decide +kernel
theorem dAL_grow_0 : decode cAL_grow 0 = .ok (.aload_n 0, 1) := by decide +kernel
theorem dAL_grow_1 : decode cAL_grow 1 = .ok (.aload_n 0, 1) := by decide +kernel
theorem dAL_grow_2 : decode cAL_grow 2 = .ok (.getfield 48, 3) := by decide +kernel
theorem dAL_grow_5 : decode cAL_grow 5 = .ok (.iconst 1, 1) := by decide +kernel
theorem dAL_grow_6 : decode cAL_grow 6 = .ok (.iadd, 1) := by decide +kernel
theorem dAL_grow_7 : decode cAL_grow 7 = .ok (.invokevirtual 69, 3) := by decide +kernel
theorem dAL_grow_10 : decode cAL_grow 10 = .ok (.areturn, 1) := by decide +kernel
theorem dAL_grow_22_0 : decode cAL_grow_22 0 = .ok (.aload_n 0, 1) := by decide +kernel
theorem dAL_grow_22_1 : decode cAL_grow_22 1 = .ok (.getfield 9, 3) := by decide +kernel
theorem dAL_grow_22_4 : decode cAL_grow_22 4 = .ok (.arraylength, 1) := by decide +kernel
theorem dAL_grow_22_5 : decode cAL_grow_22 5 = .ok (.istore_n 2, 1) := by decide +kernel
theorem dAL_grow_22_6 : decode cAL_grow_22 6 = .ok (.iload_n 2, 1) := by decide +kernel
theorem dAL_grow_22_7 : decode cAL_grow_22 7 = .ok (.ifCond .gt 13, 3) := by decide +kernel
theorem dAL_grow_22_10 : decode cAL_grow_22 10 = .ok (.aload_n 0, 1) := by decide +kernel
theorem dAL_grow_22_11 : decode cAL_grow_22 11 = .ok (.getfield 9, 3) := by decide +kernel
theorem dAL_grow_22_14 : decode cAL_grow_22 14 = .ok (.getstatic 39, 3) := by decide +kernel
theorem dAL_grow_22_17 : decode cAL_grow_22 17 = .ok (.if_acmp .eq 28, 3) := by decide +kernel
theorem dAL_grow_22_20 : decode cAL_grow_22 20 = .ok (.iload_n 2, 1) := by decide +kernel
theorem dAL_grow_22_21 : decode cAL_grow_22 21 = .ok (.iload_n 1, 1) := by decide +kernel
theorem dAL_grow_22_22 : decode cAL_grow_22 22 = .ok (.iload_n 2, 1) := by decide +kernel
theorem dAL_grow_22_23 : decode cAL_grow_22 23 = .ok (.isub, 1) := by decide +kernel
theorem dAL_grow_22_24 : decode cAL_grow_22 24 = .ok (.iload_n 2, 1) := by decide +kernel
theorem dAL_grow_22_25 : decode cAL_grow_22 25 = .ok (.iconst 1, 1) := by decide +kernel
theorem dAL_grow_22_26 : decode cAL_grow_22 26 = .ok (.ishr, 1) := by decide +kernel
theorem dAL_grow_22_27 : decode cAL_grow_22 27 = .ok (.invokestatic 73, 3) := by decide +kernel
theorem dAL_grow_22_30 : decode cAL_grow_22 30 = .ok (.istore_n 3, 1) := by decide +kernel
theorem dAL_grow_22_31 : decode cAL_grow_22 31 = .ok (.aload_n 0, 1) := by decide +kernel
theorem dAL_grow_22_32 : decode cAL_grow_22 32 = .ok (.aload_n 0, 1) := by decide +kernel
theorem dAL_grow_22_33 : decode cAL_grow_22 33 = .ok (.getfield 9, 3) := by decide +kernel
theorem dAL_grow_22_36 : decode cAL_grow_22 36 = .ok (.iload_n 3, 1) := by decide +kernel
theorem dAL_grow_22_37 : decode cAL_grow_22 37 = .ok (.invokestatic 66, 3) := by decide +kernel
theorem dAL_grow_22_40 : decode cAL_grow_22 40 = .ok (.dup_x1, 1) := by decide +kernel
theorem dAL_grow_22_41 : decode cAL_grow_22 41 = .ok (.putfield 9, 3) := by decide +kernel
theorem dAL_grow_22_44 : decode cAL_grow_22 44 = .ok (.areturn, 1) := by decide +kernel
theorem dAL_grow_22_45 : decode cAL_grow_22 45 = .ok (.aload_n 0, 1) := by decide +kernel
theorem dAL_grow_22_46 : decode cAL_grow_22 46 = .ok (.bipush 10, 2) := by decide +kernel
theorem dAL_grow_22_48 : decode cAL_grow_22 48 = .ok (.iload_n 1, 1) := by decide +kernel
theorem dAL_grow_22_49 : decode cAL_grow_22 49 = .ok (.invokestatic 79, 3) := by decide +kernel
theorem dAL_grow_22_52 : decode cAL_grow_22 52 = .ok (.anewarray 7, 3) := by decide +kernel
theorem dAL_grow_22_55 : decode cAL_grow_22 55 = .ok (.dup_x1, 1) := by decide +kernel
theorem dAL_grow_22_56 : decode cAL_grow_22 56 = .ok (.putfield 9, 3) := by decide +kernel
theorem dAL_grow_22_59 : decode cAL_grow_22 59 = .ok (.areturn, 1) := by decide +kernel
theorem dAL_init_0 : decode cAL_init 0 = .ok (.aload_n 0, 1) := by decide +kernel
theorem dAL_init_1 : decode cAL_init 1 = .ok (.invokespecial 1, 3) := by decide +kernel
theorem dAL_init_4 : decode cAL_init 4 = .ok (.aload_n 0, 1) := by decide +kernel
theorem dAL_init_5 : decode cAL_init 5 = .ok (.getstatic 39, 3) := by decide +kernel
theorem dAL_init_8 : decode cAL_init 8 = .ok (.putfield 9, 3) := by decide +kernel
theorem dAL_init_11 : decode cAL_init 11 = .ok (.return_, 1) := by decide +kernel
theorem dAL_size_0 : decode cAL_size 0 = .ok (.aload_n 0, 1) := by decide +kernel
theorem dAL_size_1 : decode cAL_size 1 = .ok (.getfield 48, 3) := by decide +kernel
theorem dAL_size_4 : decode cAL_size 4 = .ok (.ireturn, 1) := by decide +kernel
theorem dAR_copyOf_0 : decode cAR_copyOf 0 = .ok (.aload_n 0, 1) := by decide +kernel
theorem dAR_copyOf_1 : decode cAR_copyOf 1 = .ok (.iload_n 1, 1) := by decide +kernel
theorem dAR_copyOf_2 : decode cAR_copyOf 2 = .ok (.aload_n 0, 1) := by decide +kernel
theorem dAR_copyOf_3 : decode cAR_copyOf 3 = .ok (.invokevirtual 86, 3) := by decide +kernel
theorem dAR_copyOf_6 : decode cAR_copyOf 6 = .ok (.invokestatic 300, 3) := by decide +kernel
theorem dAR_copyOf_9 : decode cAR_copyOf 9 = .ok (.areturn, 1) := by decide +kernel
theorem dAR_copyOf_58_0 : decode cAR_copyOf_58 0 = .ok (.aload_n 2, 1) := by decide +kernel
theorem dAR_copyOf_58_1 : decode cAR_copyOf_58 1 = .ok (.ldc 110, 2) := by decide +kernel
theorem dAR_copyOf_58_3 : decode cAR_copyOf_58 3 = .ok (.if_acmp .ne 10, 3) := by decide +kernel
theorem dAR_copyOf_58_6 : decode cAR_copyOf_58 6 = .ok (.iload_n 1, 1) := by decide +kernel
theorem dAR_copyOf_58_7 : decode cAR_copyOf_58 7 = .ok (.anewarray 2, 3) := by decide +kernel
theorem dAR_copyOf_58_10 : decode cAR_copyOf_58 10 = .ok (.goto 14, 3) := by decide +kernel
theorem dAR_copyOf_58_13 : decode cAR_copyOf_58 13 = .ok (.aload_n 2, 1) := by decide +kernel
theorem dAR_copyOf_58_14 : decode cAR_copyOf_58 14 = .ok (.invokevirtual 90, 3) := by decide +kernel
theorem dAR_copyOf_58_17 : decode cAR_copyOf_58 17 = .ok (.iload_n 1, 1) := by decide +kernel
theorem dAR_copyOf_58_18 : decode cAR_copyOf_58 18 = .ok (.invokestatic 95, 3) := by decide +kernel
theorem dAR_copyOf_58_21 : decode cAR_copyOf_58 21 = .ok (.checkcast 110, 3) := by decide +kernel
theorem dAR_copyOf_58_24 : decode cAR_copyOf_58 24 = .ok (.astore_n 3, 1) := by decide +kernel
theorem dAR_copyOf_58_25 : decode cAR_copyOf_58 25 = .ok (.aload_n 0, 1) := by decide +kernel
theorem dAR_copyOf_58_26 : decode cAR_copyOf_58 26 = .ok (.iconst 0, 1) := by decide +kernel
theorem dAR_copyOf_58_27 : decode cAR_copyOf_58 27 = .ok (.aload_n 3, 1) := by decide +kernel
theorem dAR_copyOf_58_28 : decode cAR_copyOf_58 28 = .ok (.iconst 0, 1) := by decide +kernel
theorem dAR_copyOf_58_29 : decode cAR_copyOf_58 29 = .ok (.aload_n 0, 1) := by decide +kernel
theorem dAR_copyOf_58_30 : decode cAR_copyOf_58 30 = .ok (.arraylength, 1) := by decide +kernel
theorem dAR_copyOf_58_31 : decode cAR_copyOf_58 31 = .ok (.iload_n 1, 1) := by decide +kernel
theorem dAR_copyOf_58_32 : decode cAR_copyOf_58 32 = .ok (.invokestatic 304, 3) := by decide +kernel
theorem dAR_copyOf_58_35 : decode cAR_copyOf_58 35 = .ok (.invokestatic 150, 3) := by decide +kernel
theorem dAR_copyOf_58_38 : decode cAR_copyOf_58 38 = .ok (.aload_n 3, 1) := by decide +kernel
theorem dAR_copyOf_58_39 : decode cAR_copyOf_58 39 = .ok (.areturn, 1) := by decide +kernel
theorem dAR_fill_0 : decode cAR_fill 0 = .ok (.iconst 0, 1) := by decide +kernel
theorem dAR_fill_1 : decode cAR_fill 1 = .ok (.istore_n 2, 1) := by decide +kernel
theorem dAR_fill_2 : decode cAR_fill 2 = .ok (.aload_n 0, 1) := by decide +kernel
theorem dAR_fill_3 : decode cAR_fill 3 = .ok (.arraylength, 1) := by decide +kernel
theorem dAR_fill_4 : decode cAR_fill 4 = .ok (.istore_n 3, 1) := by decide +kernel
theorem dAR_fill_5 : decode cAR_fill 5 = .ok (.iload_n 2, 1) := by decide +kernel
theorem dAR_fill_6 : decode cAR_fill 6 = .ok (.iload_n 3, 1) := by decide +kernel
theorem dAR_fill_7 : decode cAR_fill 7 = .ok (.if_icmp .ge 13, 3) := by decide +kernel
theorem dAR_fill_10 : decode cAR_fill 10 = .ok (.aload_n 0, 1) := by decide +kernel
theorem dAR_fill_11 : decode cAR_fill 11 = .ok (.iload_n 2, 1) := by decide +kernel
theorem dAR_fill_12 : decode cAR_fill 12 = .ok (.iload_n 1, 1) := by decide +kernel
theorem dAR_fill_13 : decode cAR_fill 13 = .ok (.iastore, 1) := by decide +kernel
theorem dAR_fill_14 : decode cAR_fill 14 = .ok (.iinc 2 1, 3) := by decide +kernel
theorem dAR_fill_17 : decode cAR_fill 17 = .ok (.goto (-12), 3) := by decide +kernel
theorem dAR_fill_20 : decode cAR_fill 20 = .ok (.return_, 1) := by decide +kernel
theorem dAS_newLength_0 : decode cAS_newLength 0 = .ok (.iload_n 0, 1) := by decide +kernel
theorem dAS_newLength_1 : decode cAS_newLength 1 = .ok (.iload_n 1, 1) := by decide +kernel
theorem dAS_newLength_2 : decode cAS_newLength 2 = .ok (.iload_n 2, 1) := by decide +kernel
theorem dAS_newLength_3 : decode cAS_newLength 3 = .ok (.invokestatic 194, 3) := by decide +kernel
theorem dAS_newLength_6 : decode cAS_newLength 6 = .ok (.iadd, 1) := by decide +kernel
theorem dAS_newLength_7 : decode cAS_newLength 7 = .ok (.istore_n 3, 1) := by decide +kernel
theorem dAS_newLength_8 : decode cAS_newLength 8 = .ok (.iconst 0, 1) := by decide +kernel
theorem dAS_newLength_9 : decode cAS_newLength 9 = .ok (.iload_n 3, 1) := by decide +kernel
theorem dAS_newLength_10 : decode cAS_newLength 10 = .ok (.if_icmp .ge 11, 3) := by decide +kernel
theorem dAS_newLength_13 : decode cAS_newLength 13 = .ok (.iload_n 3, 1) := by decide +kernel
theorem dAS_newLength_14 : decode cAS_newLength 14 = .ok (.ldc 200, 2) := by decide +kernel
theorem dAS_newLength_16 : decode cAS_newLength 16 = .ok (.if_icmp .gt 5, 3) := by decide +kernel
theorem dAS_newLength_19 : decode cAS_newLength 19 = .ok (.iload_n 3, 1) := by decide +kernel
theorem dAS_newLength_20 : decode cAS_newLength 20 = .ok (.ireturn, 1) := by decide +kernel
theorem dAS_newLength_21 : decode cAS_newLength 21 = .ok (.iload_n 0, 1) := by decide +kernel
theorem dAS_newLength_22 : decode cAS_newLength 22 = .ok (.iload_n 1, 1) := by decide +kernel
theorem dAS_newLength_23 : decode cAS_newLength 23 = .ok (.invokestatic 201, 3) := by decide +kernel
theorem dAS_newLength_26 : decode cAS_newLength 26 = .ok (.ireturn, 1) := by decide +kernel
theorem dCE_bottom_0 : decode cCE_bottom 0 = .ok (.aload_n 0, 1) := by decide +kernel
theorem dCE_bottom_1 : decode cCE_bottom 1 = .ok (.getfield 21, 3) := by decide +kernel
theorem dCE_bottom_4 : decode cCE_bottom 4 = .ok (.aload_n 0, 1) := by decide +kernel
theorem dCE_bottom_5 : decode cCE_bottom 5 = .ok (.getfield 27, 3) := by decide +kernel
theorem dCE_bottom_8 : decode cCE_bottom 8 = .ok (.iadd, 1) := by decide +kernel
theorem dCE_bottom_9 : decode cCE_bottom 9 = .ok (.ireturn, 1) := by decide +kernel
theorem dCE_frame_0 : decode cCE_frame 0 = .ok (.aload_n 0, 1) := by decide +kernel
theorem dCE_frame_1 : decode cCE_frame 1 = .ok (.iload_n 1, 1) := by decide +kernel
theorem dCE_frame_2 : decode cCE_frame 2 = .ok (.putfield 9, 3) := by decide +kernel
theorem dCE_frame_5 : decode cCE_frame 5 = .ok (.aload_n 0, 1) := by decide +kernel
theorem dCE_frame_6 : decode cCE_frame 6 = .ok (.iload_n 2, 1) := by decide +kernel
theorem dCE_frame_7 : decode cCE_frame 7 = .ok (.putfield 15, 3) := by decide +kernel
theorem dCE_frame_10 : decode cCE_frame 10 = .ok (.return_, 1) := by decide +kernel
theorem dCE_growTo_0 : decode cCE_growTo 0 = .ok (.aload_n 0, 1) := by decide +kernel
theorem dCE_growTo_1 : decode cCE_growTo 1 = .ok (.getfield 39, 3) := by decide +kernel
theorem dCE_growTo_4 : decode cCE_growTo 4 = .ok (.ifCond .eq 13, 3) := by decide +kernel
theorem dCE_growTo_7 : decode cCE_growTo 7 = .ok (.aload_n 0, 1) := by decide +kernel
theorem dCE_growTo_8 : decode cCE_growTo 8 = .ok (.iload_n 1, 1) := by decide +kernel
theorem dCE_growTo_9 : decode cCE_growTo 9 = .ok (.aload_n 0, 1) := by decide +kernel
theorem dCE_growTo_10 : decode cCE_growTo 10 = .ok (.getfield 21, 3) := by decide +kernel
theorem dCE_growTo_13 : decode cCE_growTo 13 = .ok (.isub, 1) := by decide +kernel
theorem dCE_growTo_14 : decode cCE_growTo 14 = .ok (.putfield 27, 3) := by decide +kernel
theorem dCE_growTo_17 : decode cCE_growTo 17 = .ok (.return_, 1) := by decide +kernel
theorem dCE_init_0 : decode cCE_init 0 = .ok (.aload_n 0, 1) := by decide +kernel
theorem dCE_init_1 : decode cCE_init 1 = .ok (.invokespecial 3, 3) := by decide +kernel
theorem dCE_init_4 : decode cCE_init 4 = .ok (.aload_n 0, 1) := by decide +kernel
theorem dCE_init_5 : decode cCE_init 5 = .ok (.iconst 0, 1) := by decide +kernel
theorem dCE_init_6 : decode cCE_init 6 = .ok (.putfield 9, 3) := by decide +kernel
theorem dCE_init_9 : decode cCE_init 9 = .ok (.aload_n 0, 1) := by decide +kernel
theorem dCE_init_10 : decode cCE_init 10 = .ok (.iconst 0, 1) := by decide +kernel
theorem dCE_init_11 : decode cCE_init 11 = .ok (.putfield 15, 3) := by decide +kernel
theorem dCE_init_14 : decode cCE_init 14 = .ok (.aload_n 0, 1) := by decide +kernel
theorem dCE_init_15 : decode cCE_init 15 = .ok (.iload_n 1, 1) := by decide +kernel
theorem dCE_init_16 : decode cCE_init 16 = .ok (.putfield 18, 3) := by decide +kernel
theorem dCE_init_19 : decode cCE_init 19 = .ok (.aload_n 0, 1) := by decide +kernel
theorem dCE_init_20 : decode cCE_init 20 = .ok (.iload_n 2, 1) := by decide +kernel
theorem dCE_init_21 : decode cCE_init 21 = .ok (.putfield 21, 3) := by decide +kernel
theorem dCE_init_24 : decode cCE_init 24 = .ok (.aload_n 0, 1) := by decide +kernel
theorem dCE_init_25 : decode cCE_init 25 = .ok (.iload_n 3, 1) := by decide +kernel
theorem dCE_init_26 : decode cCE_init 26 = .ok (.putfield 24, 3) := by decide +kernel
theorem dCE_init_29 : decode cCE_init 29 = .ok (.aload_n 0, 1) := by decide +kernel
theorem dCE_init_30 : decode cCE_init 30 = .ok (.iload 4, 2) := by decide +kernel
theorem dCE_init_32 : decode cCE_init 32 = .ok (.putfield 27, 3) := by decide +kernel
theorem dCE_init_35 : decode cCE_init 35 = .ok (.aload_n 0, 1) := by decide +kernel
theorem dCE_init_36 : decode cCE_init 36 = .ok (.iload 5, 2) := by decide +kernel
theorem dCE_init_38 : decode cCE_init 38 = .ok (.putfield 30, 3) := by decide +kernel
theorem dCE_init_41 : decode cCE_init 41 = .ok (.aload_n 0, 1) := by decide +kernel
theorem dCE_init_42 : decode cCE_init 42 = .ok (.iload 6, 2) := by decide +kernel
theorem dCE_init_44 : decode cCE_init 44 = .ok (.putfield 33, 3) := by decide +kernel
theorem dCE_init_47 : decode cCE_init 47 = .ok (.aload_n 0, 1) := by decide +kernel
theorem dCE_init_48 : decode cCE_init 48 = .ok (.iload 7, 2) := by decide +kernel
theorem dCE_init_50 : decode cCE_init 50 = .ok (.putfield 36, 3) := by decide +kernel
theorem dCE_init_53 : decode cCE_init 53 = .ok (.aload_n 0, 1) := by decide +kernel
theorem dCE_init_54 : decode cCE_init 54 = .ok (.iload 4, 2) := by decide +kernel
theorem dCE_init_56 : decode cCE_init 56 = .ok (.ifCond .ne 7, 3) := by decide +kernel
theorem dCE_init_59 : decode cCE_init 59 = .ok (.iconst 1, 1) := by decide +kernel
theorem dCE_init_60 : decode cCE_init 60 = .ok (.goto 4, 3) := by decide +kernel
theorem dCE_init_63 : decode cCE_init 63 = .ok (.iconst 0, 1) := by decide +kernel
theorem dCE_init_64 : decode cCE_init 64 = .ok (.putfield 39, 3) := by decide +kernel
theorem dCE_init_67 : decode cCE_init 67 = .ok (.return_, 1) := by decide +kernel
theorem dCE_prevailsOver_0 : decode cCE_prevailsOver 0 = .ok (.aload_n 1, 1) := by decide +kernel
theorem dCE_prevailsOver_1 : decode cCE_prevailsOver 1 = .ok (.getfield 15, 3) := by decide +kernel
theorem dCE_prevailsOver_4 : decode cCE_prevailsOver 4 = .ok (.iconst 4, 1) := by decide +kernel
theorem dCE_prevailsOver_5 : decode cCE_prevailsOver 5 = .ok (.if_icmp .ne 5, 3) := by decide +kernel
theorem dCE_prevailsOver_8 : decode cCE_prevailsOver 8 = .ok (.iconst 0, 1) := by decide +kernel
theorem dCE_prevailsOver_9 : decode cCE_prevailsOver 9 = .ok (.ireturn, 1) := by decide +kernel
theorem dCE_prevailsOver_10 : decode cCE_prevailsOver 10 = .ok (.aload_n 0, 1) := by decide +kernel
theorem dCE_prevailsOver_11 : decode cCE_prevailsOver 11 = .ok (.getfield 15, 3) := by decide +kernel
theorem dCE_prevailsOver_14 : decode cCE_prevailsOver 14 = .ok (.iconst 4, 1) := by decide +kernel
theorem dCE_prevailsOver_15 : decode cCE_prevailsOver 15 = .ok (.if_icmp .ne 5, 3) := by decide +kernel
theorem dCE_prevailsOver_18 : decode cCE_prevailsOver 18 = .ok (.iconst 1, 1) := by decide +kernel
theorem dCE_prevailsOver_19 : decode cCE_prevailsOver 19 = .ok (.ireturn, 1) := by decide +kernel
theorem dCE_prevailsOver_20 : decode cCE_prevailsOver 20 = .ok (.aload_n 0, 1) := by decide +kernel
theorem dCE_prevailsOver_21 : decode cCE_prevailsOver 21 = .ok (.getfield 9, 3) := by decide +kernel
theorem dCE_prevailsOver_24 : decode cCE_prevailsOver 24 = .ok (.aload_n 1, 1) := by decide +kernel
theorem dCE_prevailsOver_25 : decode cCE_prevailsOver 25 = .ok (.getfield 9, 3) := by decide +kernel
theorem dCE_prevailsOver_28 : decode cCE_prevailsOver 28 = .ok (.if_icmp .eq 20, 3) := by decide +kernel
theorem dCE_prevailsOver_31 : decode cCE_prevailsOver 31 = .ok (.aload_n 0, 1) := by decide +kernel
theorem dCE_prevailsOver_32 : decode cCE_prevailsOver 32 = .ok (.getfield 9, 3) := by decide +kernel
theorem dCE_prevailsOver_35 : decode cCE_prevailsOver 35 = .ok (.aload_n 1, 1) := by decide +kernel
theorem dCE_prevailsOver_36 : decode cCE_prevailsOver 36 = .ok (.getfield 9, 3) := by decide +kernel
theorem dCE_prevailsOver_39 : decode cCE_prevailsOver 39 = .ok (.if_icmp .le 7, 3) := by decide +kernel
theorem dCE_prevailsOver_42 : decode cCE_prevailsOver 42 = .ok (.iconst 1, 1) := by decide +kernel
theorem dCE_prevailsOver_43 : decode cCE_prevailsOver 43 = .ok (.goto 4, 3) := by decide +kernel
theorem dCE_prevailsOver_46 : decode cCE_prevailsOver 46 = .ok (.iconst 0, 1) := by decide +kernel
theorem dCE_prevailsOver_47 : decode cCE_prevailsOver 47 = .ok (.ireturn, 1) := by decide +kernel
theorem dCE_prevailsOver_48 : decode cCE_prevailsOver 48 = .ok (.aload_n 0, 1) := by decide +kernel
theorem dCE_prevailsOver_49 : decode cCE_prevailsOver 49 = .ok (.getfield 15, 3) := by decide +kernel
theorem dCE_prevailsOver_52 : decode cCE_prevailsOver 52 = .ok (.aload_n 1, 1) := by decide +kernel
theorem dCE_prevailsOver_53 : decode cCE_prevailsOver 53 = .ok (.getfield 15, 3) := by decide +kernel
theorem dCE_prevailsOver_56 : decode cCE_prevailsOver 56 = .ok (.if_icmp .le 7, 3) := by decide +kernel
theorem dCE_prevailsOver_59 : decode cCE_prevailsOver 59 = .ok (.iconst 1, 1) := by decide +kernel
theorem dCE_prevailsOver_60 : decode cCE_prevailsOver 60 = .ok (.goto 4, 3) := by decide +kernel
theorem dCE_prevailsOver_63 : decode cCE_prevailsOver 63 = .ok (.iconst 0, 1) := by decide +kernel
theorem dCE_prevailsOver_64 : decode cCE_prevailsOver 64 = .ok (.ireturn, 1) := by decide +kernel
theorem dCE_right_0 : decode cCE_right 0 = .ok (.aload_n 0, 1) := by decide +kernel
theorem dCE_right_1 : decode cCE_right 1 = .ok (.getfield 18, 3) := by decide +kernel
theorem dCE_right_4 : decode cCE_right 4 = .ok (.aload_n 0, 1) := by decide +kernel
theorem dCE_right_5 : decode cCE_right 5 = .ok (.getfield 24, 3) := by decide +kernel
theorem dCE_right_8 : decode cCE_right 8 = .ok (.iadd, 1) := by decide +kernel
theorem dCE_right_9 : decode cCE_right 9 = .ok (.ireturn, 1) := by decide +kernel
theorem dCE_takes_0 : decode cCE_takes 0 = .ok (.aload_n 0, 1) := by decide +kernel
theorem dCE_takes_1 : decode cCE_takes 1 = .ok (.getfield 18, 3) := by decide +kernel
theorem dCE_takes_4 : decode cCE_takes 4 = .ok (.iload_n 1, 1) := by decide +kernel
theorem dCE_takes_5 : decode cCE_takes 5 = .ok (.if_icmp .gt 31, 3) := by decide +kernel
theorem dCE_takes_8 : decode cCE_takes 8 = .ok (.iload_n 1, 1) := by decide +kernel
theorem dCE_takes_9 : decode cCE_takes 9 = .ok (.aload_n 0, 1) := by decide +kernel
theorem dCE_takes_10 : decode cCE_takes 10 = .ok (.invokevirtual 43, 3) := by decide +kernel
theorem dCE_takes_13 : decode cCE_takes 13 = .ok (.if_icmp .ge 23, 3) := by decide +kernel
theorem dCE_takes_16 : decode cCE_takes 16 = .ok (.aload_n 0, 1) := by decide +kernel
theorem dCE_takes_17 : decode cCE_takes 17 = .ok (.getfield 21, 3) := by decide +kernel
theorem dCE_takes_20 : decode cCE_takes 20 = .ok (.iload_n 2, 1) := by decide +kernel
theorem dCE_takes_21 : decode cCE_takes 21 = .ok (.if_icmp .gt 15, 3) := by decide +kernel
theorem dCE_takes_24 : decode cCE_takes 24 = .ok (.iload_n 2, 1) := by decide +kernel
theorem dCE_takes_25 : decode cCE_takes 25 = .ok (.aload_n 0, 1) := by decide +kernel
theorem dCE_takes_26 : decode cCE_takes 26 = .ok (.invokevirtual 47, 3) := by decide +kernel
theorem dCE_takes_29 : decode cCE_takes 29 = .ok (.if_icmp .ge 7, 3) := by decide +kernel
theorem dCE_takes_32 : decode cCE_takes 32 = .ok (.iconst 1, 1) := by decide +kernel
theorem dCE_takes_33 : decode cCE_takes 33 = .ok (.goto 4, 3) := by decide +kernel
theorem dCE_takes_36 : decode cCE_takes 36 = .ok (.iconst 0, 1) := by decide +kernel
theorem dCE_takes_37 : decode cCE_takes 37 = .ok (.ireturn, 1) := by decide +kernel
theorem dGR_beginGroup_0 : decode cGR_beginGroup 0 = .ok (.aload_n 0, 1) := by decide +kernel
theorem dGR_beginGroup_1 : decode cGR_beginGroup 1 = .ok (.getfield 18, 3) := by decide +kernel
theorem dGR_beginGroup_4 : decode cGR_beginGroup 4 = .ok (.bipush 8, 2) := by decide +kernel
theorem dGR_beginGroup_6 : decode cGR_beginGroup 6 = .ok (.if_icmp .ne 5, 3) := by decide +kernel
theorem dGR_beginGroup_9 : decode cGR_beginGroup 9 = .ok (.iconst (-1), 1) := by decide +kernel
theorem dGR_beginGroup_10 : decode cGR_beginGroup 10 = .ok (.ireturn, 1) := by decide +kernel
theorem dGR_beginGroup_11 : decode cGR_beginGroup 11 = .ok (.aload_n 0, 1) := by decide +kernel
theorem dGR_beginGroup_12 : decode cGR_beginGroup 12 = .ok (.dup, 1) := by decide +kernel
theorem dGR_beginGroup_13 : decode cGR_beginGroup 13 = .ok (.getfield 18, 3) := by decide +kernel
theorem dGR_beginGroup_16 : decode cGR_beginGroup 16 = .ok (.iconst 1, 1) := by decide +kernel
theorem dGR_beginGroup_17 : decode cGR_beginGroup 17 = .ok (.iadd, 1) := by decide +kernel
theorem dGR_beginGroup_18 : decode cGR_beginGroup 18 = .ok (.putfield 18, 3) := by decide +kernel
theorem dGR_beginGroup_21 : decode cGR_beginGroup 21 = .ok (.aload_n 0, 1) := by decide +kernel
theorem dGR_beginGroup_22 : decode cGR_beginGroup 22 = .ok (.aload_n 0, 1) := by decide +kernel
theorem dGR_beginGroup_23 : decode cGR_beginGroup 23 = .ok (.getfield 28, 3) := by decide +kernel
theorem dGR_beginGroup_26 : decode cGR_beginGroup 26 = .ok (.putfield 22, 3) := by decide +kernel
theorem dGR_beginGroup_29 : decode cGR_beginGroup 29 = .ok (.aload_n 0, 1) := by decide +kernel
theorem dGR_beginGroup_30 : decode cGR_beginGroup 30 = .ok (.iconst 0, 1) := by decide +kernel
theorem dGR_beginGroup_31 : decode cGR_beginGroup 31 = .ok (.putfield 25, 3) := by decide +kernel
theorem dGR_beginGroup_34 : decode cGR_beginGroup 34 = .ok (.aload_n 0, 1) := by decide +kernel
theorem dGR_beginGroup_35 : decode cGR_beginGroup 35 = .ok (.getfield 18, 3) := by decide +kernel
theorem dGR_beginGroup_38 : decode cGR_beginGroup 38 = .ok (.ireturn, 1) := by decide +kernel
theorem dGR_beginRow_0 : decode cGR_beginRow 0 = .ok (.aload_n 0, 1) := by decide +kernel
theorem dGR_beginRow_1 : decode cGR_beginRow 1 = .ok (.getfield 22, 3) := by decide +kernel
theorem dGR_beginRow_4 : decode cGR_beginRow 4 = .ok (.aload_n 0, 1) := by decide +kernel
theorem dGR_beginRow_5 : decode cGR_beginRow 5 = .ok (.getfield 25, 3) := by decide +kernel
theorem dGR_beginRow_8 : decode cGR_beginRow 8 = .ok (.iadd, 1) := by decide +kernel
theorem dGR_beginRow_9 : decode cGR_beginRow 9 = .ok (.istore_n 1, 1) := by decide +kernel
theorem dGR_beginRow_10 : decode cGR_beginRow 10 = .ok (.iload_n 1, 1) := by decide +kernel
theorem dGR_beginRow_11 : decode cGR_beginRow 11 = .ok (.bipush 12, 2) := by decide +kernel
theorem dGR_beginRow_13 : decode cGR_beginRow 13 = .ok (.if_icmp .lt 5, 3) := by decide +kernel
theorem dGR_beginRow_16 : decode cGR_beginRow 16 = .ok (.iconst (-1), 1) := by decide +kernel
theorem dGR_beginRow_17 : decode cGR_beginRow 17 = .ok (.ireturn, 1) := by decide +kernel
theorem dGR_beginRow_18 : decode cGR_beginRow 18 = .ok (.aload_n 0, 1) := by decide +kernel
theorem dGR_beginRow_19 : decode cGR_beginRow 19 = .ok (.dup, 1) := by decide +kernel
theorem dGR_beginRow_20 : decode cGR_beginRow 20 = .ok (.getfield 25, 3) := by decide +kernel
theorem dGR_beginRow_23 : decode cGR_beginRow 23 = .ok (.iconst 1, 1) := by decide +kernel
theorem dGR_beginRow_24 : decode cGR_beginRow 24 = .ok (.iadd, 1) := by decide +kernel
theorem dGR_beginRow_25 : decode cGR_beginRow 25 = .ok (.putfield 25, 3) := by decide +kernel
theorem dGR_beginRow_28 : decode cGR_beginRow 28 = .ok (.aload_n 0, 1) := by decide +kernel
theorem dGR_beginRow_29 : decode cGR_beginRow 29 = .ok (.iload_n 1, 1) := by decide +kernel
theorem dGR_beginRow_30 : decode cGR_beginRow 30 = .ok (.iconst 1, 1) := by decide +kernel
theorem dGR_beginRow_31 : decode cGR_beginRow 31 = .ok (.iadd, 1) := by decide +kernel
theorem dGR_beginRow_32 : decode cGR_beginRow 32 = .ok (.invokevirtual 37, 3) := by decide +kernel
theorem dGR_beginRow_35 : decode cGR_beginRow 35 = .ok (.iload_n 1, 1) := by decide +kernel
theorem dGR_beginRow_36 : decode cGR_beginRow 36 = .ok (.ireturn, 1) := by decide +kernel
theorem dGR_beginsInColumn_0 : decode cGR_beginsInColumn 0 = .ok (.iconst 0, 1) := by decide +kernel
theorem dGR_beginsInColumn_1 : decode cGR_beginsInColumn 1 = .ok (.istore_n 2, 1) := by decide +kernel
theorem dGR_beginsInColumn_2 : decode cGR_beginsInColumn 2 = .ok (.iload_n 2, 1) := by decide +kernel
theorem dGR_beginsInColumn_3 : decode cGR_beginsInColumn 3 = .ok (.aload_n 0, 1) := by decide +kernel
theorem dGR_beginsInColumn_4 : decode cGR_beginsInColumn 4 = .ok (.getfield 12, 3) := by decide +kernel
theorem dGR_beginsInColumn_7 : decode cGR_beginsInColumn 7 = .ok (.invokevirtual 41, 3) := by decide +kernel
theorem dGR_beginsInColumn_10 : decode cGR_beginsInColumn 10 = .ok (.if_icmp .ge 29, 3) := by decide +kernel
theorem dGR_beginsInColumn_13 : decode cGR_beginsInColumn 13 = .ok (.aload_n 0, 1) := by decide +kernel
theorem dGR_beginsInColumn_14 : decode cGR_beginsInColumn 14 = .ok (.getfield 12, 3) := by decide +kernel
theorem dGR_beginsInColumn_17 : decode cGR_beginsInColumn 17 = .ok (.iload_n 2, 1) := by decide +kernel
theorem dGR_beginsInColumn_18 : decode cGR_beginsInColumn 18 = .ok (.invokevirtual 67, 3) := by decide +kernel
theorem dGR_beginsInColumn_21 : decode cGR_beginsInColumn 21 = .ok (.checkcast 49, 3) := by decide +kernel
theorem dGR_beginsInColumn_24 : decode cGR_beginsInColumn 24 = .ok (.getfield 101, 3) := by decide +kernel
theorem dGR_beginsInColumn_27 : decode cGR_beginsInColumn 27 = .ok (.iload_n 1, 1) := by decide +kernel
theorem dGR_beginsInColumn_28 : decode cGR_beginsInColumn 28 = .ok (.if_icmp .ne 5, 3) := by decide +kernel
theorem dGR_beginsInColumn_31 : decode cGR_beginsInColumn 31 = .ok (.iconst 1, 1) := by decide +kernel
theorem dGR_beginsInColumn_32 : decode cGR_beginsInColumn 32 = .ok (.ireturn, 1) := by decide +kernel
theorem dGR_beginsInColumn_33 : decode cGR_beginsInColumn 33 = .ok (.iinc 2 1, 3) := by decide +kernel
theorem dGR_beginsInColumn_36 : decode cGR_beginsInColumn 36 = .ok (.goto (-34), 3) := by decide +kernel
theorem dGR_beginsInColumn_39 : decode cGR_beginsInColumn 39 = .ok (.iconst 0, 1) := by decide +kernel
theorem dGR_beginsInColumn_40 : decode cGR_beginsInColumn 40 = .ok (.ireturn, 1) := by decide +kernel
theorem dGR_beginsInRow_0 : decode cGR_beginsInRow 0 = .ok (.iconst 0, 1) := by decide +kernel
theorem dGR_beginsInRow_1 : decode cGR_beginsInRow 1 = .ok (.istore_n 2, 1) := by decide +kernel
theorem dGR_beginsInRow_2 : decode cGR_beginsInRow 2 = .ok (.iload_n 2, 1) := by decide +kernel
theorem dGR_beginsInRow_3 : decode cGR_beginsInRow 3 = .ok (.aload_n 0, 1) := by decide +kernel
theorem dGR_beginsInRow_4 : decode cGR_beginsInRow 4 = .ok (.getfield 12, 3) := by decide +kernel
theorem dGR_beginsInRow_7 : decode cGR_beginsInRow 7 = .ok (.invokevirtual 41, 3) := by decide +kernel
theorem dGR_beginsInRow_10 : decode cGR_beginsInRow 10 = .ok (.if_icmp .ge 29, 3) := by decide +kernel
theorem dGR_beginsInRow_13 : decode cGR_beginsInRow 13 = .ok (.aload_n 0, 1) := by decide +kernel
theorem dGR_beginsInRow_14 : decode cGR_beginsInRow 14 = .ok (.getfield 12, 3) := by decide +kernel
theorem dGR_beginsInRow_17 : decode cGR_beginsInRow 17 = .ok (.iload_n 2, 1) := by decide +kernel
theorem dGR_beginsInRow_18 : decode cGR_beginsInRow 18 = .ok (.invokevirtual 67, 3) := by decide +kernel
theorem dGR_beginsInRow_21 : decode cGR_beginsInRow 21 = .ok (.checkcast 49, 3) := by decide +kernel
theorem dGR_beginsInRow_24 : decode cGR_beginsInRow 24 = .ok (.getfield 71, 3) := by decide +kernel
theorem dGR_beginsInRow_27 : decode cGR_beginsInRow 27 = .ok (.iload_n 1, 1) := by decide +kernel
theorem dGR_beginsInRow_28 : decode cGR_beginsInRow 28 = .ok (.if_icmp .ne 5, 3) := by decide +kernel
theorem dGR_beginsInRow_31 : decode cGR_beginsInRow 31 = .ok (.iconst 1, 1) := by decide +kernel
theorem dGR_beginsInRow_32 : decode cGR_beginsInRow 32 = .ok (.ireturn, 1) := by decide +kernel
theorem dGR_beginsInRow_33 : decode cGR_beginsInRow 33 = .ok (.iinc 2 1, 3) := by decide +kernel
theorem dGR_beginsInRow_36 : decode cGR_beginsInRow 36 = .ok (.goto (-34), 3) := by decide +kernel
theorem dGR_beginsInRow_39 : decode cGR_beginsInRow 39 = .ok (.iconst 0, 1) := by decide +kernel
theorem dGR_beginsInRow_40 : decode cGR_beginsInRow 40 = .ok (.ireturn, 1) := by decide +kernel
theorem dGR_cellAt_0 : decode cGR_cellAt 0 = .ok (.aload_n 0, 1) := by decide +kernel
theorem dGR_cellAt_1 : decode cGR_cellAt 1 = .ok (.getfield 12, 3) := by decide +kernel
theorem dGR_cellAt_4 : decode cGR_cellAt 4 = .ok (.iload_n 1, 1) := by decide +kernel
theorem dGR_cellAt_5 : decode cGR_cellAt 5 = .ok (.invokevirtual 67, 3) := by decide +kernel
theorem dGR_cellAt_8 : decode cGR_cellAt 8 = .ok (.checkcast 49, 3) := by decide +kernel
theorem dGR_cellAt_11 : decode cGR_cellAt 11 = .ok (.areturn, 1) := by decide +kernel
theorem dGR_cellCount_0 : decode cGR_cellCount 0 = .ok (.aload_n 0, 1) := by decide +kernel
theorem dGR_cellCount_1 : decode cGR_cellCount 1 = .ok (.getfield 12, 3) := by decide +kernel
theorem dGR_cellCount_4 : decode cGR_cellCount 4 = .ok (.invokevirtual 41, 3) := by decide +kernel
theorem dGR_cellCount_7 : decode cGR_cellCount 7 = .ok (.ireturn, 1) := by decide +kernel
theorem dGR_columnCount_0 : decode cGR_columnCount 0 = .ok (.aload_n 0, 1) := by decide +kernel
theorem dGR_columnCount_1 : decode cGR_columnCount 1 = .ok (.getfield 31, 3) := by decide +kernel
theorem dGR_columnCount_4 : decode cGR_columnCount 4 = .ok (.ireturn, 1) := by decide +kernel
theorem dGR_countEmptyColumns_0 : decode cGR_countEmptyColumns 0 = .ok (.iconst 0, 1) := by decide +kernel
theorem dGR_countEmptyColumns_1 : decode cGR_countEmptyColumns 1 = .ok (.istore_n 1, 1) := by decide +kernel
theorem dGR_countEmptyColumns_2 : decode cGR_countEmptyColumns 2 = .ok (.iconst 0, 1) := by decide +kernel
theorem dGR_countEmptyColumns_3 : decode cGR_countEmptyColumns 3 = .ok (.istore_n 2, 1) := by decide +kernel
theorem dGR_countEmptyColumns_4 : decode cGR_countEmptyColumns 4 = .ok (.iload_n 2, 1) := by decide +kernel
theorem dGR_countEmptyColumns_5 : decode cGR_countEmptyColumns 5 = .ok (.aload_n 0, 1) := by decide +kernel
theorem dGR_countEmptyColumns_6 : decode cGR_countEmptyColumns 6 = .ok (.getfield 31, 3) := by decide +kernel
theorem dGR_countEmptyColumns_9 : decode cGR_countEmptyColumns 9 = .ok (.if_icmp .ge 25, 3) := by decide +kernel
theorem dGR_countEmptyColumns_12 : decode cGR_countEmptyColumns 12 = .ok (.iload_n 1, 1) := by decide +kernel
theorem dGR_countEmptyColumns_13 : decode cGR_countEmptyColumns 13 = .ok (.aload_n 0, 1) := by decide +kernel
theorem dGR_countEmptyColumns_14 : decode cGR_countEmptyColumns 14 = .ok (.iload_n 2, 1) := by decide +kernel
theorem dGR_countEmptyColumns_15 : decode cGR_countEmptyColumns 15 = .ok (.invokevirtual 94, 3) := by decide +kernel
theorem dGR_countEmptyColumns_18 : decode cGR_countEmptyColumns 18 = .ok (.ifCond .eq 7, 3) := by decide +kernel
