theorem dXA_init_0 : decode cXA_init 0 = .ok (.aload_n 0, 1) := by decide +kernel
theorem dXA_init_1 : decode cXA_init 1 = .ok (.invokespecial 1, 3) := by decide +kernel
theorem dXA_init_4 : decode cXA_init 4 = .ok (.aload_n 0, 1) := by decide +kernel
theorem dXA_init_5 : decode cXA_init 5 = .ok (.getstatic 39, 3) := by decide +kernel
theorem dXA_init_8 : decode cXA_init 8 = .ok (.putfield 9, 3) := by decide +kernel
theorem dXA_init_11 : decode cXA_init 11 = .ok (.return_, 1) := by decide +kernel
theorem dXB_init_0 : decode cXB_init 0 = .ok (.aload_n 0, 1) := by decide +kernel
theorem dXB_init_1 : decode cXB_init 1 = .ok (.invokespecial 1, 3) := by decide +kernel
theorem dXB_init_4 : decode cXB_init 4 = .ok (.aload_n 0, 1) := by decide +kernel
theorem dXB_init_5 : decode cXB_init 5 = .ok (.iconst 0, 1) := by decide +kernel
theorem dXB_init_6 : decode cXB_init 6 = .ok (.putfield 7, 3) := by decide +kernel
theorem dXB_init_9 : decode cXB_init 9 = .ok (.return_, 1) := by decide +kernel
theorem dXC_init_0 : decode cXC_init 0 = .ok (.aload_n 0, 1) := by decide +kernel
theorem dXC_init_1 : decode cXC_init 1 = .ok (.invokespecial 1, 3) := by decide +kernel
theorem dXC_init_4 : decode cXC_init 4 = .ok (.return_, 1) := by decide +kernel
theorem dXA_size_0 : decode cXA_size 0 = .ok (.aload_n 0, 1) := by decide +kernel
theorem dXA_size_1 : decode cXA_size 1 = .ok (.getfield 48, 3) := by decide +kernel
theorem dXA_size_4 : decode cXA_size 4 = .ok (.ireturn, 1) := by decide +kernel
theorem dXA_get_0 : decode cXA_get 0 = .ok (.iload_n 1, 1) := by decide +kernel
theorem dXA_get_1 : decode cXA_get 1 = .ok (.aload_n 0, 1) := by decide +kernel
theorem dXA_get_2 : decode cXA_get 2 = .ok (.getfield 48, 3) := by decide +kernel
theorem dXA_get_5 : decode cXA_get 5 = .ok (.invokestatic 118, 3) := by decide +kernel
theorem dXA_get_8 : decode cXA_get 8 = .ok (.pop, 1) := by decide +kernel
theorem dXA_get_9 : decode cXA_get 9 = .ok (.aload_n 0, 1) := by decide +kernel
theorem dXA_get_10 : decode cXA_get 10 = .ok (.iload_n 1, 1) := by decide +kernel
theorem dXA_get_11 : decode cXA_get 11 = .ok (.invokevirtual 123, 3) := by decide +kernel
theorem dXA_get_14 : decode cXA_get 14 = .ok (.areturn, 1) := by decide +kernel
theorem dXO_checkIndex_0 : decode cXO_checkIndex 0 = .ok (.iload_n 0, 1) := by decide +kernel
theorem dXO_checkIndex_1 : decode cXO_checkIndex 1 = .ok (.iload_n 1, 1) := by decide +kernel
theorem dXO_checkIndex_2 : decode cXO_checkIndex 2 = .ok (.aconst_null, 1) := by decide +kernel
theorem dXO_checkIndex_3 : decode cXO_checkIndex 3 = .ok (.invokestatic 105, 3) := by decide +kernel
theorem dXO_checkIndex_6 : decode cXO_checkIndex 6 = .ok (.ireturn, 1) := by decide +kernel
theorem dXP_checkIndex_0 : decode cXP_checkIndex 0 = .ok (.iload_n 0, 1) := by decide +kernel
theorem dXP_checkIndex_1 : decode cXP_checkIndex 1 = .ok (.ifCond .lt 8, 3) := by decide +kernel
theorem dXP_checkIndex_4 : decode cXP_checkIndex 4 = .ok (.iload_n 0, 1) := by decide +kernel
theorem dXP_checkIndex_5 : decode cXP_checkIndex 5 = .ok (.iload_n 1, 1) := by decide +kernel
theorem dXP_checkIndex_6 : decode cXP_checkIndex 6 = .ok (.if_icmp .lt 10, 3) := by decide +kernel
theorem dXP_checkIndex_9 : decode cXP_checkIndex 9 = .ok (.aload_n 2, 1) := by decide +kernel
theorem dXP_checkIndex_10 : decode cXP_checkIndex 10 = .ok (.iload_n 0, 1) := by decide +kernel
theorem dXP_checkIndex_11 : decode cXP_checkIndex 11 = .ok (.iload_n 1, 1) := by decide +kernel
theorem dXP_checkIndex_12 : decode cXP_checkIndex 12 = .ok (.invokestatic 95, 3) := by decide +kernel
theorem dXP_checkIndex_15 : decode cXP_checkIndex 15 = .ok (.athrow, 1) := by decide +kernel
theorem dXP_checkIndex_16 : decode cXP_checkIndex 16 = .ok (.iload_n 0, 1) := by decide +kernel
theorem dXP_checkIndex_17 : decode cXP_checkIndex 17 = .ok (.ireturn, 1) := by decide +kernel
theorem dXA_elementData_0 : decode cXA_elementData 0 = .ok (.aload_n 0, 1) := by decide +kernel
theorem dXA_elementData_1 : decode cXA_elementData 1 = .ok (.getfield 9, 3) := by decide +kernel
theorem dXA_elementData_4 : decode cXA_elementData 4 = .ok (.iload_n 1, 1) := by decide +kernel
theorem dXA_elementData_5 : decode cXA_elementData 5 = .ok (.aaload, 1) := by decide +kernel
theorem dXA_elementData_6 : decode cXA_elementData 6 = .ok (.areturn, 1) := by decide +kernel
theorem dXA_add_0 : decode cXA_add 0 = .ok (.aload_n 0, 1) := by decide +kernel
theorem dXA_add_1 : decode cXA_add 1 = .ok (.dup, 1) := by decide +kernel
theorem dXA_add_2 : decode cXA_add 2 = .ok (.getfield 63, 3) := by decide +kernel
theorem dXA_add_5 : decode cXA_add 5 = .ok (.iconst 1, 1) := by decide +kernel
theorem dXA_add_6 : decode cXA_add 6 = .ok (.iadd, 1) := by decide +kernel
theorem dXA_add_7 : decode cXA_add 7 = .ok (.putfield 63, 3) := by decide +kernel
theorem dXA_add_10 : decode cXA_add 10 = .ok (.aload_n 0, 1) := by decide +kernel
theorem dXA_add_11 : decode cXA_add 11 = .ok (.aload_n 1, 1) := by decide +kernel
theorem dXA_add_12 : decode cXA_add 12 = .ok (.aload_n 0, 1) := by decide +kernel
theorem dXA_add_13 : decode cXA_add 13 = .ok (.getfield 9, 3) := by decide +kernel
theorem dXA_add_16 : decode cXA_add 16 = .ok (.aload_n 0, 1) := by decide +kernel
theorem dXA_add_17 : decode cXA_add 17 = .ok (.getfield 48, 3) := by decide +kernel
theorem dXA_add_20 : decode cXA_add 20 = .ok (.invokevirtual 131, 3) := by decide +kernel
theorem dXA_add_23 : decode cXA_add 23 = .ok (.iconst 1, 1) := by decide +kernel
theorem dXA_add_24 : decode cXA_add 24 = .ok (.ireturn, 1) := by decide +kernel
theorem dXA_add_2_0 : decode cXA_add_2 0 = .ok (.iload_n 3, 1) := by decide +kernel
theorem dXA_add_2_1 : decode cXA_add_2 1 = .ok (.aload_n 2, 1) := by decide +kernel
theorem dXA_add_2_2 : decode cXA_add_2 2 = .ok (.arraylength, 1) := by decide +kernel
theorem dXA_add_2_3 : decode cXA_add_2 3 = .ok (.if_icmp .ne 8, 3) := by decide +kernel
theorem dXA_add_2_6 : decode cXA_add_2 6 = .ok (.aload_n 0, 1) := by decide +kernel
theorem dXA_add_2_7 : decode cXA_add_2 7 = .ok (.invokevirtual 129, 3) := by decide +kernel
theorem dXA_add_2_10 : decode cXA_add_2 10 = .ok (.astore_n 2, 1) := by decide +kernel
theorem dXA_add_2_11 : decode cXA_add_2 11 = .ok (.aload_n 2, 1) := by decide +kernel
theorem dXA_add_2_12 : decode cXA_add_2 12 = .ok (.iload_n 3, 1) := by decide +kernel
theorem dXA_add_2_13 : decode cXA_add_2 13 = .ok (.aload_n 1, 1) := by decide +kernel
theorem dXA_add_2_14 : decode cXA_add_2 14 = .ok (.aastore, 1) := by decide +kernel
theorem dXA_add_2_15 : decode cXA_add_2 15 = .ok (.aload_n 0, 1) := by decide +kernel
theorem dXA_add_2_16 : decode cXA_add_2 16 = .ok (.iload_n 3, 1) := by decide +kernel
theorem dXA_add_2_17 : decode cXA_add_2 17 = .ok (.iconst 1, 1) := by decide +kernel
theorem dXA_add_2_18 : decode cXA_add_2 18 = .ok (.iadd, 1) := by decide +kernel
theorem dXA_add_2_19 : decode cXA_add_2 19 = .ok (.putfield 48, 3) := by decide +kernel
theorem dXA_add_2_22 : decode cXA_add_2 22 = .ok (.return_, 1) := by decide +kernel
theorem dXA_grow_0 : decode cXA_grow 0 = .ok (.aload_n 0, 1) := by decide +kernel
theorem dXA_grow_1 : decode cXA_grow 1 = .ok (.aload_n 0, 1) := by decide +kernel
theorem dXA_grow_2 : decode cXA_grow 2 = .ok (.getfield 48, 3) := by decide +kernel
theorem dXA_grow_5 : decode cXA_grow 5 = .ok (.iconst 1, 1) := by decide +kernel
theorem dXA_grow_6 : decode cXA_grow 6 = .ok (.iadd, 1) := by decide +kernel
theorem dXA_grow_7 : decode cXA_grow 7 = .ok (.invokevirtual 69, 3) := by decide +kernel
theorem dXA_grow_10 : decode cXA_grow 10 = .ok (.areturn, 1) := by decide +kernel
theorem dXA_grow_2_0 : decode cXA_grow_2 0 = .ok (.aload_n 0, 1) := by decide +kernel
theorem dXA_grow_2_1 : decode cXA_grow_2 1 = .ok (.getfield 9, 3) := by decide +kernel
theorem dXA_grow_2_4 : decode cXA_grow_2 4 = .ok (.arraylength, 1) := by decide +kernel
theorem dXA_grow_2_5 : decode cXA_grow_2 5 = .ok (.istore_n 2, 1) := by decide +kernel
theorem dXA_grow_2_6 : decode cXA_grow_2 6 = .ok (.iload_n 2, 1) := by decide +kernel
theorem dXA_grow_2_7 : decode cXA_grow_2 7 = .ok (.ifCond .gt 13, 3) := by decide +kernel
theorem dXA_grow_2_10 : decode cXA_grow_2 10 = .ok (.aload_n 0, 1) := by decide +kernel
theorem dXA_grow_2_11 : decode cXA_grow_2 11 = .ok (.getfield 9, 3) := by decide +kernel
theorem dXA_grow_2_14 : decode cXA_grow_2 14 = .ok (.getstatic 39, 3) := by decide +kernel
theorem dXA_grow_2_17 : decode cXA_grow_2 17 = .ok (.if_acmp .eq 28, 3) := by decide +kernel
theorem dXA_grow_2_20 : decode cXA_grow_2 20 = .ok (.iload_n 2, 1) := by decide +kernel
theorem dXA_grow_2_21 : decode cXA_grow_2 21 = .ok (.iload_n 1, 1) := by decide +kernel
theorem dXA_grow_2_22 : decode cXA_grow_2 22 = .ok (.iload_n 2, 1) := by decide +kernel
theorem dXA_grow_2_23 : decode cXA_grow_2 23 = .ok (.isub, 1) := by decide +kernel
theorem dXA_grow_2_24 : decode cXA_grow_2 24 = .ok (.iload_n 2, 1) := by decide +kernel
theorem dXA_grow_2_25 : decode cXA_grow_2 25 = .ok (.iconst 1, 1) := by decide +kernel
theorem dXA_grow_2_26 : decode cXA_grow_2 26 = .ok (.ishr, 1) := by decide +kernel
theorem dXA_grow_2_27 : decode cXA_grow_2 27 = .ok (.invokestatic 73, 3) := by decide +kernel
theorem dXA_grow_2_30 : decode cXA_grow_2 30 = .ok (.istore_n 3, 1) := by decide +kernel
theorem dXA_grow_2_31 : decode cXA_grow_2 31 = .ok (.aload_n 0, 1) := by decide +kernel
theorem dXA_grow_2_32 : decode cXA_grow_2 32 = .ok (.aload_n 0, 1) := by decide +kernel
theorem dXA_grow_2_33 : decode cXA_grow_2 33 = .ok (.getfield 9, 3) := by decide +kernel
theorem dXA_grow_2_36 : decode cXA_grow_2 36 = .ok (.iload_n 3, 1) := by decide +kernel
theorem dXA_grow_2_37 : decode cXA_grow_2 37 = .ok (.invokestatic 66, 3) := by decide +kernel
theorem dXA_grow_2_40 : decode cXA_grow_2 40 = .ok (.dup_x1, 1) := by decide +kernel
theorem dXA_grow_2_41 : decode cXA_grow_2 41 = .ok (.putfield 9, 3) := by decide +kernel
theorem dXA_grow_2_44 : decode cXA_grow_2 44 = .ok (.areturn, 1) := by decide +kernel
theorem dXA_grow_2_45 : decode cXA_grow_2 45 = .ok (.aload_n 0, 1) := by decide +kernel
theorem dXA_grow_2_46 : decode cXA_grow_2 46 = .ok (.bipush 10, 2) := by decide +kernel
theorem dXA_grow_2_48 : decode cXA_grow_2 48 = .ok (.iload_n 1, 1) := by decide +kernel
theorem dXA_grow_2_49 : decode cXA_grow_2 49 = .ok (.invokestatic 79, 3) := by decide +kernel
theorem dXA_grow_2_52 : decode cXA_grow_2 52 = .ok (.anewarray 7, 3) := by decide +kernel
theorem dXA_grow_2_55 : decode cXA_grow_2 55 = .ok (.dup_x1, 1) := by decide +kernel
theorem dXA_grow_2_56 : decode cXA_grow_2 56 = .ok (.putfield 9, 3) := by decide +kernel
theorem dXA_grow_2_59 : decode cXA_grow_2 59 = .ok (.areturn, 1) := by decide +kernel
theorem dXS_newLength_0 : decode cXS_newLength 0 = .ok (.iload_n 0, 1) := by decide +kernel
theorem dXS_newLength_1 : decode cXS_newLength 1 = .ok (.iload_n 1, 1) := by decide +kernel
theorem dXS_newLength_2 : decode cXS_newLength 2 = .ok (.iload_n 2, 1) := by decide +kernel
theorem dXS_newLength_3 : decode cXS_newLength 3 = .ok (.invokestatic 194, 3) := by decide +kernel
theorem dXS_newLength_6 : decode cXS_newLength 6 = .ok (.iadd, 1) := by decide +kernel
theorem dXS_newLength_7 : decode cXS_newLength 7 = .ok (.istore_n 3, 1) := by decide +kernel
theorem dXS_newLength_8 : decode cXS_newLength 8 = .ok (.iconst 0, 1) := by decide +kernel
theorem dXS_newLength_9 : decode cXS_newLength 9 = .ok (.iload_n 3, 1) := by decide +kernel
theorem dXS_newLength_10 : decode cXS_newLength 10 = .ok (.if_icmp .ge 11, 3) := by decide +kernel
theorem dXS_newLength_13 : decode cXS_newLength 13 = .ok (.iload_n 3, 1) := by decide +kernel
theorem dXS_newLength_14 : decode cXS_newLength 14 = .ok (.ldc 200, 2) := by decide +kernel
theorem dXS_newLength_16 : decode cXS_newLength 16 = .ok (.if_icmp .gt 5, 3) := by decide +kernel
theorem dXS_newLength_19 : decode cXS_newLength 19 = .ok (.iload_n 3, 1) := by decide +kernel
theorem dXS_newLength_20 : decode cXS_newLength 20 = .ok (.ireturn, 1) := by decide +kernel
theorem dXS_newLength_21 : decode cXS_newLength 21 = .ok (.iload_n 0, 1) := by decide +kernel
theorem dXS_newLength_22 : decode cXS_newLength 22 = .ok (.iload_n 1, 1) := by decide +kernel
theorem dXS_newLength_23 : decode cXS_newLength 23 = .ok (.invokestatic 201, 3) := by decide +kernel
theorem dXS_newLength_26 : decode cXS_newLength 26 = .ok (.ireturn, 1) := by decide +kernel
theorem dXS_hugeLength_0 : decode cXS_hugeLength 0 = .ok (.iload_n 0, 1) := by decide +kernel
theorem dXS_hugeLength_1 : decode cXS_hugeLength 1 = .ok (.iload_n 1, 1) := by decide +kernel
theorem dXS_hugeLength_2 : decode cXS_hugeLength 2 = .ok (.iadd, 1) := by decide +kernel
theorem dXS_hugeLength_3 : decode cXS_hugeLength 3 = .ok (.istore_n 2, 1) := by decide +kernel
theorem dXS_hugeLength_4 : decode cXS_hugeLength 4 = .ok (.iload_n 2, 1) := by decide +kernel
theorem dXS_hugeLength_5 : decode cXS_hugeLength 5 = .ok (.ifCond .ge 44, 3) := by decide +kernel
theorem dXS_hugeLength_8 : decode cXS_hugeLength 8 = .ok (.new 204, 3) := by decide +kernel
theorem dXS_hugeLength_11 : decode cXS_hugeLength 11 = .ok (.dup, 1) := by decide +kernel
theorem dXS_hugeLength_12 : decode cXS_hugeLength 12 = .ok (.new 89, 3) := by decide +kernel
theorem dXS_hugeLength_15 : decode cXS_hugeLength 15 = .ok (.dup, 1) := by decide +kernel
theorem dXS_hugeLength_16 : decode cXS_hugeLength 16 = .ok (.invokespecial 91, 3) := by decide +kernel
theorem dXS_hugeLength_19 : decode cXS_hugeLength 19 = .ok (.ldc 206, 2) := by decide +kernel
theorem dXS_hugeLength_21 : decode cXS_hugeLength 21 = .ok (.invokevirtual 94, 3) := by decide +kernel
theorem dXS_hugeLength_24 : decode cXS_hugeLength 24 = .ok (.iload_n 0, 1) := by decide +kernel
theorem dXS_hugeLength_25 : decode cXS_hugeLength 25 = .ok (.invokevirtual 98, 3) := by decide +kernel
theorem dXS_hugeLength_28 : decode cXS_hugeLength 28 = .ok (.ldc 208, 2) := by decide +kernel
theorem dXS_hugeLength_30 : decode cXS_hugeLength 30 = .ok (.invokevirtual 94, 3) := by decide +kernel
theorem dXS_hugeLength_33 : decode cXS_hugeLength 33 = .ok (.iload_n 1, 1) := by decide +kernel
theorem dXS_hugeLength_34 : decode cXS_hugeLength 34 = .ok (.invokevirtual 98, 3) := by decide +kernel
theorem dXS_hugeLength_37 : decode cXS_hugeLength 37 = .ok (.ldc 210, 2) := by decide +kernel
theorem dXS_hugeLength_39 : decode cXS_hugeLength 39 = .ok (.invokevirtual 94, 3) := by decide +kernel
theorem dXS_hugeLength_42 : decode cXS_hugeLength 42 = .ok (.invokevirtual 101, 3) := by decide +kernel
theorem dXS_hugeLength_45 : decode cXS_hugeLength 45 = .ok (.invokespecial 212, 3) := by decide +kernel
theorem dXS_hugeLength_48 : decode cXS_hugeLength 48 = .ok (.athrow, 1) := by decide +kernel
theorem dXS_hugeLength_49 : decode cXS_hugeLength 49 = .ok (.iload_n 2, 1) := by decide +kernel
theorem dXS_hugeLength_50 : decode cXS_hugeLength 50 = .ok (.ldc 200, 2) := by decide +kernel
theorem dXS_hugeLength_52 : decode cXS_hugeLength 52 = .ok (.if_icmp .gt 6, 3) := by decide +kernel
theorem dXS_hugeLength_55 : decode cXS_hugeLength 55 = .ok (.ldc 200, 2) := by decide +kernel
theorem dXS_hugeLength_57 : decode cXS_hugeLength 57 = .ok (.ireturn, 1) := by decide +kernel
theorem dXS_hugeLength_58 : decode cXS_hugeLength 58 = .ok (.iload_n 2, 1) := by decide +kernel
theorem dXS_hugeLength_59 : decode cXS_hugeLength 59 = .ok (.ireturn, 1) := by decide +kernel
theorem dXR_copyOf_0 : decode cXR_copyOf 0 = .ok (.aload_n 0, 1) := by decide +kernel
theorem dXR_copyOf_1 : decode cXR_copyOf 1 = .ok (.iload_n 1, 1) := by decide +kernel
theorem dXR_copyOf_2 : decode cXR_copyOf 2 = .ok (.aload_n 0, 1) := by decide +kernel
theorem dXR_copyOf_3 : decode cXR_copyOf 3 = .ok (.invokevirtual 86, 3) := by decide +kernel
theorem dXR_copyOf_6 : decode cXR_copyOf 6 = .ok (.invokestatic 300, 3) := by decide +kernel
theorem dXR_copyOf_9 : decode cXR_copyOf 9 = .ok (.areturn, 1) := by decide +kernel
theorem dXR_copyOf_2_0 : decode cXR_copyOf_2 0 = .ok (.aload_n 2, 1) := by decide +kernel
theorem dXR_copyOf_2_1 : decode cXR_copyOf_2 1 = .ok (.ldc 110, 2) := by decide +kernel
theorem dXR_copyOf_2_3 : decode cXR_copyOf_2 3 = .ok (.if_acmp .ne 10, 3) := by decide +kernel
theorem dXR_copyOf_2_6 : decode cXR_copyOf_2 6 = .ok (.iload_n 1, 1) := by decide +kernel
theorem dXR_copyOf_2_7 : decode cXR_copyOf_2 7 = .ok (.anewarray 2, 3) := by decide +kernel
theorem dXR_copyOf_2_10 : decode cXR_copyOf_2 10 = .ok (.goto 14, 3) := by decide +kernel
theorem dXR_copyOf_2_13 : decode cXR_copyOf_2 13 = .ok (.aload_n 2, 1) := by decide +kernel
theorem dXR_copyOf_2_14 : decode cXR_copyOf_2 14 = .ok (.invokevirtual 90, 3) := by decide +kernel
theorem dXR_copyOf_2_17 : decode cXR_copyOf_2 17 = .ok (.iload_n 1, 1) := by decide +kernel
theorem dXR_copyOf_2_18 : decode cXR_copyOf_2 18 = .ok (.invokestatic 95, 3) := by decide +kernel
theorem dXR_copyOf_2_21 : decode cXR_copyOf_2 21 = .ok (.checkcast 110, 3) := by decide +kernel
theorem dXR_copyOf_2_24 : decode cXR_copyOf_2 24 = .ok (.astore_n 3, 1) := by decide +kernel
theorem dXR_copyOf_2_25 : decode cXR_copyOf_2 25 = .ok (.aload_n 0, 1) := by decide +kernel
theorem dXR_copyOf_2_26 : decode cXR_copyOf_2 26 = .ok (.iconst 0, 1) := by decide +kernel
theorem dXR_copyOf_2_27 : decode cXR_copyOf_2 27 = .ok (.aload_n 3, 1) := by decide +kernel
theorem dXR_copyOf_2_28 : decode cXR_copyOf_2 28 = .ok (.iconst 0, 1) := by decide +kernel
theorem dXR_copyOf_2_29 : decode cXR_copyOf_2 29 = .ok (.aload_n 0, 1) := by decide +kernel
theorem dXR_copyOf_2_30 : decode cXR_copyOf_2 30 = .ok (.arraylength, 1) := by decide +kernel
theorem dXR_copyOf_2_31 : decode cXR_copyOf_2 31 = .ok (.iload_n 1, 1) := by decide +kernel
theorem dXR_copyOf_2_32 : decode cXR_copyOf_2 32 = .ok (.invokestatic 304, 3) := by decide +kernel
theorem dXR_copyOf_2_35 : decode cXR_copyOf_2 35 = .ok (.invokestatic 150, 3) := by decide +kernel
theorem dXR_copyOf_2_38 : decode cXR_copyOf_2 38 = .ok (.aload_n 3, 1) := by decide +kernel
theorem dXR_copyOf_2_39 : decode cXR_copyOf_2 39 = .ok (.areturn, 1) := by decide +kernel
