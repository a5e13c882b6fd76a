theorem dXM_init_0 : decode cXM_init 0 = .ok (.aload_n 0, 1) := by decide +kernel
theorem dXM_init_1 : decode cXM_init 1 = .ok (.invokespecial 1, 3) := by decide +kernel
theorem dXM_init_4 : decode cXM_init 4 = .ok (.aload_n 0, 1) := by decide +kernel
theorem dXM_init_5 : decode cXM_init 5 = .ok (.ldc 9, 2) := by decide +kernel
theorem dXM_init_7 : decode cXM_init 7 = .ok (.newarray .int, 2) := by decide +kernel
theorem dXM_init_9 : decode cXM_init 9 = .ok (.putfield 10, 3) := by decide +kernel
theorem dXM_init_12 : decode cXM_init 12 = .ok (.aload_n 0, 1) := by decide +kernel
theorem dXM_init_13 : decode cXM_init 13 = .ok (.ldc 9, 2) := by decide +kernel
theorem dXM_init_15 : decode cXM_init 15 = .ok (.newarray .boolean, 2) := by decide +kernel
theorem dXM_init_17 : decode cXM_init 17 = .ok (.putfield 14, 3) := by decide +kernel
theorem dXM_init_20 : decode cXM_init 20 = .ok (.aload_n 0, 1) := by decide +kernel
theorem dXM_init_21 : decode cXM_init 21 = .ok (.iconst 1, 1) := by decide +kernel
theorem dXM_init_22 : decode cXM_init 22 = .ok (.putfield 18, 3) := by decide +kernel
theorem dXM_init_25 : decode cXM_init 25 = .ok (.return_, 1) := by decide +kernel
theorem dXM_thrown_0 : decode cXM_thrown 0 = .ok (.aload_n 0, 1) := by decide +kernel
theorem dXM_thrown_1 : decode cXM_thrown 1 = .ok (.getfield 22, 3) := by decide +kernel
theorem dXM_thrown_4 : decode cXM_thrown 4 = .ok (.ireturn, 1) := by decide +kernel
theorem dXM_put_0 : decode cXM_put 0 = .ok (.aload_n 0, 1) := by decide +kernel
theorem dXM_put_1 : decode cXM_put 1 = .ok (.aload_n 0, 1) := by decide +kernel
theorem dXM_put_2 : decode cXM_put 2 = .ok (.iload_n 1, 1) := by decide +kernel
theorem dXM_put_3 : decode cXM_put 3 = .ok (.invokevirtual 25, 3) := by decide +kernel
theorem dXM_put_6 : decode cXM_put 6 = .ok (.ifCond .eq 10, 3) := by decide +kernel
theorem dXM_put_9 : decode cXM_put 9 = .ok (.iload_n 2, 1) := by decide +kernel
theorem dXM_put_10 : decode cXM_put 10 = .ok (.invokestatic 29, 3) := by decide +kernel
theorem dXM_put_13 : decode cXM_put 13 = .ok (.ifCond .ne 7, 3) := by decide +kernel
theorem dXM_put_16 : decode cXM_put 16 = .ok (.iconst 1, 1) := by decide +kernel
theorem dXM_put_17 : decode cXM_put 17 = .ok (.goto 18, 3) := by decide +kernel
theorem dXM_put_20 : decode cXM_put 20 = .ok (.aload_n 0, 1) := by decide +kernel
theorem dXM_put_21 : decode cXM_put 21 = .ok (.getfield 18, 3) := by decide +kernel
theorem dXM_put_24 : decode cXM_put 24 = .ok (.sipush 600, 3) := by decide +kernel
theorem dXM_put_27 : decode cXM_put 27 = .ok (.if_icmp .ne 7, 3) := by decide +kernel
theorem dXM_put_30 : decode cXM_put 30 = .ok (.iconst 2, 1) := by decide +kernel
theorem dXM_put_31 : decode cXM_put 31 = .ok (.goto 4, 3) := by decide +kernel
theorem dXM_put_34 : decode cXM_put 34 = .ok (.iconst 0, 1) := by decide +kernel
theorem dXM_put_35 : decode cXM_put 35 = .ok (.putfield 22, 3) := by decide +kernel
theorem dXM_put_38 : decode cXM_put 38 = .ok (.aload_n 0, 1) := by decide +kernel
theorem dXM_put_39 : decode cXM_put 39 = .ok (.getfield 22, 3) := by decide +kernel
theorem dXM_put_42 : decode cXM_put 42 = .ok (.ifCond .le 5, 3) := by decide +kernel
theorem dXM_put_45 : decode cXM_put 45 = .ok (.iconst 0, 1) := by decide +kernel
theorem dXM_put_46 : decode cXM_put 46 = .ok (.ireturn, 1) := by decide +kernel
theorem dXM_put_47 : decode cXM_put 47 = .ok (.aload_n 0, 1) := by decide +kernel
theorem dXM_put_48 : decode cXM_put 48 = .ok (.iload_n 1, 1) := by decide +kernel
theorem dXM_put_49 : decode cXM_put 49 = .ok (.iload_n 1, 1) := by decide +kernel
theorem dXM_put_50 : decode cXM_put 50 = .ok (.iconst 0, 1) := by decide +kernel
theorem dXM_put_51 : decode cXM_put 51 = .ok (.invokevirtual 32, 3) := by decide +kernel
theorem dXM_put_54 : decode cXM_put 54 = .ok (.istore 4, 2) := by decide +kernel
theorem dXM_put_56 : decode cXM_put 56 = .ok (.aload_n 0, 1) := by decide +kernel
theorem dXM_put_57 : decode cXM_put 57 = .ok (.getfield 10, 3) := by decide +kernel
theorem dXM_put_60 : decode cXM_put 60 = .ok (.sipush 256, 3) := by decide +kernel
theorem dXM_put_63 : decode cXM_put 63 = .ok (.iload 4, 2) := by decide +kernel
theorem dXM_put_65 : decode cXM_put 65 = .ok (.imul, 1) := by decide +kernel
theorem dXM_put_66 : decode cXM_put 66 = .ok (.iload_n 2, 1) := by decide +kernel
theorem dXM_put_67 : decode cXM_put 67 = .ok (.iadd, 1) := by decide +kernel
theorem dXM_put_68 : decode cXM_put 68 = .ok (.iload_n 3, 1) := by decide +kernel
theorem dXM_put_69 : decode cXM_put 69 = .ok (.iastore, 1) := by decide +kernel
theorem dXM_put_70 : decode cXM_put 70 = .ok (.aload_n 0, 1) := by decide +kernel
theorem dXM_put_71 : decode cXM_put 71 = .ok (.getfield 14, 3) := by decide +kernel
theorem dXM_put_74 : decode cXM_put 74 = .ok (.sipush 256, 3) := by decide +kernel
theorem dXM_put_77 : decode cXM_put 77 = .ok (.iload 4, 2) := by decide +kernel
theorem dXM_put_79 : decode cXM_put 79 = .ok (.imul, 1) := by decide +kernel
theorem dXM_put_80 : decode cXM_put 80 = .ok (.iload_n 2, 1) := by decide +kernel
theorem dXM_put_81 : decode cXM_put 81 = .ok (.iadd, 1) := by decide +kernel
theorem dXM_put_82 : decode cXM_put 82 = .ok (.iconst 1, 1) := by decide +kernel
theorem dXM_put_83 : decode cXM_put 83 = .ok (.bastore, 1) := by decide +kernel
theorem dXM_put_84 : decode cXM_put 84 = .ok (.iload 4, 2) := by decide +kernel
theorem dXM_put_86 : decode cXM_put 86 = .ok (.ireturn, 1) := by decide +kernel
theorem dXM_isOne_0 : decode cXM_isOne 0 = .ok (.iload_n 1, 1) := by decide +kernel
theorem dXM_isOne_1 : decode cXM_isOne 1 = .ok (.ifCond .lt 15, 3) := by decide +kernel
theorem dXM_isOne_4 : decode cXM_isOne 4 = .ok (.iload_n 1, 1) := by decide +kernel
theorem dXM_isOne_5 : decode cXM_isOne 5 = .ok (.aload_n 0, 1) := by decide +kernel
theorem dXM_isOne_6 : decode cXM_isOne 6 = .ok (.getfield 18, 3) := by decide +kernel
theorem dXM_isOne_9 : decode cXM_isOne 9 = .ok (.if_icmp .ge 7, 3) := by decide +kernel
theorem dXM_isOne_12 : decode cXM_isOne 12 = .ok (.iconst 1, 1) := by decide +kernel
theorem dXM_isOne_13 : decode cXM_isOne 13 = .ok (.goto 4, 3) := by decide +kernel
theorem dXM_isOne_16 : decode cXM_isOne 16 = .ok (.iconst 0, 1) := by decide +kernel
theorem dXM_isOne_17 : decode cXM_isOne 17 = .ok (.ireturn, 1) := by decide +kernel
theorem dXM_isKey_0 : decode cXM_isKey 0 = .ok (.iload_n 0, 1) := by decide +kernel
theorem dXM_isKey_1 : decode cXM_isKey 1 = .ok (.ifCond .lt 14, 3) := by decide +kernel
theorem dXM_isKey_4 : decode cXM_isKey 4 = .ok (.iload_n 0, 1) := by decide +kernel
theorem dXM_isKey_5 : decode cXM_isKey 5 = .ok (.sipush 256, 3) := by decide +kernel
theorem dXM_isKey_8 : decode cXM_isKey 8 = .ok (.if_icmp .ge 7, 3) := by decide +kernel
theorem dXM_isKey_11 : decode cXM_isKey 11 = .ok (.iconst 1, 1) := by decide +kernel
theorem dXM_isKey_12 : decode cXM_isKey 12 = .ok (.goto 4, 3) := by decide +kernel
theorem dXM_isKey_15 : decode cXM_isKey 15 = .ok (.iconst 0, 1) := by decide +kernel
theorem dXM_isKey_16 : decode cXM_isKey 16 = .ok (.ireturn, 1) := by decide +kernel
theorem dXM_made_0 : decode cXM_made 0 = .ok (.sipush 256, 3) := by decide +kernel
theorem dXM_made_3 : decode cXM_made 3 = .ok (.aload_n 0, 1) := by decide +kernel
theorem dXM_made_4 : decode cXM_made 4 = .ok (.getfield 18, 3) := by decide +kernel
theorem dXM_made_7 : decode cXM_made 7 = .ok (.imul, 1) := by decide +kernel
theorem dXM_made_8 : decode cXM_made 8 = .ok (.istore 4, 2) := by decide +kernel
theorem dXM_made_10 : decode cXM_made 10 = .ok (.iconst 0, 1) := by decide +kernel
theorem dXM_made_11 : decode cXM_made 11 = .ok (.istore 5, 2) := by decide +kernel
theorem dXM_made_13 : decode cXM_made 13 = .ok (.iload 5, 2) := by decide +kernel
theorem dXM_made_15 : decode cXM_made 15 = .ok (.sipush 256, 3) := by decide +kernel
theorem dXM_made_18 : decode cXM_made 18 = .ok (.if_icmp .ge 63, 3) := by decide +kernel
theorem dXM_made_21 : decode cXM_made 21 = .ok (.sipush 256, 3) := by decide +kernel
theorem dXM_made_24 : decode cXM_made 24 = .ok (.iload 5, 2) := by decide +kernel
theorem dXM_made_26 : decode cXM_made 26 = .ok (.iload_n 3, 1) := by decide +kernel
theorem dXM_made_27 : decode cXM_made 27 = .ok (.if_icmp .ge 7, 3) := by decide +kernel
theorem dXM_made_30 : decode cXM_made 30 = .ok (.iload_n 1, 1) := by decide +kernel
theorem dXM_made_31 : decode cXM_made 31 = .ok (.goto 4, 3) := by decide +kernel
theorem dXM_made_34 : decode cXM_made 34 = .ok (.iload_n 2, 1) := by decide +kernel
theorem dXM_made_35 : decode cXM_made 35 = .ok (.imul, 1) := by decide +kernel
theorem dXM_made_36 : decode cXM_made 36 = .ok (.iload 5, 2) := by decide +kernel
theorem dXM_made_38 : decode cXM_made 38 = .ok (.iadd, 1) := by decide +kernel
theorem dXM_made_39 : decode cXM_made 39 = .ok (.istore 6, 2) := by decide +kernel
theorem dXM_made_41 : decode cXM_made 41 = .ok (.aload_n 0, 1) := by decide +kernel
theorem dXM_made_42 : decode cXM_made 42 = .ok (.getfield 10, 3) := by decide +kernel
theorem dXM_made_45 : decode cXM_made 45 = .ok (.iload 4, 2) := by decide +kernel
theorem dXM_made_47 : decode cXM_made 47 = .ok (.iload 5, 2) := by decide +kernel
theorem dXM_made_49 : decode cXM_made 49 = .ok (.iadd, 1) := by decide +kernel
theorem dXM_made_50 : decode cXM_made 50 = .ok (.aload_n 0, 1) := by decide +kernel
theorem dXM_made_51 : decode cXM_made 51 = .ok (.getfield 10, 3) := by decide +kernel
theorem dXM_made_54 : decode cXM_made 54 = .ok (.iload 6, 2) := by decide +kernel
theorem dXM_made_56 : decode cXM_made 56 = .ok (.iaload, 1) := by decide +kernel
theorem dXM_made_57 : decode cXM_made 57 = .ok (.iastore, 1) := by decide +kernel
theorem dXM_made_58 : decode cXM_made 58 = .ok (.aload_n 0, 1) := by decide +kernel
theorem dXM_made_59 : decode cXM_made 59 = .ok (.getfield 14, 3) := by decide +kernel
theorem dXM_made_62 : decode cXM_made 62 = .ok (.iload 4, 2) := by decide +kernel
theorem dXM_made_64 : decode cXM_made 64 = .ok (.iload 5, 2) := by decide +kernel
theorem dXM_made_66 : decode cXM_made 66 = .ok (.iadd, 1) := by decide +kernel
theorem dXM_made_67 : decode cXM_made 67 = .ok (.aload_n 0, 1) := by decide +kernel
theorem dXM_made_68 : decode cXM_made 68 = .ok (.getfield 14, 3) := by decide +kernel
theorem dXM_made_71 : decode cXM_made 71 = .ok (.iload 6, 2) := by decide +kernel
theorem dXM_made_73 : decode cXM_made 73 = .ok (.baload, 1) := by decide +kernel
theorem dXM_made_74 : decode cXM_made 74 = .ok (.bastore, 1) := by decide +kernel
theorem dXM_made_75 : decode cXM_made 75 = .ok (.iinc 5 1, 3) := by decide +kernel
theorem dXM_made_78 : decode cXM_made 78 = .ok (.goto (-65), 3) := by decide +kernel
theorem dXM_made_81 : decode cXM_made 81 = .ok (.aload_n 0, 1) := by decide +kernel
theorem dXM_made_82 : decode cXM_made 82 = .ok (.dup, 1) := by decide +kernel
theorem dXM_made_83 : decode cXM_made 83 = .ok (.getfield 18, 3) := by decide +kernel
theorem dXM_made_86 : decode cXM_made 86 = .ok (.iconst 1, 1) := by decide +kernel
theorem dXM_made_87 : decode cXM_made 87 = .ok (.iadd, 1) := by decide +kernel
theorem dXM_made_88 : decode cXM_made 88 = .ok (.putfield 18, 3) := by decide +kernel
theorem dXM_made_91 : decode cXM_made 91 = .ok (.aload_n 0, 1) := by decide +kernel
theorem dXM_made_92 : decode cXM_made 92 = .ok (.getfield 18, 3) := by decide +kernel
theorem dXM_made_95 : decode cXM_made 95 = .ok (.iconst 1, 1) := by decide +kernel
theorem dXM_made_96 : decode cXM_made 96 = .ok (.isub, 1) := by decide +kernel
theorem dXM_made_97 : decode cXM_made 97 = .ok (.ireturn, 1) := by decide +kernel
theorem dXM_remove_0 : decode cXM_remove 0 = .ok (.aload_n 0, 1) := by decide +kernel
theorem dXM_remove_1 : decode cXM_remove 1 = .ok (.aload_n 0, 1) := by decide +kernel
theorem dXM_remove_2 : decode cXM_remove 2 = .ok (.iload_n 1, 1) := by decide +kernel
theorem dXM_remove_3 : decode cXM_remove 3 = .ok (.invokevirtual 25, 3) := by decide +kernel
theorem dXM_remove_6 : decode cXM_remove 6 = .ok (.ifCond .eq 10, 3) := by decide +kernel
theorem dXM_remove_9 : decode cXM_remove 9 = .ok (.iload_n 2, 1) := by decide +kernel
theorem dXM_remove_10 : decode cXM_remove 10 = .ok (.invokestatic 29, 3) := by decide +kernel
theorem dXM_remove_13 : decode cXM_remove 13 = .ok (.ifCond .ne 7, 3) := by decide +kernel
theorem dXM_remove_16 : decode cXM_remove 16 = .ok (.iconst 1, 1) := by decide +kernel
theorem dXM_remove_17 : decode cXM_remove 17 = .ok (.goto 37, 3) := by decide +kernel
theorem dXM_remove_20 : decode cXM_remove 20 = .ok (.aload_n 0, 1) := by decide +kernel
theorem dXM_remove_21 : decode cXM_remove 21 = .ok (.getfield 18, 3) := by decide +kernel
theorem dXM_remove_24 : decode cXM_remove 24 = .ok (.sipush 600, 3) := by decide +kernel
theorem dXM_remove_27 : decode cXM_remove 27 = .ok (.if_icmp .ne 7, 3) := by decide +kernel
theorem dXM_remove_30 : decode cXM_remove 30 = .ok (.iconst 2, 1) := by decide +kernel
theorem dXM_remove_31 : decode cXM_remove 31 = .ok (.goto 23, 3) := by decide +kernel
theorem dXM_remove_34 : decode cXM_remove 34 = .ok (.aload_n 0, 1) := by decide +kernel
theorem dXM_remove_35 : decode cXM_remove 35 = .ok (.getfield 14, 3) := by decide +kernel
theorem dXM_remove_38 : decode cXM_remove 38 = .ok (.sipush 256, 3) := by decide +kernel
theorem dXM_remove_41 : decode cXM_remove 41 = .ok (.iload_n 1, 1) := by decide +kernel
theorem dXM_remove_42 : decode cXM_remove 42 = .ok (.imul, 1) := by decide +kernel
theorem dXM_remove_43 : decode cXM_remove 43 = .ok (.iload_n 2, 1) := by decide +kernel
theorem dXM_remove_44 : decode cXM_remove 44 = .ok (.iadd, 1) := by decide +kernel
theorem dXM_remove_45 : decode cXM_remove 45 = .ok (.baload, 1) := by decide +kernel
theorem dXM_remove_46 : decode cXM_remove 46 = .ok (.ifCond .ne 7, 3) := by decide +kernel
theorem dXM_remove_49 : decode cXM_remove 49 = .ok (.iconst 3, 1) := by decide +kernel
theorem dXM_remove_50 : decode cXM_remove 50 = .ok (.goto 4, 3) := by decide +kernel
theorem dXM_remove_53 : decode cXM_remove 53 = .ok (.iconst 0, 1) := by decide +kernel
theorem dXM_remove_54 : decode cXM_remove 54 = .ok (.putfield 22, 3) := by decide +kernel
theorem dXM_remove_57 : decode cXM_remove 57 = .ok (.aload_n 0, 1) := by decide +kernel
theorem dXM_remove_58 : decode cXM_remove 58 = .ok (.getfield 22, 3) := by decide +kernel
theorem dXM_remove_61 : decode cXM_remove 61 = .ok (.ifCond .le 5, 3) := by decide +kernel
theorem dXM_remove_64 : decode cXM_remove 64 = .ok (.iconst 0, 1) := by decide +kernel
theorem dXM_remove_65 : decode cXM_remove 65 = .ok (.ireturn, 1) := by decide +kernel
theorem dXM_remove_66 : decode cXM_remove 66 = .ok (.aload_n 0, 1) := by decide +kernel
theorem dXM_remove_67 : decode cXM_remove 67 = .ok (.iload_n 1, 1) := by decide +kernel
theorem dXM_remove_68 : decode cXM_remove 68 = .ok (.iload_n 1, 1) := by decide +kernel
theorem dXM_remove_69 : decode cXM_remove 69 = .ok (.iconst 0, 1) := by decide +kernel
theorem dXM_remove_70 : decode cXM_remove 70 = .ok (.invokevirtual 32, 3) := by decide +kernel
theorem dXM_remove_73 : decode cXM_remove 73 = .ok (.istore_n 3, 1) := by decide +kernel
theorem dXM_remove_74 : decode cXM_remove 74 = .ok (.aload_n 0, 1) := by decide +kernel
theorem dXM_remove_75 : decode cXM_remove 75 = .ok (.getfield 10, 3) := by decide +kernel
theorem dXM_remove_78 : decode cXM_remove 78 = .ok (.sipush 256, 3) := by decide +kernel
theorem dXM_remove_81 : decode cXM_remove 81 = .ok (.iload_n 3, 1) := by decide +kernel
theorem dXM_remove_82 : decode cXM_remove 82 = .ok (.imul, 1) := by decide +kernel
theorem dXM_remove_83 : decode cXM_remove 83 = .ok (.iload_n 2, 1) := by decide +kernel
theorem dXM_remove_84 : decode cXM_remove 84 = .ok (.iadd, 1) := by decide +kernel
theorem dXM_remove_85 : decode cXM_remove 85 = .ok (.iconst 0, 1) := by decide +kernel
theorem dXM_remove_86 : decode cXM_remove 86 = .ok (.iastore, 1) := by decide +kernel
theorem dXM_remove_87 : decode cXM_remove 87 = .ok (.aload_n 0, 1) := by decide +kernel
theorem dXM_remove_88 : decode cXM_remove 88 = .ok (.getfield 14, 3) := by decide +kernel
theorem dXM_remove_91 : decode cXM_remove 91 = .ok (.sipush 256, 3) := by decide +kernel
theorem dXM_remove_94 : decode cXM_remove 94 = .ok (.iload_n 3, 1) := by decide +kernel
theorem dXM_remove_95 : decode cXM_remove 95 = .ok (.imul, 1) := by decide +kernel
theorem dXM_remove_96 : decode cXM_remove 96 = .ok (.iload_n 2, 1) := by decide +kernel
theorem dXM_remove_97 : decode cXM_remove 97 = .ok (.iadd, 1) := by decide +kernel
theorem dXM_remove_98 : decode cXM_remove 98 = .ok (.iconst 0, 1) := by decide +kernel
theorem dXM_remove_99 : decode cXM_remove 99 = .ok (.bastore, 1) := by decide +kernel
theorem dXM_remove_100 : decode cXM_remove 100 = .ok (.iload_n 3, 1) := by decide +kernel
theorem dXM_remove_101 : decode cXM_remove 101 = .ok (.ireturn, 1) := by decide +kernel
theorem dXM_join_0 : decode cXM_join 0 = .ok (.aload_n 0, 1) := by decide +kernel
theorem dXM_join_1 : decode cXM_join 1 = .ok (.aload_n 0, 1) := by decide +kernel
theorem dXM_join_2 : decode cXM_join 2 = .ok (.iload_n 1, 1) := by decide +kernel
theorem dXM_join_3 : decode cXM_join 3 = .ok (.invokevirtual 25, 3) := by decide +kernel
theorem dXM_join_6 : decode cXM_join 6 = .ok (.ifCond .eq 22, 3) := by decide +kernel
theorem dXM_join_9 : decode cXM_join 9 = .ok (.aload_n 0, 1) := by decide +kernel
theorem dXM_join_10 : decode cXM_join 10 = .ok (.iload_n 2, 1) := by decide +kernel
theorem dXM_join_11 : decode cXM_join 11 = .ok (.invokevirtual 25, 3) := by decide +kernel
theorem dXM_join_14 : decode cXM_join 14 = .ok (.ifCond .eq 14, 3) := by decide +kernel
theorem dXM_join_17 : decode cXM_join 17 = .ok (.iload_n 3, 1) := by decide +kernel
theorem dXM_join_18 : decode cXM_join 18 = .ok (.ifCond .lt 10, 3) := by decide +kernel
theorem dXM_join_21 : decode cXM_join 21 = .ok (.iload_n 3, 1) := by decide +kernel
theorem dXM_join_22 : decode cXM_join 22 = .ok (.sipush 256, 3) := by decide +kernel
theorem dXM_join_25 : decode cXM_join 25 = .ok (.if_icmp .le 7, 3) := by decide +kernel
theorem dXM_join_28 : decode cXM_join 28 = .ok (.iconst 1, 1) := by decide +kernel
theorem dXM_join_29 : decode cXM_join 29 = .ok (.goto 18, 3) := by decide +kernel
theorem dXM_join_32 : decode cXM_join 32 = .ok (.aload_n 0, 1) := by decide +kernel
theorem dXM_join_33 : decode cXM_join 33 = .ok (.getfield 18, 3) := by decide +kernel
theorem dXM_join_36 : decode cXM_join 36 = .ok (.sipush 600, 3) := by decide +kernel
theorem dXM_join_39 : decode cXM_join 39 = .ok (.if_icmp .ne 7, 3) := by decide +kernel
theorem dXM_join_42 : decode cXM_join 42 = .ok (.iconst 2, 1) := by decide +kernel
theorem dXM_join_43 : decode cXM_join 43 = .ok (.goto 4, 3) := by decide +kernel
theorem dXM_join_46 : decode cXM_join 46 = .ok (.iconst 0, 1) := by decide +kernel
theorem dXM_join_47 : decode cXM_join 47 = .ok (.putfield 22, 3) := by decide +kernel
theorem dXM_join_50 : decode cXM_join 50 = .ok (.aload_n 0, 1) := by decide +kernel
theorem dXM_join_51 : decode cXM_join 51 = .ok (.getfield 22, 3) := by decide +kernel
theorem dXM_join_54 : decode cXM_join 54 = .ok (.ifCond .le 7, 3) := by decide +kernel
theorem dXM_join_57 : decode cXM_join 57 = .ok (.iconst 0, 1) := by decide +kernel
theorem dXM_join_58 : decode cXM_join 58 = .ok (.goto 10, 3) := by decide +kernel
theorem dXM_join_61 : decode cXM_join 61 = .ok (.aload_n 0, 1) := by decide +kernel
theorem dXM_join_62 : decode cXM_join 62 = .ok (.iload_n 1, 1) := by decide +kernel
theorem dXM_join_63 : decode cXM_join 63 = .ok (.iload_n 2, 1) := by decide +kernel
theorem dXM_join_64 : decode cXM_join 64 = .ok (.iload_n 3, 1) := by decide +kernel
theorem dXM_join_65 : decode cXM_join 65 = .ok (.invokevirtual 32, 3) := by decide +kernel
theorem dXM_join_68 : decode cXM_join 68 = .ok (.ireturn, 1) := by decide +kernel
theorem dXM_get_0 : decode cXM_get 0 = .ok (.aload_n 0, 1) := by decide +kernel
theorem dXM_get_1 : decode cXM_get 1 = .ok (.aload_n 0, 1) := by decide +kernel
theorem dXM_get_2 : decode cXM_get 2 = .ok (.iload_n 1, 1) := by decide +kernel
theorem dXM_get_3 : decode cXM_get 3 = .ok (.invokevirtual 25, 3) := by decide +kernel
theorem dXM_get_6 : decode cXM_get 6 = .ok (.ifCond .eq 10, 3) := by decide +kernel
theorem dXM_get_9 : decode cXM_get 9 = .ok (.iload_n 2, 1) := by decide +kernel
theorem dXM_get_10 : decode cXM_get 10 = .ok (.invokestatic 29, 3) := by decide +kernel
theorem dXM_get_13 : decode cXM_get 13 = .ok (.ifCond .ne 7, 3) := by decide +kernel
theorem dXM_get_16 : decode cXM_get 16 = .ok (.iconst 1, 1) := by decide +kernel
theorem dXM_get_17 : decode cXM_get 17 = .ok (.goto 23, 3) := by decide +kernel
theorem dXM_get_20 : decode cXM_get 20 = .ok (.aload_n 0, 1) := by decide +kernel
theorem dXM_get_21 : decode cXM_get 21 = .ok (.getfield 14, 3) := by decide +kernel
theorem dXM_get_24 : decode cXM_get 24 = .ok (.sipush 256, 3) := by decide +kernel
theorem dXM_get_27 : decode cXM_get 27 = .ok (.iload_n 1, 1) := by decide +kernel
theorem dXM_get_28 : decode cXM_get 28 = .ok (.imul, 1) := by decide +kernel
theorem dXM_get_29 : decode cXM_get 29 = .ok (.iload_n 2, 1) := by decide +kernel
theorem dXM_get_30 : decode cXM_get 30 = .ok (.iadd, 1) := by decide +kernel
theorem dXM_get_31 : decode cXM_get 31 = .ok (.baload, 1) := by decide +kernel
theorem dXM_get_32 : decode cXM_get 32 = .ok (.ifCond .ne 7, 3) := by decide +kernel
theorem dXM_get_35 : decode cXM_get 35 = .ok (.iconst 2, 1) := by decide +kernel
theorem dXM_get_36 : decode cXM_get 36 = .ok (.goto 4, 3) := by decide +kernel
theorem dXM_get_39 : decode cXM_get 39 = .ok (.iconst 0, 1) := by decide +kernel
theorem dXM_get_40 : decode cXM_get 40 = .ok (.putfield 22, 3) := by decide +kernel
theorem dXM_get_43 : decode cXM_get 43 = .ok (.aload_n 0, 1) := by decide +kernel
theorem dXM_get_44 : decode cXM_get 44 = .ok (.getfield 22, 3) := by decide +kernel
theorem dXM_get_47 : decode cXM_get 47 = .ok (.ifCond .le 7, 3) := by decide +kernel
theorem dXM_get_50 : decode cXM_get 50 = .ok (.iconst 0, 1) := by decide +kernel
theorem dXM_get_51 : decode cXM_get 51 = .ok (.goto 15, 3) := by decide +kernel
theorem dXM_get_54 : decode cXM_get 54 = .ok (.aload_n 0, 1) := by decide +kernel
theorem dXM_get_55 : decode cXM_get 55 = .ok (.getfield 10, 3) := by decide +kernel
theorem dXM_get_58 : decode cXM_get 58 = .ok (.sipush 256, 3) := by decide +kernel
theorem dXM_get_61 : decode cXM_get 61 = .ok (.iload_n 1, 1) := by decide +kernel
theorem dXM_get_62 : decode cXM_get 62 = .ok (.imul, 1) := by decide +kernel
theorem dXM_get_63 : decode cXM_get 63 = .ok (.iload_n 2, 1) := by decide +kernel
theorem dXM_get_64 : decode cXM_get 64 = .ok (.iadd, 1) := by decide +kernel
theorem dXM_get_65 : decode cXM_get 65 = .ok (.iaload, 1) := by decide +kernel
theorem dXM_get_66 : decode cXM_get 66 = .ok (.ireturn, 1) := by decide +kernel
theorem dXM_select_0 : decode cXM_select 0 = .ok (.aload_n 0, 1) := by decide +kernel
theorem dXM_select_1 : decode cXM_select 1 = .ok (.iconst 1, 1) := by decide +kernel
theorem dXM_select_2 : decode cXM_select 2 = .ok (.putfield 22, 3) := by decide +kernel
theorem dXM_select_5 : decode cXM_select 5 = .ok (.aload_n 0, 1) := by decide +kernel
theorem dXM_select_6 : decode cXM_select 6 = .ok (.iload_n 1, 1) := by decide +kernel
theorem dXM_select_7 : decode cXM_select 7 = .ok (.invokevirtual 25, 3) := by decide +kernel
theorem dXM_select_10 : decode cXM_select 10 = .ok (.ifCond .eq 7, 3) := by decide +kernel
theorem dXM_select_13 : decode cXM_select 13 = .ok (.iload_n 2, 1) := by decide +kernel
theorem dXM_select_14 : decode cXM_select 14 = .ok (.ifCond .ge 5, 3) := by decide +kernel
theorem dXM_select_17 : decode cXM_select 17 = .ok (.iconst 0, 1) := by decide +kernel
theorem dXM_select_18 : decode cXM_select 18 = .ok (.ireturn, 1) := by decide +kernel
theorem dXM_select_19 : decode cXM_select 19 = .ok (.iload_n 2, 1) := by decide +kernel
theorem dXM_select_20 : decode cXM_select 20 = .ok (.istore_n 3, 1) := by decide +kernel
theorem dXM_select_21 : decode cXM_select 21 = .ok (.iconst 0, 1) := by decide +kernel
theorem dXM_select_22 : decode cXM_select 22 = .ok (.istore 4, 2) := by decide +kernel
theorem dXM_select_24 : decode cXM_select 24 = .ok (.iload 4, 2) := by decide +kernel
theorem dXM_select_26 : decode cXM_select 26 = .ok (.sipush 256, 3) := by decide +kernel
theorem dXM_select_29 : decode cXM_select 29 = .ok (.if_icmp .ge 43, 3) := by decide +kernel
theorem dXM_select_32 : decode cXM_select 32 = .ok (.aload_n 0, 1) := by decide +kernel
theorem dXM_select_33 : decode cXM_select 33 = .ok (.getfield 14, 3) := by decide +kernel
theorem dXM_select_36 : decode cXM_select 36 = .ok (.sipush 256, 3) := by decide +kernel
theorem dXM_select_39 : decode cXM_select 39 = .ok (.iload_n 1, 1) := by decide +kernel
theorem dXM_select_40 : decode cXM_select 40 = .ok (.imul, 1) := by decide +kernel
theorem dXM_select_41 : decode cXM_select 41 = .ok (.iload 4, 2) := by decide +kernel
theorem dXM_select_43 : decode cXM_select 43 = .ok (.iadd, 1) := by decide +kernel
theorem dXM_select_44 : decode cXM_select 44 = .ok (.baload, 1) := by decide +kernel
theorem dXM_select_45 : decode cXM_select 45 = .ok (.ifCond .ne 6, 3) := by decide +kernel
theorem dXM_select_48 : decode cXM_select 48 = .ok (.goto 18, 3) := by decide +kernel
theorem dXM_select_51 : decode cXM_select 51 = .ok (.iload_n 3, 1) := by decide +kernel
theorem dXM_select_52 : decode cXM_select 52 = .ok (.ifCond .ne 11, 3) := by decide +kernel
theorem dXM_select_55 : decode cXM_select 55 = .ok (.aload_n 0, 1) := by decide +kernel
theorem dXM_select_56 : decode cXM_select 56 = .ok (.iconst 0, 1) := by decide +kernel
theorem dXM_select_57 : decode cXM_select 57 = .ok (.putfield 22, 3) := by decide +kernel
theorem dXM_select_60 : decode cXM_select 60 = .ok (.iload 4, 2) := by decide +kernel
theorem dXM_select_62 : decode cXM_select 62 = .ok (.ireturn, 1) := by decide +kernel
theorem dXM_select_63 : decode cXM_select 63 = .ok (.iinc 3 (-1), 3) := by decide +kernel
theorem dXM_select_66 : decode cXM_select 66 = .ok (.iinc 4 1, 3) := by decide +kernel
theorem dXM_select_69 : decode cXM_select 69 = .ok (.goto (-45), 3) := by decide +kernel
theorem dXM_select_72 : decode cXM_select 72 = .ok (.iconst 0, 1) := by decide +kernel
theorem dXM_select_73 : decode cXM_select 73 = .ok (.ireturn, 1) := by decide +kernel
theorem dXM_many_0 : decode cXM_many 0 = .ok (.aload_n 0, 1) := by decide +kernel
theorem dXM_many_1 : decode cXM_many 1 = .ok (.aload_n 0, 1) := by decide +kernel
theorem dXM_many_2 : decode cXM_many 2 = .ok (.iload_n 1, 1) := by decide +kernel
theorem dXM_many_3 : decode cXM_many 3 = .ok (.invokevirtual 25, 3) := by decide +kernel
theorem dXM_many_6 : decode cXM_many 6 = .ok (.ifCond .eq 7, 3) := by decide +kernel
theorem dXM_many_9 : decode cXM_many 9 = .ok (.iconst 0, 1) := by decide +kernel
theorem dXM_many_10 : decode cXM_many 10 = .ok (.goto 4, 3) := by decide +kernel
theorem dXM_many_13 : decode cXM_many 13 = .ok (.iconst 1, 1) := by decide +kernel
theorem dXM_many_14 : decode cXM_many 14 = .ok (.putfield 22, 3) := by decide +kernel
theorem dXM_many_17 : decode cXM_many 17 = .ok (.iconst 0, 1) := by decide +kernel
theorem dXM_many_18 : decode cXM_many 18 = .ok (.istore 4, 2) := by decide +kernel
theorem dXM_many_20 : decode cXM_many 20 = .ok (.iconst 0, 1) := by decide +kernel
theorem dXM_many_21 : decode cXM_many 21 = .ok (.istore 5, 2) := by decide +kernel
theorem dXM_many_23 : decode cXM_many 23 = .ok (.iload 5, 2) := by decide +kernel
theorem dXM_many_25 : decode cXM_many 25 = .ok (.sipush 256, 3) := by decide +kernel
theorem dXM_many_28 : decode cXM_many 28 = .ok (.if_icmp .ge 47, 3) := by decide +kernel
theorem dXM_many_31 : decode cXM_many 31 = .ok (.aload_n 0, 1) := by decide +kernel
theorem dXM_many_32 : decode cXM_many 32 = .ok (.getfield 22, 3) := by decide +kernel
theorem dXM_many_35 : decode cXM_many 35 = .ok (.ifCond .ne 40, 3) := by decide +kernel
theorem dXM_many_38 : decode cXM_many 38 = .ok (.iload 5, 2) := by decide +kernel
theorem dXM_many_40 : decode cXM_many 40 = .ok (.iload_n 2, 1) := by decide +kernel
theorem dXM_many_41 : decode cXM_many 41 = .ok (.if_icmp .lt 28, 3) := by decide +kernel
theorem dXM_many_44 : decode cXM_many 44 = .ok (.iload 5, 2) := by decide +kernel
theorem dXM_many_46 : decode cXM_many 46 = .ok (.iload_n 3, 1) := by decide +kernel
theorem dXM_many_47 : decode cXM_many 47 = .ok (.if_icmp .ge 22, 3) := by decide +kernel
theorem dXM_many_50 : decode cXM_many 50 = .ok (.aload_n 0, 1) := by decide +kernel
theorem dXM_many_51 : decode cXM_many 51 = .ok (.getfield 14, 3) := by decide +kernel
theorem dXM_many_54 : decode cXM_many 54 = .ok (.sipush 256, 3) := by decide +kernel
theorem dXM_many_57 : decode cXM_many 57 = .ok (.iload_n 1, 1) := by decide +kernel
theorem dXM_many_58 : decode cXM_many 58 = .ok (.imul, 1) := by decide +kernel
theorem dXM_many_59 : decode cXM_many 59 = .ok (.iload 5, 2) := by decide +kernel
theorem dXM_many_61 : decode cXM_many 61 = .ok (.iadd, 1) := by decide +kernel
theorem dXM_many_62 : decode cXM_many 62 = .ok (.baload, 1) := by decide +kernel
theorem dXM_many_63 : decode cXM_many 63 = .ok (.ifCond .eq 6, 3) := by decide +kernel
theorem dXM_many_66 : decode cXM_many 66 = .ok (.iinc 4 1, 3) := by decide +kernel
theorem dXM_many_69 : decode cXM_many 69 = .ok (.iinc 5 1, 3) := by decide +kernel
theorem dXM_many_72 : decode cXM_many 72 = .ok (.goto (-49), 3) := by decide +kernel
theorem dXM_many_75 : decode cXM_many 75 = .ok (.iload 4, 2) := by decide +kernel
theorem dXM_many_77 : decode cXM_many 77 = .ok (.ireturn, 1) := by decide +kernel
theorem dXM_sum_0 : decode cXM_sum 0 = .ok (.aload_n 0, 1) := by decide +kernel
theorem dXM_sum_1 : decode cXM_sum 1 = .ok (.aload_n 0, 1) := by decide +kernel
theorem dXM_sum_2 : decode cXM_sum 2 = .ok (.iload_n 1, 1) := by decide +kernel
theorem dXM_sum_3 : decode cXM_sum 3 = .ok (.invokevirtual 25, 3) := by decide +kernel
theorem dXM_sum_6 : decode cXM_sum 6 = .ok (.ifCond .eq 7, 3) := by decide +kernel
theorem dXM_sum_9 : decode cXM_sum 9 = .ok (.iconst 0, 1) := by decide +kernel
theorem dXM_sum_10 : decode cXM_sum 10 = .ok (.goto 4, 3) := by decide +kernel
theorem dXM_sum_13 : decode cXM_sum 13 = .ok (.iconst 1, 1) := by decide +kernel
theorem dXM_sum_14 : decode cXM_sum 14 = .ok (.putfield 22, 3) := by decide +kernel
theorem dXM_sum_17 : decode cXM_sum 17 = .ok (.lconst 0, 1) := by decide +kernel
theorem dXM_sum_18 : decode cXM_sum 18 = .ok (.lstore 4, 2) := by decide +kernel
theorem dXM_sum_20 : decode cXM_sum 20 = .ok (.iconst 0, 1) := by decide +kernel
theorem dXM_sum_21 : decode cXM_sum 21 = .ok (.istore 6, 2) := by decide +kernel
theorem dXM_sum_23 : decode cXM_sum 23 = .ok (.iload 6, 2) := by decide +kernel
theorem dXM_sum_25 : decode cXM_sum 25 = .ok (.sipush 256, 3) := by decide +kernel
theorem dXM_sum_28 : decode cXM_sum 28 = .ok (.if_icmp .ge 63, 3) := by decide +kernel
theorem dXM_sum_31 : decode cXM_sum 31 = .ok (.aload_n 0, 1) := by decide +kernel
theorem dXM_sum_32 : decode cXM_sum 32 = .ok (.getfield 22, 3) := by decide +kernel
theorem dXM_sum_35 : decode cXM_sum 35 = .ok (.ifCond .ne 56, 3) := by decide +kernel
theorem dXM_sum_38 : decode cXM_sum 38 = .ok (.iload 6, 2) := by decide +kernel
theorem dXM_sum_40 : decode cXM_sum 40 = .ok (.iload_n 2, 1) := by decide +kernel
theorem dXM_sum_41 : decode cXM_sum 41 = .ok (.if_icmp .lt 44, 3) := by decide +kernel
theorem dXM_sum_44 : decode cXM_sum 44 = .ok (.iload 6, 2) := by decide +kernel
theorem dXM_sum_46 : decode cXM_sum 46 = .ok (.iload_n 3, 1) := by decide +kernel
theorem dXM_sum_47 : decode cXM_sum 47 = .ok (.if_icmp .ge 38, 3) := by decide +kernel
theorem dXM_sum_50 : decode cXM_sum 50 = .ok (.aload_n 0, 1) := by decide +kernel
theorem dXM_sum_51 : decode cXM_sum 51 = .ok (.getfield 14, 3) := by decide +kernel
theorem dXM_sum_54 : decode cXM_sum 54 = .ok (.sipush 256, 3) := by decide +kernel
theorem dXM_sum_57 : decode cXM_sum 57 = .ok (.iload_n 1, 1) := by decide +kernel
theorem dXM_sum_58 : decode cXM_sum 58 = .ok (.imul, 1) := by decide +kernel
theorem dXM_sum_59 : decode cXM_sum 59 = .ok (.iload 6, 2) := by decide +kernel
theorem dXM_sum_61 : decode cXM_sum 61 = .ok (.iadd, 1) := by decide +kernel
theorem dXM_sum_62 : decode cXM_sum 62 = .ok (.baload, 1) := by decide +kernel
theorem dXM_sum_63 : decode cXM_sum 63 = .ok (.ifCond .eq 22, 3) := by decide +kernel
theorem dXM_sum_66 : decode cXM_sum 66 = .ok (.lload 4, 2) := by decide +kernel
theorem dXM_sum_68 : decode cXM_sum 68 = .ok (.aload_n 0, 1) := by decide +kernel
theorem dXM_sum_69 : decode cXM_sum 69 = .ok (.getfield 10, 3) := by decide +kernel
theorem dXM_sum_72 : decode cXM_sum 72 = .ok (.sipush 256, 3) := by decide +kernel
theorem dXM_sum_75 : decode cXM_sum 75 = .ok (.iload_n 1, 1) := by decide +kernel
theorem dXM_sum_76 : decode cXM_sum 76 = .ok (.imul, 1) := by decide +kernel
theorem dXM_sum_77 : decode cXM_sum 77 = .ok (.iload 6, 2) := by decide +kernel
theorem dXM_sum_79 : decode cXM_sum 79 = .ok (.iadd, 1) := by decide +kernel
theorem dXM_sum_80 : decode cXM_sum 80 = .ok (.iaload, 1) := by decide +kernel
theorem dXM_sum_81 : decode cXM_sum 81 = .ok (.i2l, 1) := by decide +kernel
theorem dXM_sum_82 : decode cXM_sum 82 = .ok (.ladd, 1) := by decide +kernel
theorem dXM_sum_83 : decode cXM_sum 83 = .ok (.lstore 4, 2) := by decide +kernel
theorem dXM_sum_85 : decode cXM_sum 85 = .ok (.iinc 6 1, 3) := by decide +kernel
theorem dXM_sum_88 : decode cXM_sum 88 = .ok (.goto (-65), 3) := by decide +kernel
theorem dXM_sum_91 : decode cXM_sum 91 = .ok (.lload 4, 2) := by decide +kernel
theorem dXM_sum_93 : decode cXM_sum 93 = .ok (.lreturn, 1) := by decide +kernel
theorem dXM_differ_0 : decode cXM_differ 0 = .ok (.aload_n 0, 1) := by decide +kernel
theorem dXM_differ_1 : decode cXM_differ 1 = .ok (.aload_n 0, 1) := by decide +kernel
theorem dXM_differ_2 : decode cXM_differ 2 = .ok (.iload_n 1, 1) := by decide +kernel
theorem dXM_differ_3 : decode cXM_differ 3 = .ok (.invokevirtual 25, 3) := by decide +kernel
theorem dXM_differ_6 : decode cXM_differ 6 = .ok (.ifCond .eq 15, 3) := by decide +kernel
theorem dXM_differ_9 : decode cXM_differ 9 = .ok (.aload_n 0, 1) := by decide +kernel
theorem dXM_differ_10 : decode cXM_differ 10 = .ok (.iload_n 2, 1) := by decide +kernel
theorem dXM_differ_11 : decode cXM_differ 11 = .ok (.invokevirtual 25, 3) := by decide +kernel
theorem dXM_differ_14 : decode cXM_differ 14 = .ok (.ifCond .eq 7, 3) := by decide +kernel
theorem dXM_differ_17 : decode cXM_differ 17 = .ok (.iconst 0, 1) := by decide +kernel
theorem dXM_differ_18 : decode cXM_differ 18 = .ok (.goto 4, 3) := by decide +kernel
theorem dXM_differ_21 : decode cXM_differ 21 = .ok (.iconst 1, 1) := by decide +kernel
theorem dXM_differ_22 : decode cXM_differ 22 = .ok (.putfield 22, 3) := by decide +kernel
theorem dXM_differ_25 : decode cXM_differ 25 = .ok (.iconst 0, 1) := by decide +kernel
theorem dXM_differ_26 : decode cXM_differ 26 = .ok (.istore_n 3, 1) := by decide +kernel
theorem dXM_differ_27 : decode cXM_differ 27 = .ok (.iconst 0, 1) := by decide +kernel
theorem dXM_differ_28 : decode cXM_differ 28 = .ok (.istore 4, 2) := by decide +kernel
theorem dXM_differ_30 : decode cXM_differ 30 = .ok (.iload 4, 2) := by decide +kernel
theorem dXM_differ_32 : decode cXM_differ 32 = .ok (.sipush 256, 3) := by decide +kernel
theorem dXM_differ_35 : decode cXM_differ 35 = .ok (.if_icmp .ge 83, 3) := by decide +kernel
theorem dXM_differ_38 : decode cXM_differ 38 = .ok (.aload_n 0, 1) := by decide +kernel
theorem dXM_differ_39 : decode cXM_differ 39 = .ok (.getfield 22, 3) := by decide +kernel
theorem dXM_differ_42 : decode cXM_differ 42 = .ok (.ifCond .ne 76, 3) := by decide +kernel
theorem dXM_differ_45 : decode cXM_differ 45 = .ok (.sipush 256, 3) := by decide +kernel
theorem dXM_differ_48 : decode cXM_differ 48 = .ok (.iload_n 1, 1) := by decide +kernel
theorem dXM_differ_49 : decode cXM_differ 49 = .ok (.imul, 1) := by decide +kernel
theorem dXM_differ_50 : decode cXM_differ 50 = .ok (.iload 4, 2) := by decide +kernel
theorem dXM_differ_52 : decode cXM_differ 52 = .ok (.iadd, 1) := by decide +kernel
theorem dXM_differ_53 : decode cXM_differ 53 = .ok (.istore 5, 2) := by decide +kernel
theorem dXM_differ_55 : decode cXM_differ 55 = .ok (.sipush 256, 3) := by decide +kernel
theorem dXM_differ_58 : decode cXM_differ 58 = .ok (.iload_n 2, 1) := by decide +kernel
theorem dXM_differ_59 : decode cXM_differ 59 = .ok (.imul, 1) := by decide +kernel
theorem dXM_differ_60 : decode cXM_differ 60 = .ok (.iload 4, 2) := by decide +kernel
theorem dXM_differ_62 : decode cXM_differ 62 = .ok (.iadd, 1) := by decide +kernel
theorem dXM_differ_63 : decode cXM_differ 63 = .ok (.istore 6, 2) := by decide +kernel
theorem dXM_differ_65 : decode cXM_differ 65 = .ok (.aload_n 0, 1) := by decide +kernel
theorem dXM_differ_66 : decode cXM_differ 66 = .ok (.getfield 14, 3) := by decide +kernel
theorem dXM_differ_69 : decode cXM_differ 69 = .ok (.iload 5, 2) := by decide +kernel
theorem dXM_differ_71 : decode cXM_differ 71 = .ok (.baload, 1) := by decide +kernel
theorem dXM_differ_72 : decode cXM_differ 72 = .ok (.aload_n 0, 1) := by decide +kernel
theorem dXM_differ_73 : decode cXM_differ 73 = .ok (.getfield 14, 3) := by decide +kernel
theorem dXM_differ_76 : decode cXM_differ 76 = .ok (.iload 6, 2) := by decide +kernel
theorem dXM_differ_78 : decode cXM_differ 78 = .ok (.baload, 1) := by decide +kernel
theorem dXM_differ_79 : decode cXM_differ 79 = .ok (.if_icmp .ne 30, 3) := by decide +kernel
theorem dXM_differ_82 : decode cXM_differ 82 = .ok (.aload_n 0, 1) := by decide +kernel
theorem dXM_differ_83 : decode cXM_differ 83 = .ok (.getfield 14, 3) := by decide +kernel
theorem dXM_differ_86 : decode cXM_differ 86 = .ok (.iload 5, 2) := by decide +kernel
theorem dXM_differ_88 : decode cXM_differ 88 = .ok (.baload, 1) := by decide +kernel
theorem dXM_differ_89 : decode cXM_differ 89 = .ok (.ifCond .eq 23, 3) := by decide +kernel
theorem dXM_differ_92 : decode cXM_differ 92 = .ok (.aload_n 0, 1) := by decide +kernel
theorem dXM_differ_93 : decode cXM_differ 93 = .ok (.getfield 10, 3) := by decide +kernel
theorem dXM_differ_96 : decode cXM_differ 96 = .ok (.iload 5, 2) := by decide +kernel
theorem dXM_differ_98 : decode cXM_differ 98 = .ok (.iaload, 1) := by decide +kernel
theorem dXM_differ_99 : decode cXM_differ 99 = .ok (.aload_n 0, 1) := by decide +kernel
theorem dXM_differ_100 : decode cXM_differ 100 = .ok (.getfield 10, 3) := by decide +kernel
theorem dXM_differ_103 : decode cXM_differ 103 = .ok (.iload 6, 2) := by decide +kernel
theorem dXM_differ_105 : decode cXM_differ 105 = .ok (.iaload, 1) := by decide +kernel
theorem dXM_differ_106 : decode cXM_differ 106 = .ok (.if_icmp .eq 6, 3) := by decide +kernel
theorem dXM_differ_109 : decode cXM_differ 109 = .ok (.iinc 3 1, 3) := by decide +kernel
theorem dXM_differ_112 : decode cXM_differ 112 = .ok (.iinc 4 1, 3) := by decide +kernel
theorem dXM_differ_115 : decode cXM_differ 115 = .ok (.goto (-85), 3) := by decide +kernel
theorem dXM_differ_118 : decode cXM_differ 118 = .ok (.iload_n 3, 1) := by decide +kernel
theorem dXM_differ_119 : decode cXM_differ 119 = .ok (.ireturn, 1) := by decide +kernel
theorem dXM_digest_0 : decode cXM_digest 0 = .ok (.aload_n 0, 1) := by decide +kernel
theorem dXM_digest_1 : decode cXM_digest 1 = .ok (.aload_n 0, 1) := by decide +kernel
theorem dXM_digest_2 : decode cXM_digest 2 = .ok (.iload_n 1, 1) := by decide +kernel
theorem dXM_digest_3 : decode cXM_digest 3 = .ok (.invokevirtual 25, 3) := by decide +kernel
theorem dXM_digest_6 : decode cXM_digest 6 = .ok (.ifCond .eq 7, 3) := by decide +kernel
theorem dXM_digest_9 : decode cXM_digest 9 = .ok (.iconst 0, 1) := by decide +kernel
theorem dXM_digest_10 : decode cXM_digest 10 = .ok (.goto 4, 3) := by decide +kernel
theorem dXM_digest_13 : decode cXM_digest 13 = .ok (.iconst 1, 1) := by decide +kernel
theorem dXM_digest_14 : decode cXM_digest 14 = .ok (.putfield 22, 3) := by decide +kernel
theorem dXM_digest_17 : decode cXM_digest 17 = .ok (.ldc2_w 36, 3) := by decide +kernel
theorem dXM_digest_20 : decode cXM_digest 20 = .ok (.lstore_n 2, 1) := by decide +kernel
theorem dXM_digest_21 : decode cXM_digest 21 = .ok (.iconst 0, 1) := by decide +kernel
theorem dXM_digest_22 : decode cXM_digest 22 = .ok (.istore 4, 2) := by decide +kernel
theorem dXM_digest_24 : decode cXM_digest 24 = .ok (.iload 4, 2) := by decide +kernel
theorem dXM_digest_26 : decode cXM_digest 26 = .ok (.sipush 256, 3) := by decide +kernel
theorem dXM_digest_29 : decode cXM_digest 29 = .ok (.if_icmp .ge 61, 3) := by decide +kernel
theorem dXM_digest_32 : decode cXM_digest 32 = .ok (.aload_n 0, 1) := by decide +kernel
theorem dXM_digest_33 : decode cXM_digest 33 = .ok (.getfield 22, 3) := by decide +kernel
theorem dXM_digest_36 : decode cXM_digest 36 = .ok (.ifCond .ne 54, 3) := by decide +kernel
theorem dXM_digest_39 : decode cXM_digest 39 = .ok (.aload_n 0, 1) := by decide +kernel
theorem dXM_digest_40 : decode cXM_digest 40 = .ok (.getfield 14, 3) := by decide +kernel
theorem dXM_digest_43 : decode cXM_digest 43 = .ok (.sipush 256, 3) := by decide +kernel
theorem dXM_digest_46 : decode cXM_digest 46 = .ok (.iload_n 1, 1) := by decide +kernel
theorem dXM_digest_47 : decode cXM_digest 47 = .ok (.imul, 1) := by decide +kernel
theorem dXM_digest_48 : decode cXM_digest 48 = .ok (.iload 4, 2) := by decide +kernel
theorem dXM_digest_50 : decode cXM_digest 50 = .ok (.iadd, 1) := by decide +kernel
theorem dXM_digest_51 : decode cXM_digest 51 = .ok (.baload, 1) := by decide +kernel
theorem dXM_digest_52 : decode cXM_digest 52 = .ok (.ifCond .eq 32, 3) := by decide +kernel
theorem dXM_digest_55 : decode cXM_digest 55 = .ok (.ldc2_w 38, 3) := by decide +kernel
theorem dXM_digest_58 : decode cXM_digest 58 = .ok (.ldc2_w 38, 3) := by decide +kernel
theorem dXM_digest_61 : decode cXM_digest 61 = .ok (.lload_n 2, 1) := by decide +kernel
theorem dXM_digest_62 : decode cXM_digest 62 = .ok (.lmul, 1) := by decide +kernel
theorem dXM_digest_63 : decode cXM_digest 63 = .ok (.iload 4, 2) := by decide +kernel
theorem dXM_digest_65 : decode cXM_digest 65 = .ok (.i2l, 1) := by decide +kernel
theorem dXM_digest_66 : decode cXM_digest 66 = .ok (.ladd, 1) := by decide +kernel
theorem dXM_digest_67 : decode cXM_digest 67 = .ok (.lmul, 1) := by decide +kernel
theorem dXM_digest_68 : decode cXM_digest 68 = .ok (.aload_n 0, 1) := by decide +kernel
theorem dXM_digest_69 : decode cXM_digest 69 = .ok (.getfield 10, 3) := by decide +kernel
theorem dXM_digest_72 : decode cXM_digest 72 = .ok (.sipush 256, 3) := by decide +kernel
theorem dXM_digest_75 : decode cXM_digest 75 = .ok (.iload_n 1, 1) := by decide +kernel
theorem dXM_digest_76 : decode cXM_digest 76 = .ok (.imul, 1) := by decide +kernel
theorem dXM_digest_77 : decode cXM_digest 77 = .ok (.iload 4, 2) := by decide +kernel
theorem dXM_digest_79 : decode cXM_digest 79 = .ok (.iadd, 1) := by decide +kernel
theorem dXM_digest_80 : decode cXM_digest 80 = .ok (.iaload, 1) := by decide +kernel
theorem dXM_digest_81 : decode cXM_digest 81 = .ok (.i2l, 1) := by decide +kernel
theorem dXM_digest_82 : decode cXM_digest 82 = .ok (.ladd, 1) := by decide +kernel
theorem dXM_digest_83 : decode cXM_digest 83 = .ok (.lstore_n 2, 1) := by decide +kernel
theorem dXM_digest_84 : decode cXM_digest 84 = .ok (.iinc 4 1, 3) := by decide +kernel
theorem dXM_digest_87 : decode cXM_digest 87 = .ok (.goto (-63), 3) := by decide +kernel
theorem dXM_digest_90 : decode cXM_digest 90 = .ok (.aload_n 0, 1) := by decide +kernel
theorem dXM_digest_91 : decode cXM_digest 91 = .ok (.getfield 22, 3) := by decide +kernel
theorem dXM_digest_94 : decode cXM_digest 94 = .ok (.ifCond .le 7, 3) := by decide +kernel
theorem dXM_digest_97 : decode cXM_digest 97 = .ok (.lconst 0, 1) := by decide +kernel
theorem dXM_digest_98 : decode cXM_digest 98 = .ok (.goto 4, 3) := by decide +kernel
theorem dXM_digest_101 : decode cXM_digest 101 = .ok (.lload_n 2, 1) := by decide +kernel
theorem dXM_digest_102 : decode cXM_digest 102 = .ok (.lreturn, 1) := by decide +kernel
theorem dXM_versions_0 : decode cXM_versions 0 = .ok (.aload_n 0, 1) := by decide +kernel
theorem dXM_versions_1 : decode cXM_versions 1 = .ok (.iconst 0, 1) := by decide +kernel
theorem dXM_versions_2 : decode cXM_versions 2 = .ok (.putfield 22, 3) := by decide +kernel
theorem dXM_versions_5 : decode cXM_versions 5 = .ok (.aload_n 0, 1) := by decide +kernel
theorem dXM_versions_6 : decode cXM_versions 6 = .ok (.getfield 18, 3) := by decide +kernel
theorem dXM_versions_9 : decode cXM_versions 9 = .ok (.ireturn, 1) := by decide +kernel
theorem dXM_check_0 : decode cXM_check 0 = .ok (.aload_n 0, 1) := by decide +kernel
theorem dXM_check_1 : decode cXM_check 1 = .ok (.iconst 0, 1) := by decide +kernel
theorem dXM_check_2 : decode cXM_check 2 = .ok (.putfield 22, 3) := by decide +kernel
theorem dXM_check_5 : decode cXM_check 5 = .ok (.iconst 0, 1) := by decide +kernel
theorem dXM_check_6 : decode cXM_check 6 = .ok (.ireturn, 1) := by decide +kernel
