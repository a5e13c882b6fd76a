theorem dXT_init_0 : decode cXT_init 0 = .ok (.aload_n 0, 1) := by decide +kernel
theorem dXT_init_1 : decode cXT_init 1 = .ok (.invokespecial 1, 3) := by decide +kernel
theorem dXT_init_4 : decode cXT_init 4 = .ok (.aload_n 0, 1) := by decide +kernel
theorem dXT_init_5 : decode cXT_init 5 = .ok (.sipush 600, 3) := by decide +kernel
theorem dXT_init_8 : decode cXT_init 8 = .ok (.anewarray 9, 3) := by decide +kernel
theorem dXT_init_11 : decode cXT_init 11 = .ok (.putfield 11, 3) := by decide +kernel
theorem dXT_init_14 : decode cXT_init 14 = .ok (.aload_n 0, 1) := by decide +kernel
theorem dXT_init_15 : decode cXT_init 15 = .ok (.new 15, 3) := by decide +kernel
theorem dXT_init_18 : decode cXT_init 18 = .ok (.dup, 1) := by decide +kernel
theorem dXT_init_19 : decode cXT_init 19 = .ok (.invokespecial 17, 3) := by decide +kernel
theorem dXT_init_22 : decode cXT_init 22 = .ok (.putfield 18, 3) := by decide +kernel
theorem dXT_init_25 : decode cXT_init 25 = .ok (.aload_n 0, 1) := by decide +kernel
theorem dXT_init_26 : decode cXT_init 26 = .ok (.iconst 1, 1) := by decide +kernel
theorem dXT_init_27 : decode cXT_init 27 = .ok (.putfield 22, 3) := by decide +kernel
theorem dXT_init_30 : decode cXT_init 30 = .ok (.return_, 1) := by decide +kernel
theorem dXT_versions_0 : decode cXT_versions 0 = .ok (.aload_n 0, 1) := by decide +kernel
theorem dXT_versions_1 : decode cXT_versions 1 = .ok (.getfield 22, 3) := by decide +kernel
theorem dXT_versions_4 : decode cXT_versions 4 = .ok (.ireturn, 1) := by decide +kernel
theorem dXT_check_0 : decode cXT_check 0 = .ok (.iconst 0, 1) := by decide +kernel
theorem dXT_check_1 : decode cXT_check 1 = .ok (.istore_n 1, 1) := by decide +kernel
theorem dXT_check_2 : decode cXT_check 2 = .ok (.iconst 0, 1) := by decide +kernel
theorem dXT_check_3 : decode cXT_check 3 = .ok (.istore_n 2, 1) := by decide +kernel
theorem dXT_check_4 : decode cXT_check 4 = .ok (.iload_n 2, 1) := by decide +kernel
theorem dXT_check_5 : decode cXT_check 5 = .ok (.aload_n 0, 1) := by decide +kernel
theorem dXT_check_6 : decode cXT_check 6 = .ok (.getfield 22, 3) := by decide +kernel
theorem dXT_check_9 : decode cXT_check 9 = .ok (.if_icmp .ge 32, 3) := by decide +kernel
theorem dXT_check_12 : decode cXT_check 12 = .ok (.iload_n 1, 1) := by decide +kernel
theorem dXT_check_13 : decode cXT_check 13 = .ok (.aload_n 0, 1) := by decide +kernel
theorem dXT_check_14 : decode cXT_check 14 = .ok (.getfield 11, 3) := by decide +kernel
theorem dXT_check_17 : decode cXT_check 17 = .ok (.iload_n 2, 1) := by decide +kernel
theorem dXT_check_18 : decode cXT_check 18 = .ok (.aaload, 1) := by decide +kernel
theorem dXT_check_19 : decode cXT_check 19 = .ok (.bipush 8, 2) := by decide +kernel
theorem dXT_check_21 : decode cXT_check 21 = .ok (.iconst 0, 1) := by decide +kernel
theorem dXT_check_22 : decode cXT_check 22 = .ok (.invokestatic 96, 3) := by decide +kernel
theorem dXT_check_25 : decode cXT_check 25 = .ok (.ifCond .eq 7, 3) := by decide +kernel
theorem dXT_check_28 : decode cXT_check 28 = .ok (.iconst 0, 1) := by decide +kernel
theorem dXT_check_29 : decode cXT_check 29 = .ok (.goto 4, 3) := by decide +kernel
theorem dXT_check_32 : decode cXT_check 32 = .ok (.iconst 1, 1) := by decide +kernel
theorem dXT_check_33 : decode cXT_check 33 = .ok (.iadd, 1) := by decide +kernel
theorem dXT_check_34 : decode cXT_check 34 = .ok (.istore_n 1, 1) := by decide +kernel
theorem dXT_check_35 : decode cXT_check 35 = .ok (.iinc 2 1, 3) := by decide +kernel
theorem dXT_check_38 : decode cXT_check 38 = .ok (.goto (-34), 3) := by decide +kernel
theorem dXT_check_41 : decode cXT_check 41 = .ok (.iconst 0, 1) := by decide +kernel
theorem dXT_check_42 : decode cXT_check 42 = .ok (.istore_n 2, 1) := by decide +kernel
theorem dXT_check_43 : decode cXT_check 43 = .ok (.iload_n 2, 1) := by decide +kernel
theorem dXT_check_44 : decode cXT_check 44 = .ok (.aload_n 0, 1) := by decide +kernel
theorem dXT_check_45 : decode cXT_check 45 = .ok (.getfield 18, 3) := by decide +kernel
theorem dXT_check_48 : decode cXT_check 48 = .ok (.invokevirtual 100, 3) := by decide +kernel
theorem dXT_check_51 : decode cXT_check 51 = .ok (.if_icmp .ge 26, 3) := by decide +kernel
theorem dXT_check_54 : decode cXT_check 54 = .ok (.iload_n 1, 1) := by decide +kernel
theorem dXT_check_55 : decode cXT_check 55 = .ok (.aload_n 0, 1) := by decide +kernel
theorem dXT_check_56 : decode cXT_check 56 = .ok (.getfield 18, 3) := by decide +kernel
theorem dXT_check_59 : decode cXT_check 59 = .ok (.iload_n 2, 1) := by decide +kernel
theorem dXT_check_60 : decode cXT_check 60 = .ok (.invokevirtual 104, 3) := by decide +kernel
theorem dXT_check_63 : decode cXT_check 63 = .ok (.checkcast 9, 3) := by decide +kernel
theorem dXT_check_66 : decode cXT_check 66 = .ok (.invokestatic 108, 3) := by decide +kernel
theorem dXT_check_69 : decode cXT_check 69 = .ok (.iadd, 1) := by decide +kernel
theorem dXT_check_70 : decode cXT_check 70 = .ok (.istore_n 1, 1) := by decide +kernel
theorem dXT_check_71 : decode cXT_check 71 = .ok (.iinc 2 1, 3) := by decide +kernel
theorem dXT_check_74 : decode cXT_check 74 = .ok (.goto (-31), 3) := by decide +kernel
theorem dXT_check_77 : decode cXT_check 77 = .ok (.iload_n 1, 1) := by decide +kernel
theorem dXT_check_78 : decode cXT_check 78 = .ok (.ireturn, 1) := by decide +kernel
theorem dXT_isAt_0 : decode cXT_isAt 0 = .ok (.aload_n 0, 1) := by decide +kernel
theorem dXT_isAt_1 : decode cXT_isAt 1 = .ok (.ifnull 19, 3) := by decide +kernel
theorem dXT_isAt_4 : decode cXT_isAt 4 = .ok (.aload_n 0, 1) := by decide +kernel
theorem dXT_isAt_5 : decode cXT_isAt 5 = .ok (.getfield 150, 3) := by decide +kernel
theorem dXT_isAt_8 : decode cXT_isAt 8 = .ok (.iload_n 1, 1) := by decide +kernel
theorem dXT_isAt_9 : decode cXT_isAt 9 = .ok (.if_icmp .ne 15, 3) := by decide +kernel
theorem dXT_isAt_12 : decode cXT_isAt 12 = .ok (.aload_n 0, 1) := by decide +kernel
theorem dXT_isAt_13 : decode cXT_isAt 13 = .ok (.getfield 147, 3) := by decide +kernel
theorem dXT_isAt_16 : decode cXT_isAt 16 = .ok (.iload_n 2, 1) := by decide +kernel
theorem dXT_isAt_17 : decode cXT_isAt 17 = .ok (.if_icmp .ne 7, 3) := by decide +kernel
theorem dXT_isAt_20 : decode cXT_isAt 20 = .ok (.iconst 1, 1) := by decide +kernel
theorem dXT_isAt_21 : decode cXT_isAt 21 = .ok (.goto 4, 3) := by decide +kernel
theorem dXT_isAt_24 : decode cXT_isAt 24 = .ok (.iconst 0, 1) := by decide +kernel
theorem dXT_isAt_25 : decode cXT_isAt 25 = .ok (.ireturn, 1) := by decide +kernel
theorem dXT_faultsOf_0 : decode cXT_faultsOf 0 = .ok (.aload_n 0, 1) := by decide +kernel
theorem dXT_faultsOf_1 : decode cXT_faultsOf 1 = .ok (.ifnonnull 5, 3) := by decide +kernel
theorem dXT_faultsOf_4 : decode cXT_faultsOf 4 = .ok (.iconst 1, 1) := by decide +kernel
theorem dXT_faultsOf_5 : decode cXT_faultsOf 5 = .ok (.ireturn, 1) := by decide +kernel
theorem dXT_faultsOf_6 : decode cXT_faultsOf 6 = .ok (.aload_n 0, 1) := by decide +kernel
theorem dXT_faultsOf_7 : decode cXT_faultsOf 7 = .ok (.getfield 150, 3) := by decide +kernel
theorem dXT_faultsOf_10 : decode cXT_faultsOf 10 = .ok (.ifCond .gt 10, 3) := by decide +kernel
theorem dXT_faultsOf_13 : decode cXT_faultsOf 13 = .ok (.aload_n 0, 1) := by decide +kernel
theorem dXT_faultsOf_14 : decode cXT_faultsOf 14 = .ok (.invokestatic 153, 3) := by decide +kernel
theorem dXT_faultsOf_17 : decode cXT_faultsOf 17 = .ok (.goto 7, 3) := by decide +kernel
theorem dXT_faultsOf_20 : decode cXT_faultsOf 20 = .ok (.aload_n 0, 1) := by decide +kernel
theorem dXT_faultsOf_21 : decode cXT_faultsOf 21 = .ok (.invokestatic 156, 3) := by decide +kernel
theorem dXT_faultsOf_24 : decode cXT_faultsOf 24 = .ok (.ireturn, 1) := by decide +kernel
theorem dXT_faultsOfLeaf_0 : decode cXT_faultsOfLeaf 0 = .ok (.aload_n 0, 1) := by decide +kernel
theorem dXT_faultsOfLeaf_1 : decode cXT_faultsOfLeaf 1 = .ok (.getfield 138, 3) := by decide +kernel
theorem dXT_faultsOfLeaf_4 : decode cXT_faultsOfLeaf 4 = .ok (.ifnonnull 14, 3) := by decide +kernel
theorem dXT_faultsOfLeaf_7 : decode cXT_faultsOfLeaf 7 = .ok (.aload_n 0, 1) := by decide +kernel
theorem dXT_faultsOfLeaf_8 : decode cXT_faultsOfLeaf 8 = .ok (.getfield 142, 3) := by decide +kernel
theorem dXT_faultsOfLeaf_11 : decode cXT_faultsOfLeaf 11 = .ok (.ifnonnull 7, 3) := by decide +kernel
theorem dXT_faultsOfLeaf_14 : decode cXT_faultsOfLeaf 14 = .ok (.iconst 0, 1) := by decide +kernel
theorem dXT_faultsOfLeaf_15 : decode cXT_faultsOfLeaf 15 = .ok (.goto 4, 3) := by decide +kernel
theorem dXT_faultsOfLeaf_18 : decode cXT_faultsOfLeaf 18 = .ok (.iconst 1, 1) := by decide +kernel
theorem dXT_faultsOfLeaf_19 : decode cXT_faultsOfLeaf 19 = .ok (.istore_n 1, 1) := by decide +kernel
theorem dXT_faultsOfLeaf_20 : decode cXT_faultsOfLeaf 20 = .ok (.iload_n 1, 1) := by decide +kernel
theorem dXT_faultsOfLeaf_21 : decode cXT_faultsOfLeaf 21 = .ok (.aload_n 0, 1) := by decide +kernel
theorem dXT_faultsOfLeaf_22 : decode cXT_faultsOfLeaf 22 = .ok (.getfield 159, 3) := by decide +kernel
theorem dXT_faultsOfLeaf_25 : decode cXT_faultsOfLeaf 25 = .ok (.iconst 1, 1) := by decide +kernel
theorem dXT_faultsOfLeaf_26 : decode cXT_faultsOfLeaf 26 = .ok (.if_icmp .ne 7, 3) := by decide +kernel
theorem dXT_faultsOfLeaf_29 : decode cXT_faultsOfLeaf 29 = .ok (.iconst 0, 1) := by decide +kernel
theorem dXT_faultsOfLeaf_30 : decode cXT_faultsOfLeaf 30 = .ok (.goto 4, 3) := by decide +kernel
theorem dXT_faultsOfLeaf_33 : decode cXT_faultsOfLeaf 33 = .ok (.iconst 1, 1) := by decide +kernel
theorem dXT_faultsOfLeaf_34 : decode cXT_faultsOfLeaf 34 = .ok (.iadd, 1) := by decide +kernel
theorem dXT_faultsOfLeaf_35 : decode cXT_faultsOfLeaf 35 = .ok (.istore_n 1, 1) := by decide +kernel
theorem dXT_faultsOfLeaf_36 : decode cXT_faultsOfLeaf 36 = .ok (.iload_n 1, 1) := by decide +kernel
theorem dXT_faultsOfLeaf_37 : decode cXT_faultsOfLeaf 37 = .ok (.aload_n 0, 1) := by decide +kernel
theorem dXT_faultsOfLeaf_38 : decode cXT_faultsOfLeaf 38 = .ok (.getfield 161, 3) := by decide +kernel
theorem dXT_faultsOfLeaf_41 : decode cXT_faultsOfLeaf 41 = .ok (.aload_n 0, 1) := by decide +kernel
theorem dXT_faultsOfLeaf_42 : decode cXT_faultsOfLeaf 42 = .ok (.getfield 67, 3) := by decide +kernel
theorem dXT_faultsOfLeaf_45 : decode cXT_faultsOfLeaf 45 = .ok (.i2l, 1) := by decide +kernel
theorem dXT_faultsOfLeaf_46 : decode cXT_faultsOfLeaf 46 = .ok (.lcmp, 1) := by decide +kernel
theorem dXT_faultsOfLeaf_47 : decode cXT_faultsOfLeaf 47 = .ok (.ifCond .ne 7, 3) := by decide +kernel
theorem dXT_faultsOfLeaf_50 : decode cXT_faultsOfLeaf 50 = .ok (.iconst 0, 1) := by decide +kernel
theorem dXT_faultsOfLeaf_51 : decode cXT_faultsOfLeaf 51 = .ok (.goto 4, 3) := by decide +kernel
theorem dXT_faultsOfLeaf_54 : decode cXT_faultsOfLeaf 54 = .ok (.iconst 1, 1) := by decide +kernel
theorem dXT_faultsOfLeaf_55 : decode cXT_faultsOfLeaf 55 = .ok (.iadd, 1) := by decide +kernel
theorem dXT_faultsOfLeaf_56 : decode cXT_faultsOfLeaf 56 = .ok (.istore_n 1, 1) := by decide +kernel
theorem dXT_faultsOfLeaf_57 : decode cXT_faultsOfLeaf 57 = .ok (.iload_n 1, 1) := by decide +kernel
theorem dXT_faultsOfLeaf_58 : decode cXT_faultsOfLeaf 58 = .ok (.ireturn, 1) := by decide +kernel
theorem dXT_faultsOfFork_0 : decode cXT_faultsOfFork 0 = .ok (.aload_n 0, 1) := by decide +kernel
theorem dXT_faultsOfFork_1 : decode cXT_faultsOfFork 1 = .ok (.getfield 150, 3) := by decide +kernel
theorem dXT_faultsOfFork_4 : decode cXT_faultsOfFork 4 = .ok (.iconst 1, 1) := by decide +kernel
theorem dXT_faultsOfFork_5 : decode cXT_faultsOfFork 5 = .ok (.isub, 1) := by decide +kernel
theorem dXT_faultsOfFork_6 : decode cXT_faultsOfFork 6 = .ok (.istore_n 1, 1) := by decide +kernel
theorem dXT_faultsOfFork_7 : decode cXT_faultsOfFork 7 = .ok (.aload_n 0, 1) := by decide +kernel
theorem dXT_faultsOfFork_8 : decode cXT_faultsOfFork 8 = .ok (.getfield 138, 3) := by decide +kernel
theorem dXT_faultsOfFork_11 : decode cXT_faultsOfFork 11 = .ok (.iload_n 1, 1) := by decide +kernel
theorem dXT_faultsOfFork_12 : decode cXT_faultsOfFork 12 = .ok (.aload_n 0, 1) := by decide +kernel
theorem dXT_faultsOfFork_13 : decode cXT_faultsOfFork 13 = .ok (.getfield 147, 3) := by decide +kernel
theorem dXT_faultsOfFork_16 : decode cXT_faultsOfFork 16 = .ok (.invokestatic 96, 3) := by decide +kernel
theorem dXT_faultsOfFork_19 : decode cXT_faultsOfFork 19 = .ok (.ifCond .eq 7, 3) := by decide +kernel
theorem dXT_faultsOfFork_22 : decode cXT_faultsOfFork 22 = .ok (.iconst 0, 1) := by decide +kernel
theorem dXT_faultsOfFork_23 : decode cXT_faultsOfFork 23 = .ok (.goto 4, 3) := by decide +kernel
theorem dXT_faultsOfFork_26 : decode cXT_faultsOfFork 26 = .ok (.iconst 1, 1) := by decide +kernel
theorem dXT_faultsOfFork_27 : decode cXT_faultsOfFork 27 = .ok (.istore_n 2, 1) := by decide +kernel
theorem dXT_faultsOfFork_28 : decode cXT_faultsOfFork 28 = .ok (.iload_n 2, 1) := by decide +kernel
theorem dXT_faultsOfFork_29 : decode cXT_faultsOfFork 29 = .ok (.aload_n 0, 1) := by decide +kernel
theorem dXT_faultsOfFork_30 : decode cXT_faultsOfFork 30 = .ok (.getfield 142, 3) := by decide +kernel
theorem dXT_faultsOfFork_33 : decode cXT_faultsOfFork 33 = .ok (.iload_n 1, 1) := by decide +kernel
theorem dXT_faultsOfFork_34 : decode cXT_faultsOfFork 34 = .ok (.aload_n 0, 1) := by decide +kernel
theorem dXT_faultsOfFork_35 : decode cXT_faultsOfFork 35 = .ok (.getfield 147, 3) := by decide +kernel
theorem dXT_faultsOfFork_38 : decode cXT_faultsOfFork 38 = .ok (.iconst 1, 1) := by decide +kernel
theorem dXT_faultsOfFork_39 : decode cXT_faultsOfFork 39 = .ok (.iload_n 1, 1) := by decide +kernel
theorem dXT_faultsOfFork_40 : decode cXT_faultsOfFork 40 = .ok (.ishl, 1) := by decide +kernel
theorem dXT_faultsOfFork_41 : decode cXT_faultsOfFork 41 = .ok (.iadd, 1) := by decide +kernel
theorem dXT_faultsOfFork_42 : decode cXT_faultsOfFork 42 = .ok (.invokestatic 96, 3) := by decide +kernel
theorem dXT_faultsOfFork_45 : decode cXT_faultsOfFork 45 = .ok (.ifCond .eq 7, 3) := by decide +kernel
theorem dXT_faultsOfFork_48 : decode cXT_faultsOfFork 48 = .ok (.iconst 0, 1) := by decide +kernel
theorem dXT_faultsOfFork_49 : decode cXT_faultsOfFork 49 = .ok (.goto 4, 3) := by decide +kernel
theorem dXT_faultsOfFork_52 : decode cXT_faultsOfFork 52 = .ok (.iconst 1, 1) := by decide +kernel
theorem dXT_faultsOfFork_53 : decode cXT_faultsOfFork 53 = .ok (.iadd, 1) := by decide +kernel
theorem dXT_faultsOfFork_54 : decode cXT_faultsOfFork 54 = .ok (.istore_n 2, 1) := by decide +kernel
theorem dXT_faultsOfFork_55 : decode cXT_faultsOfFork 55 = .ok (.iload_n 2, 1) := by decide +kernel
theorem dXT_faultsOfFork_56 : decode cXT_faultsOfFork 56 = .ok (.aload_n 0, 1) := by decide +kernel
theorem dXT_faultsOfFork_57 : decode cXT_faultsOfFork 57 = .ok (.getfield 138, 3) := by decide +kernel
theorem dXT_faultsOfFork_60 : decode cXT_faultsOfFork 60 = .ok (.ifnonnull 14, 3) := by decide +kernel
theorem dXT_faultsOfFork_63 : decode cXT_faultsOfFork 63 = .ok (.aload_n 0, 1) := by decide +kernel
theorem dXT_faultsOfFork_64 : decode cXT_faultsOfFork 64 = .ok (.getfield 142, 3) := by decide +kernel
theorem dXT_faultsOfFork_67 : decode cXT_faultsOfFork 67 = .ok (.ifnonnull 7, 3) := by decide +kernel
theorem dXT_faultsOfFork_70 : decode cXT_faultsOfFork 70 = .ok (.iconst 1, 1) := by decide +kernel
theorem dXT_faultsOfFork_71 : decode cXT_faultsOfFork 71 = .ok (.goto 4, 3) := by decide +kernel
theorem dXT_faultsOfFork_74 : decode cXT_faultsOfFork 74 = .ok (.iconst 0, 1) := by decide +kernel
theorem dXT_faultsOfFork_75 : decode cXT_faultsOfFork 75 = .ok (.iadd, 1) := by decide +kernel
theorem dXT_faultsOfFork_76 : decode cXT_faultsOfFork 76 = .ok (.istore_n 2, 1) := by decide +kernel
theorem dXT_faultsOfFork_77 : decode cXT_faultsOfFork 77 = .ok (.iload_n 2, 1) := by decide +kernel
theorem dXT_faultsOfFork_78 : decode cXT_faultsOfFork 78 = .ok (.aload_n 0, 1) := by decide +kernel
theorem dXT_faultsOfFork_79 : decode cXT_faultsOfFork 79 = .ok (.getfield 159, 3) := by decide +kernel
theorem dXT_faultsOfFork_82 : decode cXT_faultsOfFork 82 = .ok (.aload_n 0, 1) := by decide +kernel
theorem dXT_faultsOfFork_83 : decode cXT_faultsOfFork 83 = .ok (.getfield 138, 3) := by decide +kernel
theorem dXT_faultsOfFork_86 : decode cXT_faultsOfFork 86 = .ok (.invokestatic 70, 3) := by decide +kernel
theorem dXT_faultsOfFork_89 : decode cXT_faultsOfFork 89 = .ok (.aload_n 0, 1) := by decide +kernel
theorem dXT_faultsOfFork_90 : decode cXT_faultsOfFork 90 = .ok (.getfield 142, 3) := by decide +kernel
theorem dXT_faultsOfFork_93 : decode cXT_faultsOfFork 93 = .ok (.invokestatic 70, 3) := by decide +kernel
theorem dXT_faultsOfFork_96 : decode cXT_faultsOfFork 96 = .ok (.iadd, 1) := by decide +kernel
theorem dXT_faultsOfFork_97 : decode cXT_faultsOfFork 97 = .ok (.if_icmp .ne 7, 3) := by decide +kernel
theorem dXT_faultsOfFork_100 : decode cXT_faultsOfFork 100 = .ok (.iconst 0, 1) := by decide +kernel
theorem dXT_faultsOfFork_101 : decode cXT_faultsOfFork 101 = .ok (.goto 4, 3) := by decide +kernel
theorem dXT_faultsOfFork_104 : decode cXT_faultsOfFork 104 = .ok (.iconst 1, 1) := by decide +kernel
theorem dXT_faultsOfFork_105 : decode cXT_faultsOfFork 105 = .ok (.iadd, 1) := by decide +kernel
theorem dXT_faultsOfFork_106 : decode cXT_faultsOfFork 106 = .ok (.istore_n 2, 1) := by decide +kernel
theorem dXT_faultsOfFork_107 : decode cXT_faultsOfFork 107 = .ok (.iload_n 2, 1) := by decide +kernel
theorem dXT_faultsOfFork_108 : decode cXT_faultsOfFork 108 = .ok (.aload_n 0, 1) := by decide +kernel
theorem dXT_faultsOfFork_109 : decode cXT_faultsOfFork 109 = .ok (.getfield 161, 3) := by decide +kernel
theorem dXT_faultsOfFork_112 : decode cXT_faultsOfFork 112 = .ok (.aload_n 0, 1) := by decide +kernel
theorem dXT_faultsOfFork_113 : decode cXT_faultsOfFork 113 = .ok (.getfield 138, 3) := by decide +kernel
theorem dXT_faultsOfFork_116 : decode cXT_faultsOfFork 116 = .ok (.invokestatic 134, 3) := by decide +kernel
theorem dXT_faultsOfFork_119 : decode cXT_faultsOfFork 119 = .ok (.aload_n 0, 1) := by decide +kernel
theorem dXT_faultsOfFork_120 : decode cXT_faultsOfFork 120 = .ok (.getfield 142, 3) := by decide +kernel
theorem dXT_faultsOfFork_123 : decode cXT_faultsOfFork 123 = .ok (.invokestatic 134, 3) := by decide +kernel
theorem dXT_faultsOfFork_126 : decode cXT_faultsOfFork 126 = .ok (.ladd, 1) := by decide +kernel
theorem dXT_faultsOfFork_127 : decode cXT_faultsOfFork 127 = .ok (.lcmp, 1) := by decide +kernel
theorem dXT_faultsOfFork_128 : decode cXT_faultsOfFork 128 = .ok (.ifCond .ne 7, 3) := by decide +kernel
theorem dXT_faultsOfFork_131 : decode cXT_faultsOfFork 131 = .ok (.iconst 0, 1) := by decide +kernel
theorem dXT_faultsOfFork_132 : decode cXT_faultsOfFork 132 = .ok (.goto 4, 3) := by decide +kernel
theorem dXT_faultsOfFork_135 : decode cXT_faultsOfFork 135 = .ok (.iconst 1, 1) := by decide +kernel
theorem dXT_faultsOfFork_136 : decode cXT_faultsOfFork 136 = .ok (.iadd, 1) := by decide +kernel
theorem dXT_faultsOfFork_137 : decode cXT_faultsOfFork 137 = .ok (.istore_n 2, 1) := by decide +kernel
theorem dXT_faultsOfFork_138 : decode cXT_faultsOfFork 138 = .ok (.iload_n 2, 1) := by decide +kernel
theorem dXT_faultsOfFork_139 : decode cXT_faultsOfFork 139 = .ok (.ireturn, 1) := by decide +kernel
theorem dXT_sizeOf_0 : decode cXT_sizeOf 0 = .ok (.aload_n 0, 1) := by decide +kernel
theorem dXT_sizeOf_1 : decode cXT_sizeOf 1 = .ok (.ifnonnull 7, 3) := by decide +kernel
theorem dXT_sizeOf_4 : decode cXT_sizeOf 4 = .ok (.iconst 0, 1) := by decide +kernel
theorem dXT_sizeOf_5 : decode cXT_sizeOf 5 = .ok (.goto 7, 3) := by decide +kernel
theorem dXT_sizeOf_8 : decode cXT_sizeOf 8 = .ok (.aload_n 0, 1) := by decide +kernel
theorem dXT_sizeOf_9 : decode cXT_sizeOf 9 = .ok (.getfield 159, 3) := by decide +kernel
theorem dXT_sizeOf_12 : decode cXT_sizeOf 12 = .ok (.ireturn, 1) := by decide +kernel
theorem dXT_totalOf_0 : decode cXT_totalOf 0 = .ok (.aload_n 0, 1) := by decide +kernel
theorem dXT_totalOf_1 : decode cXT_totalOf 1 = .ok (.ifnonnull 7, 3) := by decide +kernel
theorem dXT_totalOf_4 : decode cXT_totalOf 4 = .ok (.lconst 0, 1) := by decide +kernel
theorem dXT_totalOf_5 : decode cXT_totalOf 5 = .ok (.goto 7, 3) := by decide +kernel
theorem dXT_totalOf_8 : decode cXT_totalOf 8 = .ok (.aload_n 0, 1) := by decide +kernel
theorem dXT_totalOf_9 : decode cXT_totalOf 9 = .ok (.getfield 161, 3) := by decide +kernel
theorem dXT_totalOf_12 : decode cXT_totalOf 12 = .ok (.lreturn, 1) := by decide +kernel
theorem dXT_put_0 : decode cXT_put 0 = .ok (.aload_n 0, 1) := by decide +kernel
theorem dXT_put_1 : decode cXT_put 1 = .ok (.iload_n 1, 1) := by decide +kernel
theorem dXT_put_2 : decode cXT_put 2 = .ok (.invokevirtual 26, 3) := by decide +kernel
theorem dXT_put_5 : decode cXT_put 5 = .ok (.iload_n 2, 1) := by decide +kernel
theorem dXT_put_6 : decode cXT_put 6 = .ok (.invokestatic 30, 3) := by decide +kernel
theorem dXT_put_9 : decode cXT_put 9 = .ok (.aload_n 0, 1) := by decide +kernel
theorem dXT_put_10 : decode cXT_put 10 = .ok (.invokevirtual 33, 3) := by decide +kernel
theorem dXT_put_13 : decode cXT_put 13 = .ok (.new 9, 3) := by decide +kernel
theorem dXT_put_16 : decode cXT_put 16 = .ok (.dup, 1) := by decide +kernel
theorem dXT_put_17 : decode cXT_put 17 = .ok (.iload_n 2, 1) := by decide +kernel
theorem dXT_put_18 : decode cXT_put 18 = .ok (.iload_n 3, 1) := by decide +kernel
theorem dXT_put_19 : decode cXT_put 19 = .ok (.invokespecial 36, 3) := by decide +kernel
theorem dXT_put_22 : decode cXT_put 22 = .ok (.astore 4, 2) := by decide +kernel
theorem dXT_put_24 : decode cXT_put 24 = .ok (.aload_n 0, 1) := by decide +kernel
theorem dXT_put_25 : decode cXT_put 25 = .ok (.getfield 18, 3) := by decide +kernel
theorem dXT_put_28 : decode cXT_put 28 = .ok (.aload 4, 2) := by decide +kernel
theorem dXT_put_30 : decode cXT_put 30 = .ok (.invokevirtual 39, 3) := by decide +kernel
theorem dXT_put_33 : decode cXT_put 33 = .ok (.pop, 1) := by decide +kernel
theorem dXT_put_34 : decode cXT_put 34 = .ok (.aload_n 0, 1) := by decide +kernel
theorem dXT_put_35 : decode cXT_put 35 = .ok (.aload_n 0, 1) := by decide +kernel
theorem dXT_put_36 : decode cXT_put 36 = .ok (.getfield 11, 3) := by decide +kernel
theorem dXT_put_39 : decode cXT_put 39 = .ok (.iload_n 1, 1) := by decide +kernel
theorem dXT_put_40 : decode cXT_put 40 = .ok (.aaload, 1) := by decide +kernel
theorem dXT_put_41 : decode cXT_put 41 = .ok (.aload_n 0, 1) := by decide +kernel
theorem dXT_put_42 : decode cXT_put 42 = .ok (.getfield 11, 3) := by decide +kernel
theorem dXT_put_45 : decode cXT_put 45 = .ok (.iload_n 1, 1) := by decide +kernel
theorem dXT_put_46 : decode cXT_put 46 = .ok (.aaload, 1) := by decide +kernel
theorem dXT_put_47 : decode cXT_put 47 = .ok (.bipush 8, 2) := by decide +kernel
theorem dXT_put_49 : decode cXT_put 49 = .ok (.iload_n 2, 1) := by decide +kernel
theorem dXT_put_50 : decode cXT_put 50 = .ok (.aload 4, 2) := by decide +kernel
theorem dXT_put_52 : decode cXT_put 52 = .ok (.aload_n 0, 1) := by decide +kernel
theorem dXT_put_53 : decode cXT_put 53 = .ok (.getfield 18, 3) := by decide +kernel
theorem dXT_put_56 : decode cXT_put 56 = .ok (.invokestatic 43, 3) := by decide +kernel
theorem dXT_put_59 : decode cXT_put 59 = .ok (.invokevirtual 47, 3) := by decide +kernel
theorem dXT_put_62 : decode cXT_put 62 = .ok (.ireturn, 1) := by decide +kernel
theorem dXT_needVersion_0 : decode cXT_needVersion 0 = .ok (.iload_n 1, 1) := by decide +kernel
theorem dXT_needVersion_1 : decode cXT_needVersion 1 = .ok (.ifCond .lt 11, 3) := by decide +kernel
theorem dXT_needVersion_4 : decode cXT_needVersion 4 = .ok (.iload_n 1, 1) := by decide +kernel
theorem dXT_needVersion_5 : decode cXT_needVersion 5 = .ok (.aload_n 0, 1) := by decide +kernel
theorem dXT_needVersion_6 : decode cXT_needVersion 6 = .ok (.getfield 22, 3) := by decide +kernel
theorem dXT_needVersion_9 : decode cXT_needVersion 9 = .ok (.if_icmp .lt 13, 3) := by decide +kernel
theorem dXT_needVersion_12 : decode cXT_needVersion 12 = .ok (.new 62, 3) := by decide +kernel
theorem dXT_needVersion_15 : decode cXT_needVersion 15 = .ok (.dup, 1) := by decide +kernel
theorem dXT_needVersion_16 : decode cXT_needVersion 16 = .ok (.ldc 111, 2) := by decide +kernel
theorem dXT_needVersion_18 : decode cXT_needVersion 18 = .ok (.invokespecial 66, 3) := by decide +kernel
theorem dXT_needVersion_21 : decode cXT_needVersion 21 = .ok (.athrow, 1) := by decide +kernel
theorem dXT_needVersion_22 : decode cXT_needVersion 22 = .ok (.return_, 1) := by decide +kernel
theorem dXT_needKey_0 : decode cXT_needKey 0 = .ok (.iload_n 0, 1) := by decide +kernel
theorem dXT_needKey_1 : decode cXT_needKey 1 = .ok (.ifCond .lt 10, 3) := by decide +kernel
theorem dXT_needKey_4 : decode cXT_needKey 4 = .ok (.iload_n 0, 1) := by decide +kernel
theorem dXT_needKey_5 : decode cXT_needKey 5 = .ok (.sipush 256, 3) := by decide +kernel
theorem dXT_needKey_8 : decode cXT_needKey 8 = .ok (.if_icmp .lt 13, 3) := by decide +kernel
theorem dXT_needKey_11 : decode cXT_needKey 11 = .ok (.new 62, 3) := by decide +kernel
theorem dXT_needKey_14 : decode cXT_needKey 14 = .ok (.dup, 1) := by decide +kernel
theorem dXT_needKey_15 : decode cXT_needKey 15 = .ok (.ldc 113, 2) := by decide +kernel
theorem dXT_needKey_17 : decode cXT_needKey 17 = .ok (.invokespecial 66, 3) := by decide +kernel
theorem dXT_needKey_20 : decode cXT_needKey 20 = .ok (.athrow, 1) := by decide +kernel
theorem dXT_needKey_21 : decode cXT_needKey 21 = .ok (.return_, 1) := by decide +kernel
theorem dXT_needRoom_0 : decode cXT_needRoom 0 = .ok (.aload_n 0, 1) := by decide +kernel
theorem dXT_needRoom_1 : decode cXT_needRoom 1 = .ok (.getfield 22, 3) := by decide +kernel
theorem dXT_needRoom_4 : decode cXT_needRoom 4 = .ok (.sipush 600, 3) := by decide +kernel
theorem dXT_needRoom_7 : decode cXT_needRoom 7 = .ok (.if_icmp .lt 13, 3) := by decide +kernel
theorem dXT_needRoom_10 : decode cXT_needRoom 10 = .ok (.new 115, 3) := by decide +kernel
theorem dXT_needRoom_13 : decode cXT_needRoom 13 = .ok (.dup, 1) := by decide +kernel
theorem dXT_needRoom_14 : decode cXT_needRoom 14 = .ok (.ldc 117, 2) := by decide +kernel
theorem dXT_needRoom_16 : decode cXT_needRoom 16 = .ok (.invokespecial 119, 3) := by decide +kernel
theorem dXT_needRoom_19 : decode cXT_needRoom 19 = .ok (.athrow, 1) := by decide +kernel
theorem dXT_needRoom_20 : decode cXT_needRoom 20 = .ok (.return_, 1) := by decide +kernel
theorem dXN_init_0 : decode cXN_init 0 = .ok (.aload_n 0, 1) := by decide +kernel
theorem dXN_init_1 : decode cXN_init 1 = .ok (.invokespecial 1, 3) := by decide +kernel
theorem dXN_init_4 : decode cXN_init 4 = .ok (.aload_n 0, 1) := by decide +kernel
theorem dXN_init_5 : decode cXN_init 5 = .ok (.iconst 0, 1) := by decide +kernel
theorem dXN_init_6 : decode cXN_init 6 = .ok (.putfield 7, 3) := by decide +kernel
theorem dXN_init_9 : decode cXN_init 9 = .ok (.aload_n 0, 1) := by decide +kernel
theorem dXN_init_10 : decode cXN_init 10 = .ok (.iload_n 1, 1) := by decide +kernel
theorem dXN_init_11 : decode cXN_init 11 = .ok (.putfield 13, 3) := by decide +kernel
theorem dXN_init_14 : decode cXN_init 14 = .ok (.aload_n 0, 1) := by decide +kernel
theorem dXN_init_15 : decode cXN_init 15 = .ok (.aconst_null, 1) := by decide +kernel
theorem dXN_init_16 : decode cXN_init 16 = .ok (.putfield 16, 3) := by decide +kernel
theorem dXN_init_19 : decode cXN_init 19 = .ok (.aload_n 0, 1) := by decide +kernel
theorem dXN_init_20 : decode cXN_init 20 = .ok (.aconst_null, 1) := by decide +kernel
theorem dXN_init_21 : decode cXN_init 21 = .ok (.putfield 20, 3) := by decide +kernel
theorem dXN_init_24 : decode cXN_init 24 = .ok (.aload_n 0, 1) := by decide +kernel
theorem dXN_init_25 : decode cXN_init 25 = .ok (.iload_n 2, 1) := by decide +kernel
theorem dXN_init_26 : decode cXN_init 26 = .ok (.putfield 23, 3) := by decide +kernel
theorem dXN_init_29 : decode cXN_init 29 = .ok (.aload_n 0, 1) := by decide +kernel
theorem dXN_init_30 : decode cXN_init 30 = .ok (.iconst 1, 1) := by decide +kernel
theorem dXN_init_31 : decode cXN_init 31 = .ok (.putfield 26, 3) := by decide +kernel
theorem dXN_init_34 : decode cXN_init 34 = .ok (.aload_n 0, 1) := by decide +kernel
theorem dXN_init_35 : decode cXN_init 35 = .ok (.iload_n 2, 1) := by decide +kernel
theorem dXN_init_36 : decode cXN_init 36 = .ok (.i2l, 1) := by decide +kernel
theorem dXN_init_37 : decode cXN_init 37 = .ok (.putfield 29, 3) := by decide +kernel
theorem dXN_init_40 : decode cXN_init 40 = .ok (.return_, 1) := by decide +kernel
theorem dXT_meld_0 : decode cXT_meld 0 = .ok (.iload_n 2, 1) := by decide +kernel
theorem dXT_meld_1 : decode cXT_meld 1 = .ok (.ifCond .gt 6, 3) := by decide +kernel
theorem dXT_meld_4 : decode cXT_meld 4 = .ok (.aload 4, 2) := by decide +kernel
theorem dXT_meld_6 : decode cXT_meld 6 = .ok (.areturn, 1) := by decide +kernel
theorem dXT_meld_7 : decode cXT_meld 7 = .ok (.iload_n 3, 1) := by decide +kernel
theorem dXT_meld_8 : decode cXT_meld 8 = .ok (.iload_n 2, 1) := by decide +kernel
theorem dXT_meld_9 : decode cXT_meld 9 = .ok (.invokestatic 120, 3) := by decide +kernel
theorem dXT_meld_12 : decode cXT_meld 12 = .ok (.ifCond .eq 33, 3) := by decide +kernel
theorem dXT_meld_15 : decode cXT_meld 15 = .ok (.aload_n 0, 1) := by decide +kernel
theorem dXT_meld_16 : decode cXT_meld 16 = .ok (.invokestatic 124, 3) := by decide +kernel
theorem dXT_meld_19 : decode cXT_meld 19 = .ok (.astore 6, 2) := by decide +kernel
theorem dXT_meld_21 : decode cXT_meld 21 = .ok (.aload_n 0, 1) := by decide +kernel
theorem dXT_meld_22 : decode cXT_meld 22 = .ok (.invokestatic 128, 3) := by decide +kernel
theorem dXT_meld_25 : decode cXT_meld 25 = .ok (.aload_n 1, 1) := by decide +kernel
theorem dXT_meld_26 : decode cXT_meld 26 = .ok (.invokestatic 128, 3) := by decide +kernel
theorem dXT_meld_29 : decode cXT_meld 29 = .ok (.iload_n 2, 1) := by decide +kernel
theorem dXT_meld_30 : decode cXT_meld 30 = .ok (.iconst 1, 1) := by decide +kernel
theorem dXT_meld_31 : decode cXT_meld 31 = .ok (.isub, 1) := by decide +kernel
theorem dXT_meld_32 : decode cXT_meld 32 = .ok (.iload_n 3, 1) := by decide +kernel
theorem dXT_meld_33 : decode cXT_meld 33 = .ok (.aload 4, 2) := by decide +kernel
theorem dXT_meld_35 : decode cXT_meld 35 = .ok (.aload 5, 2) := by decide +kernel
theorem dXT_meld_37 : decode cXT_meld 37 = .ok (.invokestatic 43, 3) := by decide +kernel
theorem dXT_meld_40 : decode cXT_meld 40 = .ok (.astore 7, 2) := by decide +kernel
theorem dXT_meld_42 : decode cXT_meld 42 = .ok (.goto 30, 3) := by decide +kernel
theorem dXT_meld_45 : decode cXT_meld 45 = .ok (.aload_n 0, 1) := by decide +kernel
theorem dXT_meld_46 : decode cXT_meld 46 = .ok (.invokestatic 124, 3) := by decide +kernel
theorem dXT_meld_49 : decode cXT_meld 49 = .ok (.aload_n 1, 1) := by decide +kernel
theorem dXT_meld_50 : decode cXT_meld 50 = .ok (.invokestatic 124, 3) := by decide +kernel
theorem dXT_meld_53 : decode cXT_meld 53 = .ok (.iload_n 2, 1) := by decide +kernel
theorem dXT_meld_54 : decode cXT_meld 54 = .ok (.iconst 1, 1) := by decide +kernel
theorem dXT_meld_55 : decode cXT_meld 55 = .ok (.isub, 1) := by decide +kernel
theorem dXT_meld_56 : decode cXT_meld 56 = .ok (.iload_n 3, 1) := by decide +kernel
theorem dXT_meld_57 : decode cXT_meld 57 = .ok (.aload 4, 2) := by decide +kernel
theorem dXT_meld_59 : decode cXT_meld 59 = .ok (.aload 5, 2) := by decide +kernel
theorem dXT_meld_61 : decode cXT_meld 61 = .ok (.invokestatic 43, 3) := by decide +kernel
theorem dXT_meld_64 : decode cXT_meld 64 = .ok (.astore 6, 2) := by decide +kernel
theorem dXT_meld_66 : decode cXT_meld 66 = .ok (.aload_n 1, 1) := by decide +kernel
theorem dXT_meld_67 : decode cXT_meld 67 = .ok (.invokestatic 128, 3) := by decide +kernel
theorem dXT_meld_70 : decode cXT_meld 70 = .ok (.astore 7, 2) := by decide +kernel
theorem dXT_meld_72 : decode cXT_meld 72 = .ok (.aload 6, 2) := by decide +kernel
theorem dXT_meld_74 : decode cXT_meld 74 = .ok (.ifnonnull 10, 3) := by decide +kernel
theorem dXT_meld_77 : decode cXT_meld 77 = .ok (.aload 7, 2) := by decide +kernel
theorem dXT_meld_79 : decode cXT_meld 79 = .ok (.ifnonnull 5, 3) := by decide +kernel
theorem dXT_meld_82 : decode cXT_meld 82 = .ok (.aconst_null, 1) := by decide +kernel
theorem dXT_meld_83 : decode cXT_meld 83 = .ok (.areturn, 1) := by decide +kernel
theorem dXT_meld_84 : decode cXT_meld 84 = .ok (.new 9, 3) := by decide +kernel
theorem dXT_meld_87 : decode cXT_meld 87 = .ok (.dup, 1) := by decide +kernel
theorem dXT_meld_88 : decode cXT_meld 88 = .ok (.iload_n 2, 1) := by decide +kernel
theorem dXT_meld_89 : decode cXT_meld 89 = .ok (.iload_n 3, 1) := by decide +kernel
theorem dXT_meld_90 : decode cXT_meld 90 = .ok (.aload 6, 2) := by decide +kernel
theorem dXT_meld_92 : decode cXT_meld 92 = .ok (.aload 7, 2) := by decide +kernel
theorem dXT_meld_94 : decode cXT_meld 94 = .ok (.invokespecial 131, 3) := by decide +kernel
theorem dXT_meld_97 : decode cXT_meld 97 = .ok (.astore 8, 2) := by decide +kernel
theorem dXT_meld_99 : decode cXT_meld 99 = .ok (.aload 5, 2) := by decide +kernel
theorem dXT_meld_101 : decode cXT_meld 101 = .ok (.aload 8, 2) := by decide +kernel
theorem dXT_meld_103 : decode cXT_meld 103 = .ok (.invokevirtual 39, 3) := by decide +kernel
theorem dXT_meld_106 : decode cXT_meld 106 = .ok (.pop, 1) := by decide +kernel
theorem dXT_meld_107 : decode cXT_meld 107 = .ok (.aload 8, 2) := by decide +kernel
theorem dXT_meld_109 : decode cXT_meld 109 = .ok (.areturn, 1) := by decide +kernel
theorem dXT_goesHigh_0 : decode cXT_goesHigh 0 = .ok (.iload_n 0, 1) := by decide +kernel
theorem dXT_goesHigh_1 : decode cXT_goesHigh 1 = .ok (.iload_n 1, 1) := by decide +kernel
theorem dXT_goesHigh_2 : decode cXT_goesHigh 2 = .ok (.iconst 1, 1) := by decide +kernel
theorem dXT_goesHigh_3 : decode cXT_goesHigh 3 = .ok (.isub, 1) := by decide +kernel
theorem dXT_goesHigh_4 : decode cXT_goesHigh 4 = .ok (.ishr, 1) := by decide +kernel
theorem dXT_goesHigh_5 : decode cXT_goesHigh 5 = .ok (.iconst 1, 1) := by decide +kernel
theorem dXT_goesHigh_6 : decode cXT_goesHigh 6 = .ok (.iand, 1) := by decide +kernel
theorem dXT_goesHigh_7 : decode cXT_goesHigh 7 = .ok (.iconst 1, 1) := by decide +kernel
theorem dXT_goesHigh_8 : decode cXT_goesHigh 8 = .ok (.if_icmp .ne 7, 3) := by decide +kernel
theorem dXT_goesHigh_11 : decode cXT_goesHigh 11 = .ok (.iconst 1, 1) := by decide +kernel
theorem dXT_goesHigh_12 : decode cXT_goesHigh 12 = .ok (.goto 4, 3) := by decide +kernel
theorem dXT_goesHigh_15 : decode cXT_goesHigh 15 = .ok (.iconst 0, 1) := by decide +kernel
theorem dXT_goesHigh_16 : decode cXT_goesHigh 16 = .ok (.ireturn, 1) := by decide +kernel
theorem dXT_lowOf_0 : decode cXT_lowOf 0 = .ok (.aload_n 0, 1) := by decide +kernel
theorem dXT_lowOf_1 : decode cXT_lowOf 1 = .ok (.ifnonnull 7, 3) := by decide +kernel
theorem dXT_lowOf_4 : decode cXT_lowOf 4 = .ok (.aconst_null, 1) := by decide +kernel
theorem dXT_lowOf_5 : decode cXT_lowOf 5 = .ok (.goto 7, 3) := by decide +kernel
theorem dXT_lowOf_8 : decode cXT_lowOf 8 = .ok (.aload_n 0, 1) := by decide +kernel
theorem dXT_lowOf_9 : decode cXT_lowOf 9 = .ok (.getfield 138, 3) := by decide +kernel
theorem dXT_lowOf_12 : decode cXT_lowOf 12 = .ok (.areturn, 1) := by decide +kernel
theorem dXT_highOf_0 : decode cXT_highOf 0 = .ok (.aload_n 0, 1) := by decide +kernel
theorem dXT_highOf_1 : decode cXT_highOf 1 = .ok (.ifnonnull 7, 3) := by decide +kernel
theorem dXT_highOf_4 : decode cXT_highOf 4 = .ok (.aconst_null, 1) := by decide +kernel
theorem dXT_highOf_5 : decode cXT_highOf 5 = .ok (.goto 7, 3) := by decide +kernel
theorem dXT_highOf_8 : decode cXT_highOf 8 = .ok (.aload_n 0, 1) := by decide +kernel
theorem dXT_highOf_9 : decode cXT_highOf 9 = .ok (.getfield 142, 3) := by decide +kernel
theorem dXT_highOf_12 : decode cXT_highOf 12 = .ok (.areturn, 1) := by decide +kernel
theorem dXN_init_2_0 : decode cXN_init_2 0 = .ok (.aload_n 0, 1) := by decide +kernel
theorem dXN_init_2_1 : decode cXN_init_2 1 = .ok (.invokespecial 1, 3) := by decide +kernel
theorem dXN_init_2_4 : decode cXN_init_2 4 = .ok (.aload_n 0, 1) := by decide +kernel
theorem dXN_init_2_5 : decode cXN_init_2 5 = .ok (.iload_n 1, 1) := by decide +kernel
theorem dXN_init_2_6 : decode cXN_init_2 6 = .ok (.putfield 7, 3) := by decide +kernel
theorem dXN_init_2_9 : decode cXN_init_2 9 = .ok (.aload_n 0, 1) := by decide +kernel
theorem dXN_init_2_10 : decode cXN_init_2 10 = .ok (.iload_n 2, 1) := by decide +kernel
theorem dXN_init_2_11 : decode cXN_init_2 11 = .ok (.iload_n 1, 1) := by decide +kernel
theorem dXN_init_2_12 : decode cXN_init_2 12 = .ok (.ishr, 1) := by decide +kernel
theorem dXN_init_2_13 : decode cXN_init_2 13 = .ok (.iload_n 1, 1) := by decide +kernel
theorem dXN_init_2_14 : decode cXN_init_2 14 = .ok (.ishl, 1) := by decide +kernel
theorem dXN_init_2_15 : decode cXN_init_2 15 = .ok (.putfield 13, 3) := by decide +kernel
theorem dXN_init_2_18 : decode cXN_init_2 18 = .ok (.aload_n 0, 1) := by decide +kernel
theorem dXN_init_2_19 : decode cXN_init_2 19 = .ok (.aload_n 3, 1) := by decide +kernel
theorem dXN_init_2_20 : decode cXN_init_2 20 = .ok (.putfield 16, 3) := by decide +kernel
theorem dXN_init_2_23 : decode cXN_init_2 23 = .ok (.aload_n 0, 1) := by decide +kernel
theorem dXN_init_2_24 : decode cXN_init_2 24 = .ok (.aload 4, 2) := by decide +kernel
theorem dXN_init_2_26 : decode cXN_init_2 26 = .ok (.putfield 20, 3) := by decide +kernel
theorem dXN_init_2_29 : decode cXN_init_2 29 = .ok (.aload_n 0, 1) := by decide +kernel
theorem dXN_init_2_30 : decode cXN_init_2 30 = .ok (.iconst 0, 1) := by decide +kernel
theorem dXN_init_2_31 : decode cXN_init_2 31 = .ok (.putfield 23, 3) := by decide +kernel
theorem dXN_init_2_34 : decode cXN_init_2 34 = .ok (.aload_n 0, 1) := by decide +kernel
theorem dXN_init_2_35 : decode cXN_init_2 35 = .ok (.aload_n 3, 1) := by decide +kernel
theorem dXN_init_2_36 : decode cXN_init_2 36 = .ok (.invokestatic 33, 3) := by decide +kernel
theorem dXN_init_2_39 : decode cXN_init_2 39 = .ok (.aload 4, 2) := by decide +kernel
theorem dXN_init_2_41 : decode cXN_init_2 41 = .ok (.invokestatic 33, 3) := by decide +kernel
theorem dXN_init_2_44 : decode cXN_init_2 44 = .ok (.iadd, 1) := by decide +kernel
theorem dXN_init_2_45 : decode cXN_init_2 45 = .ok (.putfield 26, 3) := by decide +kernel
theorem dXN_init_2_48 : decode cXN_init_2 48 = .ok (.aload_n 0, 1) := by decide +kernel
theorem dXN_init_2_49 : decode cXN_init_2 49 = .ok (.aload_n 3, 1) := by decide +kernel
theorem dXN_init_2_50 : decode cXN_init_2 50 = .ok (.invokestatic 39, 3) := by decide +kernel
theorem dXN_init_2_53 : decode cXN_init_2 53 = .ok (.aload 4, 2) := by decide +kernel
theorem dXN_init_2_55 : decode cXN_init_2 55 = .ok (.invokestatic 39, 3) := by decide +kernel
theorem dXN_init_2_58 : decode cXN_init_2 58 = .ok (.ladd, 1) := by decide +kernel
theorem dXN_init_2_59 : decode cXN_init_2 59 = .ok (.putfield 29, 3) := by decide +kernel
theorem dXN_init_2_62 : decode cXN_init_2 62 = .ok (.return_, 1) := by decide +kernel
theorem dXT_keep_0 : decode cXT_keep 0 = .ok (.aload_n 0, 1) := by decide +kernel
theorem dXT_keep_1 : decode cXT_keep 1 = .ok (.getfield 22, 3) := by decide +kernel
theorem dXT_keep_4 : decode cXT_keep 4 = .ok (.istore_n 2, 1) := by decide +kernel
theorem dXT_keep_5 : decode cXT_keep 5 = .ok (.aload_n 0, 1) := by decide +kernel
theorem dXT_keep_6 : decode cXT_keep 6 = .ok (.getfield 11, 3) := by decide +kernel
theorem dXT_keep_9 : decode cXT_keep 9 = .ok (.iload_n 2, 1) := by decide +kernel
theorem dXT_keep_10 : decode cXT_keep 10 = .ok (.aload_n 1, 1) := by decide +kernel
theorem dXT_keep_11 : decode cXT_keep 11 = .ok (.aastore, 1) := by decide +kernel
theorem dXT_keep_12 : decode cXT_keep 12 = .ok (.aload_n 0, 1) := by decide +kernel
theorem dXT_keep_13 : decode cXT_keep 13 = .ok (.dup, 1) := by decide +kernel
theorem dXT_keep_14 : decode cXT_keep 14 = .ok (.getfield 22, 3) := by decide +kernel
theorem dXT_keep_17 : decode cXT_keep 17 = .ok (.iconst 1, 1) := by decide +kernel
theorem dXT_keep_18 : decode cXT_keep 18 = .ok (.iadd, 1) := by decide +kernel
theorem dXT_keep_19 : decode cXT_keep 19 = .ok (.putfield 22, 3) := by decide +kernel
theorem dXT_keep_22 : decode cXT_keep 22 = .ok (.iload_n 2, 1) := by decide +kernel
theorem dXT_keep_23 : decode cXT_keep 23 = .ok (.ireturn, 1) := by decide +kernel
theorem dXT_remove_0 : decode cXT_remove 0 = .ok (.aload_n 0, 1) := by decide +kernel
theorem dXT_remove_1 : decode cXT_remove 1 = .ok (.iload_n 1, 1) := by decide +kernel
theorem dXT_remove_2 : decode cXT_remove 2 = .ok (.invokevirtual 26, 3) := by decide +kernel
theorem dXT_remove_5 : decode cXT_remove 5 = .ok (.iload_n 2, 1) := by decide +kernel
theorem dXT_remove_6 : decode cXT_remove 6 = .ok (.invokestatic 30, 3) := by decide +kernel
theorem dXT_remove_9 : decode cXT_remove 9 = .ok (.aload_n 0, 1) := by decide +kernel
theorem dXT_remove_10 : decode cXT_remove 10 = .ok (.invokevirtual 33, 3) := by decide +kernel
theorem dXT_remove_13 : decode cXT_remove 13 = .ok (.aload_n 0, 1) := by decide +kernel
theorem dXT_remove_14 : decode cXT_remove 14 = .ok (.getfield 11, 3) := by decide +kernel
theorem dXT_remove_17 : decode cXT_remove 17 = .ok (.iload_n 1, 1) := by decide +kernel
theorem dXT_remove_18 : decode cXT_remove 18 = .ok (.aaload, 1) := by decide +kernel
theorem dXT_remove_19 : decode cXT_remove 19 = .ok (.iload_n 2, 1) := by decide +kernel
theorem dXT_remove_20 : decode cXT_remove 20 = .ok (.invokestatic 51, 3) := by decide +kernel
theorem dXT_remove_23 : decode cXT_remove 23 = .ok (.ifnonnull 13, 3) := by decide +kernel
theorem dXT_remove_26 : decode cXT_remove 26 = .ok (.new 55, 3) := by decide +kernel
theorem dXT_remove_29 : decode cXT_remove 29 = .ok (.dup, 1) := by decide +kernel
theorem dXT_remove_30 : decode cXT_remove 30 = .ok (.ldc 57, 2) := by decide +kernel
theorem dXT_remove_32 : decode cXT_remove 32 = .ok (.invokespecial 59, 3) := by decide +kernel
theorem dXT_remove_35 : decode cXT_remove 35 = .ok (.athrow, 1) := by decide +kernel
theorem dXT_remove_36 : decode cXT_remove 36 = .ok (.aload_n 0, 1) := by decide +kernel
theorem dXT_remove_37 : decode cXT_remove 37 = .ok (.aload_n 0, 1) := by decide +kernel
theorem dXT_remove_38 : decode cXT_remove 38 = .ok (.getfield 11, 3) := by decide +kernel
theorem dXT_remove_41 : decode cXT_remove 41 = .ok (.iload_n 1, 1) := by decide +kernel
theorem dXT_remove_42 : decode cXT_remove 42 = .ok (.aaload, 1) := by decide +kernel
theorem dXT_remove_43 : decode cXT_remove 43 = .ok (.aload_n 0, 1) := by decide +kernel
theorem dXT_remove_44 : decode cXT_remove 44 = .ok (.getfield 11, 3) := by decide +kernel
theorem dXT_remove_47 : decode cXT_remove 47 = .ok (.iload_n 1, 1) := by decide +kernel
theorem dXT_remove_48 : decode cXT_remove 48 = .ok (.aaload, 1) := by decide +kernel
theorem dXT_remove_49 : decode cXT_remove 49 = .ok (.bipush 8, 2) := by decide +kernel
theorem dXT_remove_51 : decode cXT_remove 51 = .ok (.iload_n 2, 1) := by decide +kernel
theorem dXT_remove_52 : decode cXT_remove 52 = .ok (.aconst_null, 1) := by decide +kernel
theorem dXT_remove_53 : decode cXT_remove 53 = .ok (.aload_n 0, 1) := by decide +kernel
theorem dXT_remove_54 : decode cXT_remove 54 = .ok (.getfield 18, 3) := by decide +kernel
theorem dXT_remove_57 : decode cXT_remove 57 = .ok (.invokestatic 43, 3) := by decide +kernel
theorem dXT_remove_60 : decode cXT_remove 60 = .ok (.invokevirtual 47, 3) := by decide +kernel
theorem dXT_remove_63 : decode cXT_remove 63 = .ok (.ireturn, 1) := by decide +kernel
theorem dXT_leafAt_0 : decode cXT_leafAt 0 = .ok (.aload_n 0, 1) := by decide +kernel
theorem dXT_leafAt_1 : decode cXT_leafAt 1 = .ok (.astore_n 2, 1) := by decide +kernel
theorem dXT_leafAt_2 : decode cXT_leafAt 2 = .ok (.bipush 8, 2) := by decide +kernel
theorem dXT_leafAt_4 : decode cXT_leafAt 4 = .ok (.istore_n 3, 1) := by decide +kernel
theorem dXT_leafAt_5 : decode cXT_leafAt 5 = .ok (.iload_n 3, 1) := by decide +kernel
theorem dXT_leafAt_6 : decode cXT_leafAt 6 = .ok (.ifCond .le 29, 3) := by decide +kernel
theorem dXT_leafAt_9 : decode cXT_leafAt 9 = .ok (.iload_n 1, 1) := by decide +kernel
theorem dXT_leafAt_10 : decode cXT_leafAt 10 = .ok (.iload_n 3, 1) := by decide +kernel
theorem dXT_leafAt_11 : decode cXT_leafAt 11 = .ok (.invokestatic 120, 3) := by decide +kernel
theorem dXT_leafAt_14 : decode cXT_leafAt 14 = .ok (.ifCond .eq 10, 3) := by decide +kernel
theorem dXT_leafAt_17 : decode cXT_leafAt 17 = .ok (.aload_n 2, 1) := by decide +kernel
theorem dXT_leafAt_18 : decode cXT_leafAt 18 = .ok (.invokestatic 128, 3) := by decide +kernel
theorem dXT_leafAt_21 : decode cXT_leafAt 21 = .ok (.goto 7, 3) := by decide +kernel
theorem dXT_leafAt_24 : decode cXT_leafAt 24 = .ok (.aload_n 2, 1) := by decide +kernel
theorem dXT_leafAt_25 : decode cXT_leafAt 25 = .ok (.invokestatic 124, 3) := by decide +kernel
theorem dXT_leafAt_28 : decode cXT_leafAt 28 = .ok (.astore_n 2, 1) := by decide +kernel
theorem dXT_leafAt_29 : decode cXT_leafAt 29 = .ok (.iinc 3 (-1), 3) := by decide +kernel
theorem dXT_leafAt_32 : decode cXT_leafAt 32 = .ok (.goto (-27), 3) := by decide +kernel
theorem dXT_leafAt_35 : decode cXT_leafAt 35 = .ok (.aload_n 2, 1) := by decide +kernel
theorem dXT_leafAt_36 : decode cXT_leafAt 36 = .ok (.areturn, 1) := by decide +kernel
theorem dXT_join_0 : decode cXT_join 0 = .ok (.aload_n 0, 1) := by decide +kernel
theorem dXT_join_1 : decode cXT_join 1 = .ok (.iload_n 1, 1) := by decide +kernel
theorem dXT_join_2 : decode cXT_join 2 = .ok (.invokevirtual 26, 3) := by decide +kernel
theorem dXT_join_5 : decode cXT_join 5 = .ok (.aload_n 0, 1) := by decide +kernel
theorem dXT_join_6 : decode cXT_join 6 = .ok (.iload_n 2, 1) := by decide +kernel
theorem dXT_join_7 : decode cXT_join 7 = .ok (.invokevirtual 26, 3) := by decide +kernel
theorem dXT_join_10 : decode cXT_join 10 = .ok (.iload_n 3, 1) := by decide +kernel
theorem dXT_join_11 : decode cXT_join 11 = .ok (.ifCond .lt 10, 3) := by decide +kernel
theorem dXT_join_14 : decode cXT_join 14 = .ok (.iload_n 3, 1) := by decide +kernel
theorem dXT_join_15 : decode cXT_join 15 = .ok (.sipush 256, 3) := by decide +kernel
theorem dXT_join_18 : decode cXT_join 18 = .ok (.if_icmp .le 13, 3) := by decide +kernel
theorem dXT_join_21 : decode cXT_join 21 = .ok (.new 62, 3) := by decide +kernel
theorem dXT_join_24 : decode cXT_join 24 = .ok (.dup, 1) := by decide +kernel
theorem dXT_join_25 : decode cXT_join 25 = .ok (.ldc 64, 2) := by decide +kernel
theorem dXT_join_27 : decode cXT_join 27 = .ok (.invokespecial 66, 3) := by decide +kernel
theorem dXT_join_30 : decode cXT_join 30 = .ok (.athrow, 1) := by decide +kernel
theorem dXT_join_31 : decode cXT_join 31 = .ok (.aload_n 0, 1) := by decide +kernel
theorem dXT_join_32 : decode cXT_join 32 = .ok (.invokevirtual 33, 3) := by decide +kernel
theorem dXT_join_35 : decode cXT_join 35 = .ok (.iload_n 3, 1) := by decide +kernel
theorem dXT_join_36 : decode cXT_join 36 = .ok (.sipush 256, 3) := by decide +kernel
theorem dXT_join_39 : decode cXT_join 39 = .ok (.if_icmp .ne 14, 3) := by decide +kernel
theorem dXT_join_42 : decode cXT_join 42 = .ok (.aload_n 0, 1) := by decide +kernel
theorem dXT_join_43 : decode cXT_join 43 = .ok (.aload_n 0, 1) := by decide +kernel
theorem dXT_join_44 : decode cXT_join 44 = .ok (.getfield 11, 3) := by decide +kernel
theorem dXT_join_47 : decode cXT_join 47 = .ok (.iload_n 1, 1) := by decide +kernel
theorem dXT_join_48 : decode cXT_join 48 = .ok (.aaload, 1) := by decide +kernel
theorem dXT_join_49 : decode cXT_join 49 = .ok (.invokevirtual 47, 3) := by decide +kernel
theorem dXT_join_52 : decode cXT_join 52 = .ok (.ireturn, 1) := by decide +kernel
theorem dXT_join_53 : decode cXT_join 53 = .ok (.aload_n 0, 1) := by decide +kernel
theorem dXT_join_54 : decode cXT_join 54 = .ok (.aload_n 0, 1) := by decide +kernel
theorem dXT_join_55 : decode cXT_join 55 = .ok (.getfield 11, 3) := by decide +kernel
theorem dXT_join_58 : decode cXT_join 58 = .ok (.iload_n 1, 1) := by decide +kernel
theorem dXT_join_59 : decode cXT_join 59 = .ok (.aaload, 1) := by decide +kernel
theorem dXT_join_60 : decode cXT_join 60 = .ok (.aload_n 0, 1) := by decide +kernel
theorem dXT_join_61 : decode cXT_join 61 = .ok (.getfield 11, 3) := by decide +kernel
theorem dXT_join_64 : decode cXT_join 64 = .ok (.iload_n 2, 1) := by decide +kernel
theorem dXT_join_65 : decode cXT_join 65 = .ok (.aaload, 1) := by decide +kernel
theorem dXT_join_66 : decode cXT_join 66 = .ok (.bipush 8, 2) := by decide +kernel
theorem dXT_join_68 : decode cXT_join 68 = .ok (.iload_n 3, 1) := by decide +kernel
theorem dXT_join_69 : decode cXT_join 69 = .ok (.aload_n 0, 1) := by decide +kernel
theorem dXT_join_70 : decode cXT_join 70 = .ok (.getfield 11, 3) := by decide +kernel
theorem dXT_join_73 : decode cXT_join 73 = .ok (.iload_n 2, 1) := by decide +kernel
theorem dXT_join_74 : decode cXT_join 74 = .ok (.aaload, 1) := by decide +kernel
theorem dXT_join_75 : decode cXT_join 75 = .ok (.iload_n 3, 1) := by decide +kernel
theorem dXT_join_76 : decode cXT_join 76 = .ok (.invokestatic 51, 3) := by decide +kernel
theorem dXT_join_79 : decode cXT_join 79 = .ok (.aload_n 0, 1) := by decide +kernel
theorem dXT_join_80 : decode cXT_join 80 = .ok (.getfield 18, 3) := by decide +kernel
theorem dXT_join_83 : decode cXT_join 83 = .ok (.invokestatic 43, 3) := by decide +kernel
theorem dXT_join_86 : decode cXT_join 86 = .ok (.invokevirtual 47, 3) := by decide +kernel
theorem dXT_join_89 : decode cXT_join 89 = .ok (.ireturn, 1) := by decide +kernel
theorem dXT_get_0 : decode cXT_get 0 = .ok (.aload_n 0, 1) := by decide +kernel
theorem dXT_get_1 : decode cXT_get 1 = .ok (.iload_n 1, 1) := by decide +kernel
theorem dXT_get_2 : decode cXT_get 2 = .ok (.invokevirtual 26, 3) := by decide +kernel
theorem dXT_get_5 : decode cXT_get 5 = .ok (.iload_n 2, 1) := by decide +kernel
theorem dXT_get_6 : decode cXT_get 6 = .ok (.invokestatic 30, 3) := by decide +kernel
theorem dXT_get_9 : decode cXT_get 9 = .ok (.aload_n 0, 1) := by decide +kernel
theorem dXT_get_10 : decode cXT_get 10 = .ok (.getfield 11, 3) := by decide +kernel
theorem dXT_get_13 : decode cXT_get 13 = .ok (.iload_n 1, 1) := by decide +kernel
theorem dXT_get_14 : decode cXT_get 14 = .ok (.aaload, 1) := by decide +kernel
theorem dXT_get_15 : decode cXT_get 15 = .ok (.iload_n 2, 1) := by decide +kernel
theorem dXT_get_16 : decode cXT_get 16 = .ok (.invokestatic 51, 3) := by decide +kernel
theorem dXT_get_19 : decode cXT_get 19 = .ok (.astore_n 3, 1) := by decide +kernel
theorem dXT_get_20 : decode cXT_get 20 = .ok (.aload_n 3, 1) := by decide +kernel
theorem dXT_get_21 : decode cXT_get 21 = .ok (.ifnonnull 13, 3) := by decide +kernel
theorem dXT_get_24 : decode cXT_get 24 = .ok (.new 55, 3) := by decide +kernel
theorem dXT_get_27 : decode cXT_get 27 = .ok (.dup, 1) := by decide +kernel
theorem dXT_get_28 : decode cXT_get 28 = .ok (.ldc 57, 2) := by decide +kernel
theorem dXT_get_30 : decode cXT_get 30 = .ok (.invokespecial 59, 3) := by decide +kernel
theorem dXT_get_33 : decode cXT_get 33 = .ok (.athrow, 1) := by decide +kernel
theorem dXT_get_34 : decode cXT_get 34 = .ok (.aload_n 3, 1) := by decide +kernel
theorem dXT_get_35 : decode cXT_get 35 = .ok (.getfield 67, 3) := by decide +kernel
theorem dXT_get_38 : decode cXT_get 38 = .ok (.ireturn, 1) := by decide +kernel
theorem dXT_select_0 : decode cXT_select 0 = .ok (.aload_n 0, 1) := by decide +kernel
theorem dXT_select_1 : decode cXT_select 1 = .ok (.iload_n 1, 1) := by decide +kernel
theorem dXT_select_2 : decode cXT_select 2 = .ok (.invokevirtual 26, 3) := by decide +kernel
theorem dXT_select_5 : decode cXT_select 5 = .ok (.iload_n 2, 1) := by decide +kernel
theorem dXT_select_6 : decode cXT_select 6 = .ok (.ifCond .lt 16, 3) := by decide +kernel
theorem dXT_select_9 : decode cXT_select 9 = .ok (.iload_n 2, 1) := by decide +kernel
theorem dXT_select_10 : decode cXT_select 10 = .ok (.aload_n 0, 1) := by decide +kernel
theorem dXT_select_11 : decode cXT_select 11 = .ok (.getfield 11, 3) := by decide +kernel
theorem dXT_select_14 : decode cXT_select 14 = .ok (.iload_n 1, 1) := by decide +kernel
theorem dXT_select_15 : decode cXT_select 15 = .ok (.aaload, 1) := by decide +kernel
theorem dXT_select_16 : decode cXT_select 16 = .ok (.invokestatic 70, 3) := by decide +kernel
theorem dXT_select_19 : decode cXT_select 19 = .ok (.if_icmp .lt 13, 3) := by decide +kernel
theorem dXT_select_22 : decode cXT_select 22 = .ok (.new 62, 3) := by decide +kernel
theorem dXT_select_25 : decode cXT_select 25 = .ok (.dup, 1) := by decide +kernel
theorem dXT_select_26 : decode cXT_select 26 = .ok (.ldc 73, 2) := by decide +kernel
theorem dXT_select_28 : decode cXT_select 28 = .ok (.invokespecial 66, 3) := by decide +kernel
theorem dXT_select_31 : decode cXT_select 31 = .ok (.athrow, 1) := by decide +kernel
theorem dXT_select_32 : decode cXT_select 32 = .ok (.aload_n 0, 1) := by decide +kernel
theorem dXT_select_33 : decode cXT_select 33 = .ok (.getfield 11, 3) := by decide +kernel
theorem dXT_select_36 : decode cXT_select 36 = .ok (.iload_n 1, 1) := by decide +kernel
theorem dXT_select_37 : decode cXT_select 37 = .ok (.aaload, 1) := by decide +kernel
theorem dXT_select_38 : decode cXT_select 38 = .ok (.iload_n 2, 1) := by decide +kernel
theorem dXT_select_39 : decode cXT_select 39 = .ok (.invokestatic 75, 3) := by decide +kernel
theorem dXT_select_42 : decode cXT_select 42 = .ok (.ireturn, 1) := by decide +kernel
theorem dXT_keyAt_0 : decode cXT_keyAt 0 = .ok (.aload_n 0, 1) := by decide +kernel
theorem dXT_keyAt_1 : decode cXT_keyAt 1 = .ok (.astore_n 2, 1) := by decide +kernel
theorem dXT_keyAt_2 : decode cXT_keyAt 2 = .ok (.iconst 0, 1) := by decide +kernel
theorem dXT_keyAt_3 : decode cXT_keyAt 3 = .ok (.istore_n 3, 1) := by decide +kernel
theorem dXT_keyAt_4 : decode cXT_keyAt 4 = .ok (.iload_n 1, 1) := by decide +kernel
theorem dXT_keyAt_5 : decode cXT_keyAt 5 = .ok (.istore 4, 2) := by decide +kernel
theorem dXT_keyAt_7 : decode cXT_keyAt 7 = .ok (.bipush 8, 2) := by decide +kernel
theorem dXT_keyAt_9 : decode cXT_keyAt 9 = .ok (.istore 5, 2) := by decide +kernel
theorem dXT_keyAt_11 : decode cXT_keyAt 11 = .ok (.iload 5, 2) := by decide +kernel
theorem dXT_keyAt_13 : decode cXT_keyAt 13 = .ok (.ifCond .le 55, 3) := by decide +kernel
theorem dXT_keyAt_16 : decode cXT_keyAt 16 = .ok (.aload_n 2, 1) := by decide +kernel
theorem dXT_keyAt_17 : decode cXT_keyAt 17 = .ok (.invokestatic 124, 3) := by decide +kernel
theorem dXT_keyAt_20 : decode cXT_keyAt 20 = .ok (.invokestatic 70, 3) := by decide +kernel
theorem dXT_keyAt_23 : decode cXT_keyAt 23 = .ok (.istore 6, 2) := by decide +kernel
theorem dXT_keyAt_25 : decode cXT_keyAt 25 = .ok (.iload 4, 2) := by decide +kernel
theorem dXT_keyAt_27 : decode cXT_keyAt 27 = .ok (.iload 6, 2) := by decide +kernel
theorem dXT_keyAt_29 : decode cXT_keyAt 29 = .ok (.if_icmp .ge 15, 3) := by decide +kernel
theorem dXT_keyAt_32 : decode cXT_keyAt 32 = .ok (.iconst 2, 1) := by decide +kernel
theorem dXT_keyAt_33 : decode cXT_keyAt 33 = .ok (.iload_n 3, 1) := by decide +kernel
theorem dXT_keyAt_34 : decode cXT_keyAt 34 = .ok (.imul, 1) := by decide +kernel
theorem dXT_keyAt_35 : decode cXT_keyAt 35 = .ok (.istore_n 3, 1) := by decide +kernel
theorem dXT_keyAt_36 : decode cXT_keyAt 36 = .ok (.aload_n 2, 1) := by decide +kernel
theorem dXT_keyAt_37 : decode cXT_keyAt 37 = .ok (.invokestatic 124, 3) := by decide +kernel
theorem dXT_keyAt_40 : decode cXT_keyAt 40 = .ok (.astore_n 2, 1) := by decide +kernel
theorem dXT_keyAt_41 : decode cXT_keyAt 41 = .ok (.goto 21, 3) := by decide +kernel
theorem dXT_keyAt_44 : decode cXT_keyAt 44 = .ok (.iconst 2, 1) := by decide +kernel
theorem dXT_keyAt_45 : decode cXT_keyAt 45 = .ok (.iload_n 3, 1) := by decide +kernel
theorem dXT_keyAt_46 : decode cXT_keyAt 46 = .ok (.imul, 1) := by decide +kernel
theorem dXT_keyAt_47 : decode cXT_keyAt 47 = .ok (.iconst 1, 1) := by decide +kernel
theorem dXT_keyAt_48 : decode cXT_keyAt 48 = .ok (.iadd, 1) := by decide +kernel
theorem dXT_keyAt_49 : decode cXT_keyAt 49 = .ok (.istore_n 3, 1) := by decide +kernel
theorem dXT_keyAt_50 : decode cXT_keyAt 50 = .ok (.iload 4, 2) := by decide +kernel
theorem dXT_keyAt_52 : decode cXT_keyAt 52 = .ok (.iload 6, 2) := by decide +kernel
theorem dXT_keyAt_54 : decode cXT_keyAt 54 = .ok (.isub, 1) := by decide +kernel
theorem dXT_keyAt_55 : decode cXT_keyAt 55 = .ok (.istore 4, 2) := by decide +kernel
theorem dXT_keyAt_57 : decode cXT_keyAt 57 = .ok (.aload_n 2, 1) := by decide +kernel
theorem dXT_keyAt_58 : decode cXT_keyAt 58 = .ok (.invokestatic 128, 3) := by decide +kernel
theorem dXT_keyAt_61 : decode cXT_keyAt 61 = .ok (.astore_n 2, 1) := by decide +kernel
theorem dXT_keyAt_62 : decode cXT_keyAt 62 = .ok (.iinc 5 (-1), 3) := by decide +kernel
theorem dXT_keyAt_65 : decode cXT_keyAt 65 = .ok (.goto (-54), 3) := by decide +kernel
theorem dXT_keyAt_68 : decode cXT_keyAt 68 = .ok (.iload_n 3, 1) := by decide +kernel
theorem dXT_keyAt_69 : decode cXT_keyAt 69 = .ok (.ireturn, 1) := by decide +kernel
theorem dXT_many_0 : decode cXT_many 0 = .ok (.aload_n 0, 1) := by decide +kernel
theorem dXT_many_1 : decode cXT_many 1 = .ok (.iload_n 1, 1) := by decide +kernel
theorem dXT_many_2 : decode cXT_many 2 = .ok (.invokevirtual 26, 3) := by decide +kernel
theorem dXT_many_5 : decode cXT_many 5 = .ok (.iload_n 2, 1) := by decide +kernel
theorem dXT_many_6 : decode cXT_many 6 = .ok (.iload_n 3, 1) := by decide +kernel
theorem dXT_many_7 : decode cXT_many 7 = .ok (.if_icmp .ge 27, 3) := by decide +kernel
theorem dXT_many_10 : decode cXT_many 10 = .ok (.aload_n 0, 1) := by decide +kernel
theorem dXT_many_11 : decode cXT_many 11 = .ok (.getfield 11, 3) := by decide +kernel
theorem dXT_many_14 : decode cXT_many 14 = .ok (.iload_n 1, 1) := by decide +kernel
theorem dXT_many_15 : decode cXT_many 15 = .ok (.aaload, 1) := by decide +kernel
theorem dXT_many_16 : decode cXT_many 16 = .ok (.iload_n 3, 1) := by decide +kernel
theorem dXT_many_17 : decode cXT_many 17 = .ok (.invokestatic 79, 3) := by decide +kernel
theorem dXT_many_20 : decode cXT_many 20 = .ok (.aload_n 0, 1) := by decide +kernel
theorem dXT_many_21 : decode cXT_many 21 = .ok (.getfield 11, 3) := by decide +kernel
theorem dXT_many_24 : decode cXT_many 24 = .ok (.iload_n 1, 1) := by decide +kernel
theorem dXT_many_25 : decode cXT_many 25 = .ok (.aaload, 1) := by decide +kernel
theorem dXT_many_26 : decode cXT_many 26 = .ok (.iload_n 2, 1) := by decide +kernel
theorem dXT_many_27 : decode cXT_many 27 = .ok (.invokestatic 79, 3) := by decide +kernel
theorem dXT_many_30 : decode cXT_many 30 = .ok (.isub, 1) := by decide +kernel
theorem dXT_many_31 : decode cXT_many 31 = .ok (.goto 4, 3) := by decide +kernel
theorem dXT_many_34 : decode cXT_many 34 = .ok (.iconst 0, 1) := by decide +kernel
theorem dXT_many_35 : decode cXT_many 35 = .ok (.ireturn, 1) := by decide +kernel
theorem dXT_sizeBelow_0 : decode cXT_sizeBelow 0 = .ok (.iload_n 1, 1) := by decide +kernel
theorem dXT_sizeBelow_1 : decode cXT_sizeBelow 1 = .ok (.ifCond .gt 5, 3) := by decide +kernel
theorem dXT_sizeBelow_4 : decode cXT_sizeBelow 4 = .ok (.iconst 0, 1) := by decide +kernel
theorem dXT_sizeBelow_5 : decode cXT_sizeBelow 5 = .ok (.ireturn, 1) := by decide +kernel
theorem dXT_sizeBelow_6 : decode cXT_sizeBelow 6 = .ok (.iload_n 1, 1) := by decide +kernel
theorem dXT_sizeBelow_7 : decode cXT_sizeBelow 7 = .ok (.sipush 256, 3) := by decide +kernel
theorem dXT_sizeBelow_10 : decode cXT_sizeBelow 10 = .ok (.if_icmp .lt 8, 3) := by decide +kernel
theorem dXT_sizeBelow_13 : decode cXT_sizeBelow 13 = .ok (.aload_n 0, 1) := by decide +kernel
theorem dXT_sizeBelow_14 : decode cXT_sizeBelow 14 = .ok (.invokestatic 70, 3) := by decide +kernel
theorem dXT_sizeBelow_17 : decode cXT_sizeBelow 17 = .ok (.ireturn, 1) := by decide +kernel
theorem dXT_sizeBelow_18 : decode cXT_sizeBelow 18 = .ok (.aload_n 0, 1) := by decide +kernel
theorem dXT_sizeBelow_19 : decode cXT_sizeBelow 19 = .ok (.astore_n 2, 1) := by decide +kernel
theorem dXT_sizeBelow_20 : decode cXT_sizeBelow 20 = .ok (.iconst 0, 1) := by decide +kernel
theorem dXT_sizeBelow_21 : decode cXT_sizeBelow 21 = .ok (.istore_n 3, 1) := by decide +kernel
theorem dXT_sizeBelow_22 : decode cXT_sizeBelow 22 = .ok (.bipush 8, 2) := by decide +kernel
theorem dXT_sizeBelow_24 : decode cXT_sizeBelow 24 = .ok (.istore 4, 2) := by decide +kernel
theorem dXT_sizeBelow_26 : decode cXT_sizeBelow 26 = .ok (.iload 4, 2) := by decide +kernel
theorem dXT_sizeBelow_28 : decode cXT_sizeBelow 28 = .ok (.ifCond .le 41, 3) := by decide +kernel
theorem dXT_sizeBelow_31 : decode cXT_sizeBelow 31 = .ok (.iload_n 1, 1) := by decide +kernel
theorem dXT_sizeBelow_32 : decode cXT_sizeBelow 32 = .ok (.iload 4, 2) := by decide +kernel
theorem dXT_sizeBelow_34 : decode cXT_sizeBelow 34 = .ok (.invokestatic 120, 3) := by decide +kernel
theorem dXT_sizeBelow_37 : decode cXT_sizeBelow 37 = .ok (.ifCond .eq 21, 3) := by decide +kernel
theorem dXT_sizeBelow_40 : decode cXT_sizeBelow 40 = .ok (.iload_n 3, 1) := by decide +kernel
theorem dXT_sizeBelow_41 : decode cXT_sizeBelow 41 = .ok (.aload_n 2, 1) := by decide +kernel
theorem dXT_sizeBelow_42 : decode cXT_sizeBelow 42 = .ok (.invokestatic 124, 3) := by decide +kernel
theorem dXT_sizeBelow_45 : decode cXT_sizeBelow 45 = .ok (.invokestatic 70, 3) := by decide +kernel
theorem dXT_sizeBelow_48 : decode cXT_sizeBelow 48 = .ok (.iadd, 1) := by decide +kernel
theorem dXT_sizeBelow_49 : decode cXT_sizeBelow 49 = .ok (.istore_n 3, 1) := by decide +kernel
theorem dXT_sizeBelow_50 : decode cXT_sizeBelow 50 = .ok (.aload_n 2, 1) := by decide +kernel
theorem dXT_sizeBelow_51 : decode cXT_sizeBelow 51 = .ok (.invokestatic 128, 3) := by decide +kernel
theorem dXT_sizeBelow_54 : decode cXT_sizeBelow 54 = .ok (.astore_n 2, 1) := by decide +kernel
theorem dXT_sizeBelow_55 : decode cXT_sizeBelow 55 = .ok (.goto 8, 3) := by decide +kernel
theorem dXT_sizeBelow_58 : decode cXT_sizeBelow 58 = .ok (.aload_n 2, 1) := by decide +kernel
theorem dXT_sizeBelow_59 : decode cXT_sizeBelow 59 = .ok (.invokestatic 124, 3) := by decide +kernel
theorem dXT_sizeBelow_62 : decode cXT_sizeBelow 62 = .ok (.astore_n 2, 1) := by decide +kernel
theorem dXT_sizeBelow_63 : decode cXT_sizeBelow 63 = .ok (.iinc 4 (-1), 3) := by decide +kernel
theorem dXT_sizeBelow_66 : decode cXT_sizeBelow 66 = .ok (.goto (-40), 3) := by decide +kernel
theorem dXT_sizeBelow_69 : decode cXT_sizeBelow 69 = .ok (.iload_n 3, 1) := by decide +kernel
theorem dXT_sizeBelow_70 : decode cXT_sizeBelow 70 = .ok (.ireturn, 1) := by decide +kernel
theorem dXT_sum_0 : decode cXT_sum 0 = .ok (.aload_n 0, 1) := by decide +kernel
theorem dXT_sum_1 : decode cXT_sum 1 = .ok (.iload_n 1, 1) := by decide +kernel
theorem dXT_sum_2 : decode cXT_sum 2 = .ok (.invokevirtual 26, 3) := by decide +kernel
theorem dXT_sum_5 : decode cXT_sum 5 = .ok (.iload_n 2, 1) := by decide +kernel
theorem dXT_sum_6 : decode cXT_sum 6 = .ok (.iload_n 3, 1) := by decide +kernel
theorem dXT_sum_7 : decode cXT_sum 7 = .ok (.if_icmp .ge 27, 3) := by decide +kernel
theorem dXT_sum_10 : decode cXT_sum 10 = .ok (.aload_n 0, 1) := by decide +kernel
theorem dXT_sum_11 : decode cXT_sum 11 = .ok (.getfield 11, 3) := by decide +kernel
theorem dXT_sum_14 : decode cXT_sum 14 = .ok (.iload_n 1, 1) := by decide +kernel
theorem dXT_sum_15 : decode cXT_sum 15 = .ok (.aaload, 1) := by decide +kernel
theorem dXT_sum_16 : decode cXT_sum 16 = .ok (.iload_n 3, 1) := by decide +kernel
theorem dXT_sum_17 : decode cXT_sum 17 = .ok (.invokestatic 82, 3) := by decide +kernel
theorem dXT_sum_20 : decode cXT_sum 20 = .ok (.aload_n 0, 1) := by decide +kernel
theorem dXT_sum_21 : decode cXT_sum 21 = .ok (.getfield 11, 3) := by decide +kernel
theorem dXT_sum_24 : decode cXT_sum 24 = .ok (.iload_n 1, 1) := by decide +kernel
theorem dXT_sum_25 : decode cXT_sum 25 = .ok (.aaload, 1) := by decide +kernel
theorem dXT_sum_26 : decode cXT_sum 26 = .ok (.iload_n 2, 1) := by decide +kernel
theorem dXT_sum_27 : decode cXT_sum 27 = .ok (.invokestatic 82, 3) := by decide +kernel
theorem dXT_sum_30 : decode cXT_sum 30 = .ok (.lsub, 1) := by decide +kernel
theorem dXT_sum_31 : decode cXT_sum 31 = .ok (.goto 4, 3) := by decide +kernel
theorem dXT_sum_34 : decode cXT_sum 34 = .ok (.lconst 0, 1) := by decide +kernel
theorem dXT_sum_35 : decode cXT_sum 35 = .ok (.lreturn, 1) := by decide +kernel
theorem dXT_totalBelow_0 : decode cXT_totalBelow 0 = .ok (.iload_n 1, 1) := by decide +kernel
theorem dXT_totalBelow_1 : decode cXT_totalBelow 1 = .ok (.ifCond .gt 5, 3) := by decide +kernel
theorem dXT_totalBelow_4 : decode cXT_totalBelow 4 = .ok (.lconst 0, 1) := by decide +kernel
theorem dXT_totalBelow_5 : decode cXT_totalBelow 5 = .ok (.lreturn, 1) := by decide +kernel
theorem dXT_totalBelow_6 : decode cXT_totalBelow 6 = .ok (.iload_n 1, 1) := by decide +kernel
theorem dXT_totalBelow_7 : decode cXT_totalBelow 7 = .ok (.sipush 256, 3) := by decide +kernel
theorem dXT_totalBelow_10 : decode cXT_totalBelow 10 = .ok (.if_icmp .lt 8, 3) := by decide +kernel
theorem dXT_totalBelow_13 : decode cXT_totalBelow 13 = .ok (.aload_n 0, 1) := by decide +kernel
theorem dXT_totalBelow_14 : decode cXT_totalBelow 14 = .ok (.invokestatic 134, 3) := by decide +kernel
theorem dXT_totalBelow_17 : decode cXT_totalBelow 17 = .ok (.lreturn, 1) := by decide +kernel
theorem dXT_totalBelow_18 : decode cXT_totalBelow 18 = .ok (.aload_n 0, 1) := by decide +kernel
theorem dXT_totalBelow_19 : decode cXT_totalBelow 19 = .ok (.astore_n 2, 1) := by decide +kernel
theorem dXT_totalBelow_20 : decode cXT_totalBelow 20 = .ok (.lconst 0, 1) := by decide +kernel
theorem dXT_totalBelow_21 : decode cXT_totalBelow 21 = .ok (.lstore_n 3, 1) := by decide +kernel
theorem dXT_totalBelow_22 : decode cXT_totalBelow 22 = .ok (.bipush 8, 2) := by decide +kernel
theorem dXT_totalBelow_24 : decode cXT_totalBelow 24 = .ok (.istore 5, 2) := by decide +kernel
theorem dXT_totalBelow_26 : decode cXT_totalBelow 26 = .ok (.iload 5, 2) := by decide +kernel
theorem dXT_totalBelow_28 : decode cXT_totalBelow 28 = .ok (.ifCond .le 41, 3) := by decide +kernel
theorem dXT_totalBelow_31 : decode cXT_totalBelow 31 = .ok (.iload_n 1, 1) := by decide +kernel
theorem dXT_totalBelow_32 : decode cXT_totalBelow 32 = .ok (.iload 5, 2) := by decide +kernel
theorem dXT_totalBelow_34 : decode cXT_totalBelow 34 = .ok (.invokestatic 120, 3) := by decide +kernel
theorem dXT_totalBelow_37 : decode cXT_totalBelow 37 = .ok (.ifCond .eq 21, 3) := by decide +kernel
theorem dXT_totalBelow_40 : decode cXT_totalBelow 40 = .ok (.lload_n 3, 1) := by decide +kernel
theorem dXT_totalBelow_41 : decode cXT_totalBelow 41 = .ok (.aload_n 2, 1) := by decide +kernel
theorem dXT_totalBelow_42 : decode cXT_totalBelow 42 = .ok (.invokestatic 124, 3) := by decide +kernel
theorem dXT_totalBelow_45 : decode cXT_totalBelow 45 = .ok (.invokestatic 134, 3) := by decide +kernel
theorem dXT_totalBelow_48 : decode cXT_totalBelow 48 = .ok (.ladd, 1) := by decide +kernel
theorem dXT_totalBelow_49 : decode cXT_totalBelow 49 = .ok (.lstore_n 3, 1) := by decide +kernel
theorem dXT_totalBelow_50 : decode cXT_totalBelow 50 = .ok (.aload_n 2, 1) := by decide +kernel
theorem dXT_totalBelow_51 : decode cXT_totalBelow 51 = .ok (.invokestatic 128, 3) := by decide +kernel
theorem dXT_totalBelow_54 : decode cXT_totalBelow 54 = .ok (.astore_n 2, 1) := by decide +kernel
theorem dXT_totalBelow_55 : decode cXT_totalBelow 55 = .ok (.goto 8, 3) := by decide +kernel
theorem dXT_totalBelow_58 : decode cXT_totalBelow 58 = .ok (.aload_n 2, 1) := by decide +kernel
theorem dXT_totalBelow_59 : decode cXT_totalBelow 59 = .ok (.invokestatic 124, 3) := by decide +kernel
theorem dXT_totalBelow_62 : decode cXT_totalBelow 62 = .ok (.astore_n 2, 1) := by decide +kernel
theorem dXT_totalBelow_63 : decode cXT_totalBelow 63 = .ok (.iinc 5 (-1), 3) := by decide +kernel
theorem dXT_totalBelow_66 : decode cXT_totalBelow 66 = .ok (.goto (-40), 3) := by decide +kernel
theorem dXT_totalBelow_69 : decode cXT_totalBelow 69 = .ok (.lload_n 3, 1) := by decide +kernel
theorem dXT_totalBelow_70 : decode cXT_totalBelow 70 = .ok (.lreturn, 1) := by decide +kernel
theorem dXT_differ_0 : decode cXT_differ 0 = .ok (.aload_n 0, 1) := by decide +kernel
theorem dXT_differ_1 : decode cXT_differ 1 = .ok (.iload_n 1, 1) := by decide +kernel
theorem dXT_differ_2 : decode cXT_differ 2 = .ok (.invokevirtual 26, 3) := by decide +kernel
theorem dXT_differ_5 : decode cXT_differ 5 = .ok (.aload_n 0, 1) := by decide +kernel
theorem dXT_differ_6 : decode cXT_differ 6 = .ok (.iload_n 2, 1) := by decide +kernel
theorem dXT_differ_7 : decode cXT_differ 7 = .ok (.invokevirtual 26, 3) := by decide +kernel
theorem dXT_differ_10 : decode cXT_differ 10 = .ok (.aload_n 0, 1) := by decide +kernel
theorem dXT_differ_11 : decode cXT_differ 11 = .ok (.getfield 11, 3) := by decide +kernel
theorem dXT_differ_14 : decode cXT_differ 14 = .ok (.iload_n 1, 1) := by decide +kernel
theorem dXT_differ_15 : decode cXT_differ 15 = .ok (.aaload, 1) := by decide +kernel
theorem dXT_differ_16 : decode cXT_differ 16 = .ok (.aload_n 0, 1) := by decide +kernel
theorem dXT_differ_17 : decode cXT_differ 17 = .ok (.getfield 11, 3) := by decide +kernel
theorem dXT_differ_20 : decode cXT_differ 20 = .ok (.iload_n 2, 1) := by decide +kernel
theorem dXT_differ_21 : decode cXT_differ 21 = .ok (.aaload, 1) := by decide +kernel
theorem dXT_differ_22 : decode cXT_differ 22 = .ok (.bipush 8, 2) := by decide +kernel
theorem dXT_differ_24 : decode cXT_differ 24 = .ok (.invokestatic 86, 3) := by decide +kernel
theorem dXT_differ_27 : decode cXT_differ 27 = .ok (.ireturn, 1) := by decide +kernel
theorem dXT_differences_0 : decode cXT_differences 0 = .ok (.aload_n 0, 1) := by decide +kernel
theorem dXT_differences_1 : decode cXT_differences 1 = .ok (.aload_n 1, 1) := by decide +kernel
theorem dXT_differences_2 : decode cXT_differences 2 = .ok (.if_acmp .ne 5, 3) := by decide +kernel
theorem dXT_differences_5 : decode cXT_differences 5 = .ok (.iconst 0, 1) := by decide +kernel
theorem dXT_differences_6 : decode cXT_differences 6 = .ok (.ireturn, 1) := by decide +kernel
theorem dXT_differences_7 : decode cXT_differences 7 = .ok (.aload_n 0, 1) := by decide +kernel
theorem dXT_differences_8 : decode cXT_differences 8 = .ok (.ifnull 7, 3) := by decide +kernel
theorem dXT_differences_11 : decode cXT_differences 11 = .ok (.aload_n 1, 1) := by decide +kernel
theorem dXT_differences_12 : decode cXT_differences 12 = .ok (.ifnonnull 13, 3) := by decide +kernel
theorem dXT_differences_15 : decode cXT_differences 15 = .ok (.aload_n 0, 1) := by decide +kernel
theorem dXT_differences_16 : decode cXT_differences 16 = .ok (.invokestatic 70, 3) := by decide +kernel
theorem dXT_differences_19 : decode cXT_differences 19 = .ok (.aload_n 1, 1) := by decide +kernel
theorem dXT_differences_20 : decode cXT_differences 20 = .ok (.invokestatic 70, 3) := by decide +kernel
theorem dXT_differences_23 : decode cXT_differences 23 = .ok (.iadd, 1) := by decide +kernel
theorem dXT_differences_24 : decode cXT_differences 24 = .ok (.ireturn, 1) := by decide +kernel
theorem dXT_differences_25 : decode cXT_differences 25 = .ok (.iload_n 2, 1) := by decide +kernel
theorem dXT_differences_26 : decode cXT_differences 26 = .ok (.ifCond .gt 20, 3) := by decide +kernel
theorem dXT_differences_29 : decode cXT_differences 29 = .ok (.aload_n 0, 1) := by decide +kernel
theorem dXT_differences_30 : decode cXT_differences 30 = .ok (.getfield 67, 3) := by decide +kernel
theorem dXT_differences_33 : decode cXT_differences 33 = .ok (.aload_n 1, 1) := by decide +kernel
theorem dXT_differences_34 : decode cXT_differences 34 = .ok (.getfield 67, 3) := by decide +kernel
theorem dXT_differences_37 : decode cXT_differences 37 = .ok (.if_icmp .ne 7, 3) := by decide +kernel
theorem dXT_differences_40 : decode cXT_differences 40 = .ok (.iconst 0, 1) := by decide +kernel
theorem dXT_differences_41 : decode cXT_differences 41 = .ok (.goto 4, 3) := by decide +kernel
theorem dXT_differences_44 : decode cXT_differences 44 = .ok (.iconst 1, 1) := by decide +kernel
theorem dXT_differences_45 : decode cXT_differences 45 = .ok (.ireturn, 1) := by decide +kernel
theorem dXT_differences_46 : decode cXT_differences 46 = .ok (.aload_n 0, 1) := by decide +kernel
theorem dXT_differences_47 : decode cXT_differences 47 = .ok (.getfield 138, 3) := by decide +kernel
theorem dXT_differences_50 : decode cXT_differences 50 = .ok (.aload_n 1, 1) := by decide +kernel
theorem dXT_differences_51 : decode cXT_differences 51 = .ok (.getfield 138, 3) := by decide +kernel
theorem dXT_differences_54 : decode cXT_differences 54 = .ok (.iload_n 2, 1) := by decide +kernel
theorem dXT_differences_55 : decode cXT_differences 55 = .ok (.iconst 1, 1) := by decide +kernel
theorem dXT_differences_56 : decode cXT_differences 56 = .ok (.isub, 1) := by decide +kernel
theorem dXT_differences_57 : decode cXT_differences 57 = .ok (.invokestatic 86, 3) := by decide +kernel
theorem dXT_differences_60 : decode cXT_differences 60 = .ok (.aload_n 0, 1) := by decide +kernel
theorem dXT_differences_61 : decode cXT_differences 61 = .ok (.getfield 142, 3) := by decide +kernel
theorem dXT_differences_64 : decode cXT_differences 64 = .ok (.aload_n 1, 1) := by decide +kernel
theorem dXT_differences_65 : decode cXT_differences 65 = .ok (.getfield 142, 3) := by decide +kernel
theorem dXT_differences_68 : decode cXT_differences 68 = .ok (.iload_n 2, 1) := by decide +kernel
theorem dXT_differences_69 : decode cXT_differences 69 = .ok (.iconst 1, 1) := by decide +kernel
theorem dXT_differences_70 : decode cXT_differences 70 = .ok (.isub, 1) := by decide +kernel
theorem dXT_differences_71 : decode cXT_differences 71 = .ok (.invokestatic 86, 3) := by decide +kernel
theorem dXT_differences_74 : decode cXT_differences 74 = .ok (.iadd, 1) := by decide +kernel
theorem dXT_differences_75 : decode cXT_differences 75 = .ok (.ireturn, 1) := by decide +kernel
theorem dXT_digest_0 : decode cXT_digest 0 = .ok (.aload_n 0, 1) := by decide +kernel
theorem dXT_digest_1 : decode cXT_digest 1 = .ok (.iload_n 1, 1) := by decide +kernel
theorem dXT_digest_2 : decode cXT_digest 2 = .ok (.invokevirtual 26, 3) := by decide +kernel
theorem dXT_digest_5 : decode cXT_digest 5 = .ok (.ldc2_w 90, 3) := by decide +kernel
theorem dXT_digest_8 : decode cXT_digest 8 = .ok (.aload_n 0, 1) := by decide +kernel
theorem dXT_digest_9 : decode cXT_digest 9 = .ok (.getfield 11, 3) := by decide +kernel
theorem dXT_digest_12 : decode cXT_digest 12 = .ok (.iload_n 1, 1) := by decide +kernel
theorem dXT_digest_13 : decode cXT_digest 13 = .ok (.aaload, 1) := by decide +kernel
theorem dXT_digest_14 : decode cXT_digest 14 = .ok (.bipush 8, 2) := by decide +kernel
theorem dXT_digest_16 : decode cXT_digest 16 = .ok (.invokestatic 92, 3) := by decide +kernel
theorem dXT_digest_19 : decode cXT_digest 19 = .ok (.lreturn, 1) := by decide +kernel
theorem dXT_digestOn_0 : decode cXT_digestOn 0 = .ok (.aload_n 2, 1) := by decide +kernel
theorem dXT_digestOn_1 : decode cXT_digestOn 1 = .ok (.ifnonnull 5, 3) := by decide +kernel
theorem dXT_digestOn_4 : decode cXT_digestOn 4 = .ok (.lload_n 0, 1) := by decide +kernel
theorem dXT_digestOn_5 : decode cXT_digestOn 5 = .ok (.lreturn, 1) := by decide +kernel
theorem dXT_digestOn_6 : decode cXT_digestOn 6 = .ok (.iload_n 3, 1) := by decide +kernel
theorem dXT_digestOn_7 : decode cXT_digestOn 7 = .ok (.ifCond .gt 25, 3) := by decide +kernel
theorem dXT_digestOn_10 : decode cXT_digestOn 10 = .ok (.lload_n 0, 1) := by decide +kernel
theorem dXT_digestOn_11 : decode cXT_digestOn 11 = .ok (.ldc2_w 145, 3) := by decide +kernel
theorem dXT_digestOn_14 : decode cXT_digestOn 14 = .ok (.lmul, 1) := by decide +kernel
theorem dXT_digestOn_15 : decode cXT_digestOn 15 = .ok (.aload_n 2, 1) := by decide +kernel
theorem dXT_digestOn_16 : decode cXT_digestOn 16 = .ok (.getfield 147, 3) := by decide +kernel
theorem dXT_digestOn_19 : decode cXT_digestOn 19 = .ok (.i2l, 1) := by decide +kernel
theorem dXT_digestOn_20 : decode cXT_digestOn 20 = .ok (.ladd, 1) := by decide +kernel
theorem dXT_digestOn_21 : decode cXT_digestOn 21 = .ok (.ldc2_w 145, 3) := by decide +kernel
theorem dXT_digestOn_24 : decode cXT_digestOn 24 = .ok (.lmul, 1) := by decide +kernel
theorem dXT_digestOn_25 : decode cXT_digestOn 25 = .ok (.aload_n 2, 1) := by decide +kernel
theorem dXT_digestOn_26 : decode cXT_digestOn 26 = .ok (.getfield 67, 3) := by decide +kernel
theorem dXT_digestOn_29 : decode cXT_digestOn 29 = .ok (.i2l, 1) := by decide +kernel
theorem dXT_digestOn_30 : decode cXT_digestOn 30 = .ok (.ladd, 1) := by decide +kernel
theorem dXT_digestOn_31 : decode cXT_digestOn 31 = .ok (.lreturn, 1) := by decide +kernel
theorem dXT_digestOn_32 : decode cXT_digestOn 32 = .ok (.lload_n 0, 1) := by decide +kernel
theorem dXT_digestOn_33 : decode cXT_digestOn 33 = .ok (.aload_n 2, 1) := by decide +kernel
theorem dXT_digestOn_34 : decode cXT_digestOn 34 = .ok (.getfield 138, 3) := by decide +kernel
theorem dXT_digestOn_37 : decode cXT_digestOn 37 = .ok (.iload_n 3, 1) := by decide +kernel
theorem dXT_digestOn_38 : decode cXT_digestOn 38 = .ok (.iconst 1, 1) := by decide +kernel
theorem dXT_digestOn_39 : decode cXT_digestOn 39 = .ok (.isub, 1) := by decide +kernel
theorem dXT_digestOn_40 : decode cXT_digestOn 40 = .ok (.invokestatic 92, 3) := by decide +kernel
theorem dXT_digestOn_43 : decode cXT_digestOn 43 = .ok (.aload_n 2, 1) := by decide +kernel
theorem dXT_digestOn_44 : decode cXT_digestOn 44 = .ok (.getfield 142, 3) := by decide +kernel
theorem dXT_digestOn_47 : decode cXT_digestOn 47 = .ok (.iload_n 3, 1) := by decide +kernel
theorem dXT_digestOn_48 : decode cXT_digestOn 48 = .ok (.iconst 1, 1) := by decide +kernel
theorem dXT_digestOn_49 : decode cXT_digestOn 49 = .ok (.isub, 1) := by decide +kernel
theorem dXT_digestOn_50 : decode cXT_digestOn 50 = .ok (.invokestatic 92, 3) := by decide +kernel
theorem dXT_digestOn_53 : decode cXT_digestOn 53 = .ok (.lreturn, 1) := by decide +kernel
