theorem dXL_put_0 : decode cXL_put 0 = .ok (.aload 4, 2) := by decide +kernel
theorem dXL_put_2 : decode cXL_put 2 = .ok (.iconst 0, 1) := by decide +kernel
theorem dXL_put_3 : decode cXL_put 3 = .ok (.aload_n 0, 1) := by decide +kernel
theorem dXL_put_4 : decode cXL_put 4 = .ok (.iload_n 1, 1) := by decide +kernel
theorem dXL_put_5 : decode cXL_put 5 = .ok (.iload_n 2, 1) := by decide +kernel
theorem dXL_put_6 : decode cXL_put 6 = .ok (.iload_n 3, 1) := by decide +kernel
theorem dXL_put_7 : decode cXL_put 7 = .ok (.invokevirtual 7, 3) := by decide +kernel
theorem dXL_put_10 : decode cXL_put 10 = .ok (.i2l, 1) := by decide +kernel
theorem dXL_put_11 : decode cXL_put 11 = .ok (.lastore, 1) := by decide +kernel
theorem dXL_put_12 : decode cXL_put 12 = .ok (.goto 11, 3) := by decide +kernel
theorem dXL_put_15 : decode cXL_put 15 = .ok (.astore 5, 2) := by decide +kernel
theorem dXL_put_17 : decode cXL_put 17 = .ok (.iconst 1, 1) := by decide +kernel
theorem dXL_put_18 : decode cXL_put 18 = .ok (.ireturn, 1) := by decide +kernel
theorem dXL_put_19 : decode cXL_put 19 = .ok (.astore 5, 2) := by decide +kernel
theorem dXL_put_21 : decode cXL_put 21 = .ok (.iconst 2, 1) := by decide +kernel
theorem dXL_put_22 : decode cXL_put 22 = .ok (.ireturn, 1) := by decide +kernel
theorem dXL_put_23 : decode cXL_put 23 = .ok (.iconst 0, 1) := by decide +kernel
theorem dXL_put_24 : decode cXL_put 24 = .ok (.ireturn, 1) := by decide +kernel
theorem dXL_remove_0 : decode cXL_remove 0 = .ok (.aload_n 3, 1) := by decide +kernel
theorem dXL_remove_1 : decode cXL_remove 1 = .ok (.iconst 0, 1) := by decide +kernel
theorem dXL_remove_2 : decode cXL_remove 2 = .ok (.aload_n 0, 1) := by decide +kernel
theorem dXL_remove_3 : decode cXL_remove 3 = .ok (.iload_n 1, 1) := by decide +kernel
theorem dXL_remove_4 : decode cXL_remove 4 = .ok (.iload_n 2, 1) := by decide +kernel
theorem dXL_remove_5 : decode cXL_remove 5 = .ok (.invokevirtual 17, 3) := by decide +kernel
theorem dXL_remove_8 : decode cXL_remove 8 = .ok (.i2l, 1) := by decide +kernel
theorem dXL_remove_9 : decode cXL_remove 9 = .ok (.lastore, 1) := by decide +kernel
theorem dXL_remove_10 : decode cXL_remove 10 = .ok (.goto 15, 3) := by decide +kernel
theorem dXL_remove_13 : decode cXL_remove 13 = .ok (.astore 4, 2) := by decide +kernel
theorem dXL_remove_15 : decode cXL_remove 15 = .ok (.iconst 1, 1) := by decide +kernel
theorem dXL_remove_16 : decode cXL_remove 16 = .ok (.ireturn, 1) := by decide +kernel
theorem dXL_remove_17 : decode cXL_remove 17 = .ok (.astore 4, 2) := by decide +kernel
theorem dXL_remove_19 : decode cXL_remove 19 = .ok (.iconst 2, 1) := by decide +kernel
theorem dXL_remove_20 : decode cXL_remove 20 = .ok (.ireturn, 1) := by decide +kernel
theorem dXL_remove_21 : decode cXL_remove 21 = .ok (.astore 4, 2) := by decide +kernel
theorem dXL_remove_23 : decode cXL_remove 23 = .ok (.iconst 3, 1) := by decide +kernel
theorem dXL_remove_24 : decode cXL_remove 24 = .ok (.ireturn, 1) := by decide +kernel
theorem dXL_remove_25 : decode cXL_remove 25 = .ok (.iconst 0, 1) := by decide +kernel
theorem dXL_remove_26 : decode cXL_remove 26 = .ok (.ireturn, 1) := by decide +kernel
theorem dXL_join_0 : decode cXL_join 0 = .ok (.aload 4, 2) := by decide +kernel
theorem dXL_join_2 : decode cXL_join 2 = .ok (.iconst 0, 1) := by decide +kernel
theorem dXL_join_3 : decode cXL_join 3 = .ok (.aload_n 0, 1) := by decide +kernel
theorem dXL_join_4 : decode cXL_join 4 = .ok (.iload_n 1, 1) := by decide +kernel
theorem dXL_join_5 : decode cXL_join 5 = .ok (.iload_n 2, 1) := by decide +kernel
theorem dXL_join_6 : decode cXL_join 6 = .ok (.iload_n 3, 1) := by decide +kernel
theorem dXL_join_7 : decode cXL_join 7 = .ok (.invokevirtual 23, 3) := by decide +kernel
theorem dXL_join_10 : decode cXL_join 10 = .ok (.i2l, 1) := by decide +kernel
theorem dXL_join_11 : decode cXL_join 11 = .ok (.lastore, 1) := by decide +kernel
theorem dXL_join_12 : decode cXL_join 12 = .ok (.goto 11, 3) := by decide +kernel
theorem dXL_join_15 : decode cXL_join 15 = .ok (.astore 5, 2) := by decide +kernel
theorem dXL_join_17 : decode cXL_join 17 = .ok (.iconst 1, 1) := by decide +kernel
theorem dXL_join_18 : decode cXL_join 18 = .ok (.ireturn, 1) := by decide +kernel
theorem dXL_join_19 : decode cXL_join 19 = .ok (.astore 5, 2) := by decide +kernel
theorem dXL_join_21 : decode cXL_join 21 = .ok (.iconst 2, 1) := by decide +kernel
theorem dXL_join_22 : decode cXL_join 22 = .ok (.ireturn, 1) := by decide +kernel
theorem dXL_join_23 : decode cXL_join 23 = .ok (.iconst 0, 1) := by decide +kernel
theorem dXL_join_24 : decode cXL_join 24 = .ok (.ireturn, 1) := by decide +kernel
theorem dXL_get_0 : decode cXL_get 0 = .ok (.aload_n 3, 1) := by decide +kernel
theorem dXL_get_1 : decode cXL_get 1 = .ok (.iconst 0, 1) := by decide +kernel
theorem dXL_get_2 : decode cXL_get 2 = .ok (.aload_n 0, 1) := by decide +kernel
theorem dXL_get_3 : decode cXL_get 3 = .ok (.iload_n 1, 1) := by decide +kernel
theorem dXL_get_4 : decode cXL_get 4 = .ok (.iload_n 2, 1) := by decide +kernel
theorem dXL_get_5 : decode cXL_get 5 = .ok (.invokevirtual 26, 3) := by decide +kernel
theorem dXL_get_8 : decode cXL_get 8 = .ok (.i2l, 1) := by decide +kernel
theorem dXL_get_9 : decode cXL_get 9 = .ok (.lastore, 1) := by decide +kernel
theorem dXL_get_10 : decode cXL_get 10 = .ok (.goto 11, 3) := by decide +kernel
theorem dXL_get_13 : decode cXL_get 13 = .ok (.astore 4, 2) := by decide +kernel
theorem dXL_get_15 : decode cXL_get 15 = .ok (.iconst 1, 1) := by decide +kernel
theorem dXL_get_16 : decode cXL_get 16 = .ok (.ireturn, 1) := by decide +kernel
theorem dXL_get_17 : decode cXL_get 17 = .ok (.astore 4, 2) := by decide +kernel
theorem dXL_get_19 : decode cXL_get 19 = .ok (.iconst 2, 1) := by decide +kernel
theorem dXL_get_20 : decode cXL_get 20 = .ok (.ireturn, 1) := by decide +kernel
theorem dXL_get_21 : decode cXL_get 21 = .ok (.iconst 0, 1) := by decide +kernel
theorem dXL_get_22 : decode cXL_get 22 = .ok (.ireturn, 1) := by decide +kernel
theorem dXL_select_0 : decode cXL_select 0 = .ok (.aload_n 3, 1) := by decide +kernel
theorem dXL_select_1 : decode cXL_select 1 = .ok (.iconst 0, 1) := by decide +kernel
theorem dXL_select_2 : decode cXL_select 2 = .ok (.aload_n 0, 1) := by decide +kernel
theorem dXL_select_3 : decode cXL_select 3 = .ok (.iload_n 1, 1) := by decide +kernel
theorem dXL_select_4 : decode cXL_select 4 = .ok (.iload_n 2, 1) := by decide +kernel
theorem dXL_select_5 : decode cXL_select 5 = .ok (.invokevirtual 29, 3) := by decide +kernel
theorem dXL_select_8 : decode cXL_select 8 = .ok (.i2l, 1) := by decide +kernel
theorem dXL_select_9 : decode cXL_select 9 = .ok (.lastore, 1) := by decide +kernel
theorem dXL_select_10 : decode cXL_select 10 = .ok (.goto 7, 3) := by decide +kernel
theorem dXL_select_13 : decode cXL_select 13 = .ok (.astore 4, 2) := by decide +kernel
theorem dXL_select_15 : decode cXL_select 15 = .ok (.iconst 1, 1) := by decide +kernel
theorem dXL_select_16 : decode cXL_select 16 = .ok (.ireturn, 1) := by decide +kernel
theorem dXL_select_17 : decode cXL_select 17 = .ok (.iconst 0, 1) := by decide +kernel
theorem dXL_select_18 : decode cXL_select 18 = .ok (.ireturn, 1) := by decide +kernel
theorem dXL_many_0 : decode cXL_many 0 = .ok (.aload 4, 2) := by decide +kernel
theorem dXL_many_2 : decode cXL_many 2 = .ok (.iconst 0, 1) := by decide +kernel
theorem dXL_many_3 : decode cXL_many 3 = .ok (.aload_n 0, 1) := by decide +kernel
theorem dXL_many_4 : decode cXL_many 4 = .ok (.iload_n 1, 1) := by decide +kernel
theorem dXL_many_5 : decode cXL_many 5 = .ok (.iload_n 2, 1) := by decide +kernel
theorem dXL_many_6 : decode cXL_many 6 = .ok (.iload_n 3, 1) := by decide +kernel
theorem dXL_many_7 : decode cXL_many 7 = .ok (.invokevirtual 32, 3) := by decide +kernel
theorem dXL_many_10 : decode cXL_many 10 = .ok (.i2l, 1) := by decide +kernel
theorem dXL_many_11 : decode cXL_many 11 = .ok (.lastore, 1) := by decide +kernel
theorem dXL_many_12 : decode cXL_many 12 = .ok (.goto 7, 3) := by decide +kernel
theorem dXL_many_15 : decode cXL_many 15 = .ok (.astore 5, 2) := by decide +kernel
theorem dXL_many_17 : decode cXL_many 17 = .ok (.iconst 1, 1) := by decide +kernel
theorem dXL_many_18 : decode cXL_many 18 = .ok (.ireturn, 1) := by decide +kernel
theorem dXL_many_19 : decode cXL_many 19 = .ok (.iconst 0, 1) := by decide +kernel
theorem dXL_many_20 : decode cXL_many 20 = .ok (.ireturn, 1) := by decide +kernel
theorem dXL_sum_0 : decode cXL_sum 0 = .ok (.aload 4, 2) := by decide +kernel
theorem dXL_sum_2 : decode cXL_sum 2 = .ok (.iconst 0, 1) := by decide +kernel
theorem dXL_sum_3 : decode cXL_sum 3 = .ok (.aload_n 0, 1) := by decide +kernel
theorem dXL_sum_4 : decode cXL_sum 4 = .ok (.iload_n 1, 1) := by decide +kernel
theorem dXL_sum_5 : decode cXL_sum 5 = .ok (.iload_n 2, 1) := by decide +kernel
theorem dXL_sum_6 : decode cXL_sum 6 = .ok (.iload_n 3, 1) := by decide +kernel
theorem dXL_sum_7 : decode cXL_sum 7 = .ok (.invokevirtual 35, 3) := by decide +kernel
theorem dXL_sum_10 : decode cXL_sum 10 = .ok (.lastore, 1) := by decide +kernel
theorem dXL_sum_11 : decode cXL_sum 11 = .ok (.goto 7, 3) := by decide +kernel
theorem dXL_sum_14 : decode cXL_sum 14 = .ok (.astore 5, 2) := by decide +kernel
theorem dXL_sum_16 : decode cXL_sum 16 = .ok (.iconst 1, 1) := by decide +kernel
theorem dXL_sum_17 : decode cXL_sum 17 = .ok (.ireturn, 1) := by decide +kernel
theorem dXL_sum_18 : decode cXL_sum 18 = .ok (.iconst 0, 1) := by decide +kernel
theorem dXL_sum_19 : decode cXL_sum 19 = .ok (.ireturn, 1) := by decide +kernel
theorem dXL_differ_0 : decode cXL_differ 0 = .ok (.aload_n 3, 1) := by decide +kernel
theorem dXL_differ_1 : decode cXL_differ 1 = .ok (.iconst 0, 1) := by decide +kernel
theorem dXL_differ_2 : decode cXL_differ 2 = .ok (.aload_n 0, 1) := by decide +kernel
theorem dXL_differ_3 : decode cXL_differ 3 = .ok (.iload_n 1, 1) := by decide +kernel
theorem dXL_differ_4 : decode cXL_differ 4 = .ok (.iload_n 2, 1) := by decide +kernel
theorem dXL_differ_5 : decode cXL_differ 5 = .ok (.invokevirtual 39, 3) := by decide +kernel
theorem dXL_differ_8 : decode cXL_differ 8 = .ok (.i2l, 1) := by decide +kernel
theorem dXL_differ_9 : decode cXL_differ 9 = .ok (.lastore, 1) := by decide +kernel
theorem dXL_differ_10 : decode cXL_differ 10 = .ok (.goto 7, 3) := by decide +kernel
theorem dXL_differ_13 : decode cXL_differ 13 = .ok (.astore 4, 2) := by decide +kernel
theorem dXL_differ_15 : decode cXL_differ 15 = .ok (.iconst 1, 1) := by decide +kernel
theorem dXL_differ_16 : decode cXL_differ 16 = .ok (.ireturn, 1) := by decide +kernel
theorem dXL_differ_17 : decode cXL_differ 17 = .ok (.iconst 0, 1) := by decide +kernel
theorem dXL_differ_18 : decode cXL_differ 18 = .ok (.ireturn, 1) := by decide +kernel
theorem dXL_digest_0 : decode cXL_digest 0 = .ok (.aload_n 2, 1) := by decide +kernel
theorem dXL_digest_1 : decode cXL_digest 1 = .ok (.iconst 0, 1) := by decide +kernel
theorem dXL_digest_2 : decode cXL_digest 2 = .ok (.aload_n 0, 1) := by decide +kernel
theorem dXL_digest_3 : decode cXL_digest 3 = .ok (.iload_n 1, 1) := by decide +kernel
theorem dXL_digest_4 : decode cXL_digest 4 = .ok (.invokevirtual 42, 3) := by decide +kernel
theorem dXL_digest_7 : decode cXL_digest 7 = .ok (.lastore, 1) := by decide +kernel
theorem dXL_digest_8 : decode cXL_digest 8 = .ok (.goto 6, 3) := by decide +kernel
theorem dXL_digest_11 : decode cXL_digest 11 = .ok (.astore_n 3, 1) := by decide +kernel
theorem dXL_digest_12 : decode cXL_digest 12 = .ok (.iconst 1, 1) := by decide +kernel
theorem dXL_digest_13 : decode cXL_digest 13 = .ok (.ireturn, 1) := by decide +kernel
theorem dXL_digest_14 : decode cXL_digest 14 = .ok (.iconst 0, 1) := by decide +kernel
theorem dXL_digest_15 : decode cXL_digest 15 = .ok (.ireturn, 1) := by decide +kernel
theorem dXL_law_0 : decode cXL_law 0 = .ok (.new 8, 3) := by decide +kernel
theorem dXL_law_3 : decode cXL_law 3 = .ok (.dup, 1) := by decide +kernel
theorem dXL_law_4 : decode cXL_law 4 = .ok (.invokespecial 46, 3) := by decide +kernel
theorem dXL_law_7 : decode cXL_law 7 = .ok (.astore_n 1, 1) := by decide +kernel
theorem dXL_law_8 : decode cXL_law 8 = .ok (.new 47, 3) := by decide +kernel
theorem dXL_law_11 : decode cXL_law 11 = .ok (.dup, 1) := by decide +kernel
theorem dXL_law_12 : decode cXL_law 12 = .ok (.invokespecial 49, 3) := by decide +kernel
theorem dXL_law_15 : decode cXL_law 15 = .ok (.astore_n 2, 1) := by decide +kernel
theorem dXL_law_16 : decode cXL_law 16 = .ok (.iconst 1, 1) := by decide +kernel
theorem dXL_law_17 : decode cXL_law 17 = .ok (.newarray .long, 2) := by decide +kernel
theorem dXL_law_19 : decode cXL_law 19 = .ok (.astore_n 3, 1) := by decide +kernel
theorem dXL_law_20 : decode cXL_law 20 = .ok (.iconst 0, 1) := by decide +kernel
theorem dXL_law_21 : decode cXL_law 21 = .ok (.istore 4, 2) := by decide +kernel
theorem dXL_law_23 : decode cXL_law 23 = .ok (.iload 4, 2) := by decide +kernel
theorem dXL_law_25 : decode cXL_law 25 = .ok (.aload_n 0, 1) := by decide +kernel
theorem dXL_law_26 : decode cXL_law 26 = .ok (.arraylength, 1) := by decide +kernel
theorem dXL_law_27 : decode cXL_law 27 = .ok (.iconst 4, 1) := by decide +kernel
theorem dXL_law_28 : decode cXL_law 28 = .ok (.isub, 1) := by decide +kernel
theorem dXL_law_29 : decode cXL_law 29 = .ok (.if_icmp .gt 745, 3) := by decide +kernel
theorem dXL_law_32 : decode cXL_law 32 = .ok (.aload_n 0, 1) := by decide +kernel
theorem dXL_law_33 : decode cXL_law 33 = .ok (.iload 4, 2) := by decide +kernel
theorem dXL_law_35 : decode cXL_law 35 = .ok (.iaload, 1) := by decide +kernel
theorem dXL_law_36 : decode cXL_law 36 = .ok (.bipush 15, 2) := by decide +kernel
theorem dXL_law_38 : decode cXL_law 38 = .ok (.iand, 1) := by decide +kernel
theorem dXL_law_39 : decode cXL_law 39 = .ok (.tableswitch 729 0 10 #[57, 137, 205, 285, 353, 421, 501, 580, 648, 703, 716], 57) := by decide +kernel
theorem dXL_law_96 : decode cXL_law 96 = .ok (.aload_n 1, 1) := by decide +kernel
theorem dXL_law_97 : decode cXL_law 97 = .ok (.aload_n 0, 1) := by decide +kernel
theorem dXL_law_98 : decode cXL_law 98 = .ok (.iload 4, 2) := by decide +kernel
theorem dXL_law_100 : decode cXL_law 100 = .ok (.iconst 1, 1) := by decide +kernel
theorem dXL_law_101 : decode cXL_law 101 = .ok (.iadd, 1) := by decide +kernel
theorem dXL_law_102 : decode cXL_law 102 = .ok (.iaload, 1) := by decide +kernel
theorem dXL_law_103 : decode cXL_law 103 = .ok (.aload_n 0, 1) := by decide +kernel
theorem dXL_law_104 : decode cXL_law 104 = .ok (.iload 4, 2) := by decide +kernel
theorem dXL_law_106 : decode cXL_law 106 = .ok (.iconst 2, 1) := by decide +kernel
theorem dXL_law_107 : decode cXL_law 107 = .ok (.iadd, 1) := by decide +kernel
theorem dXL_law_108 : decode cXL_law 108 = .ok (.iaload, 1) := by decide +kernel
theorem dXL_law_109 : decode cXL_law 109 = .ok (.aload_n 0, 1) := by decide +kernel
theorem dXL_law_110 : decode cXL_law 110 = .ok (.iload 4, 2) := by decide +kernel
theorem dXL_law_112 : decode cXL_law 112 = .ok (.iconst 3, 1) := by decide +kernel
theorem dXL_law_113 : decode cXL_law 113 = .ok (.iadd, 1) := by decide +kernel
theorem dXL_law_114 : decode cXL_law 114 = .ok (.iaload, 1) := by decide +kernel
theorem dXL_law_115 : decode cXL_law 115 = .ok (.aload_n 3, 1) := by decide +kernel
theorem dXL_law_116 : decode cXL_law 116 = .ok (.invokestatic 50, 3) := by decide +kernel
theorem dXL_law_119 : decode cXL_law 119 = .ok (.istore 5, 2) := by decide +kernel
theorem dXL_law_121 : decode cXL_law 121 = .ok (.aload_n 2, 1) := by decide +kernel
theorem dXL_law_122 : decode cXL_law 122 = .ok (.aload_n 0, 1) := by decide +kernel
theorem dXL_law_123 : decode cXL_law 123 = .ok (.iload 4, 2) := by decide +kernel
theorem dXL_law_125 : decode cXL_law 125 = .ok (.iconst 1, 1) := by decide +kernel
theorem dXL_law_126 : decode cXL_law 126 = .ok (.iadd, 1) := by decide +kernel
theorem dXL_law_127 : decode cXL_law 127 = .ok (.iaload, 1) := by decide +kernel
theorem dXL_law_128 : decode cXL_law 128 = .ok (.aload_n 0, 1) := by decide +kernel
theorem dXL_law_129 : decode cXL_law 129 = .ok (.iload 4, 2) := by decide +kernel
theorem dXL_law_131 : decode cXL_law 131 = .ok (.iconst 2, 1) := by decide +kernel
theorem dXL_law_132 : decode cXL_law 132 = .ok (.iadd, 1) := by decide +kernel
theorem dXL_law_133 : decode cXL_law 133 = .ok (.iaload, 1) := by decide +kernel
theorem dXL_law_134 : decode cXL_law 134 = .ok (.aload_n 0, 1) := by decide +kernel
theorem dXL_law_135 : decode cXL_law 135 = .ok (.iload 4, 2) := by decide +kernel
theorem dXL_law_137 : decode cXL_law 137 = .ok (.iconst 3, 1) := by decide +kernel
theorem dXL_law_138 : decode cXL_law 138 = .ok (.iadd, 1) := by decide +kernel
theorem dXL_law_139 : decode cXL_law 139 = .ok (.iaload, 1) := by decide +kernel
theorem dXL_law_140 : decode cXL_law 140 = .ok (.invokevirtual 55, 3) := by decide +kernel
theorem dXL_law_143 : decode cXL_law 143 = .ok (.istore 6, 2) := by decide +kernel
theorem dXL_law_145 : decode cXL_law 145 = .ok (.aload_n 2, 1) := by decide +kernel
theorem dXL_law_146 : decode cXL_law 146 = .ok (.invokevirtual 56, 3) := by decide +kernel
theorem dXL_law_149 : decode cXL_law 149 = .ok (.iload 5, 2) := by decide +kernel
theorem dXL_law_151 : decode cXL_law 151 = .ok (.if_icmp .eq 5, 3) := by decide +kernel
theorem dXL_law_154 : decode cXL_law 154 = .ok (.iconst 0, 1) := by decide +kernel
theorem dXL_law_155 : decode cXL_law 155 = .ok (.ireturn, 1) := by decide +kernel
theorem dXL_law_156 : decode cXL_law 156 = .ok (.iload 5, 2) := by decide +kernel
theorem dXL_law_158 : decode cXL_law 158 = .ok (.ifCond .ne 15, 3) := by decide +kernel
theorem dXL_law_161 : decode cXL_law 161 = .ok (.aload_n 3, 1) := by decide +kernel
theorem dXL_law_162 : decode cXL_law 162 = .ok (.iconst 0, 1) := by decide +kernel
theorem dXL_law_163 : decode cXL_law 163 = .ok (.laload, 1) := by decide +kernel
theorem dXL_law_164 : decode cXL_law 164 = .ok (.iload 6, 2) := by decide +kernel
theorem dXL_law_166 : decode cXL_law 166 = .ok (.i2l, 1) := by decide +kernel
theorem dXL_law_167 : decode cXL_law 167 = .ok (.lcmp, 1) := by decide +kernel
theorem dXL_law_168 : decode cXL_law 168 = .ok (.ifCond .eq 5, 3) := by decide +kernel
theorem dXL_law_171 : decode cXL_law 171 = .ok (.iconst 0, 1) := by decide +kernel
theorem dXL_law_172 : decode cXL_law 172 = .ok (.ireturn, 1) := by decide +kernel
theorem dXL_law_173 : decode cXL_law 173 = .ok (.goto 595, 3) := by decide +kernel
theorem dXL_law_176 : decode cXL_law 176 = .ok (.aload_n 1, 1) := by decide +kernel
theorem dXL_law_177 : decode cXL_law 177 = .ok (.aload_n 0, 1) := by decide +kernel
theorem dXL_law_178 : decode cXL_law 178 = .ok (.iload 4, 2) := by decide +kernel
theorem dXL_law_180 : decode cXL_law 180 = .ok (.iconst 1, 1) := by decide +kernel
theorem dXL_law_181 : decode cXL_law 181 = .ok (.iadd, 1) := by decide +kernel
theorem dXL_law_182 : decode cXL_law 182 = .ok (.iaload, 1) := by decide +kernel
theorem dXL_law_183 : decode cXL_law 183 = .ok (.aload_n 0, 1) := by decide +kernel
theorem dXL_law_184 : decode cXL_law 184 = .ok (.iload 4, 2) := by decide +kernel
theorem dXL_law_186 : decode cXL_law 186 = .ok (.iconst 2, 1) := by decide +kernel
theorem dXL_law_187 : decode cXL_law 187 = .ok (.iadd, 1) := by decide +kernel
theorem dXL_law_188 : decode cXL_law 188 = .ok (.iaload, 1) := by decide +kernel
theorem dXL_law_189 : decode cXL_law 189 = .ok (.aload_n 3, 1) := by decide +kernel
theorem dXL_law_190 : decode cXL_law 190 = .ok (.invokestatic 60, 3) := by decide +kernel
theorem dXL_law_193 : decode cXL_law 193 = .ok (.istore 5, 2) := by decide +kernel
theorem dXL_law_195 : decode cXL_law 195 = .ok (.aload_n 2, 1) := by decide +kernel
theorem dXL_law_196 : decode cXL_law 196 = .ok (.aload_n 0, 1) := by decide +kernel
theorem dXL_law_197 : decode cXL_law 197 = .ok (.iload 4, 2) := by decide +kernel
theorem dXL_law_199 : decode cXL_law 199 = .ok (.iconst 1, 1) := by decide +kernel
theorem dXL_law_200 : decode cXL_law 200 = .ok (.iadd, 1) := by decide +kernel
theorem dXL_law_201 : decode cXL_law 201 = .ok (.iaload, 1) := by decide +kernel
theorem dXL_law_202 : decode cXL_law 202 = .ok (.aload_n 0, 1) := by decide +kernel
theorem dXL_law_203 : decode cXL_law 203 = .ok (.iload 4, 2) := by decide +kernel
theorem dXL_law_205 : decode cXL_law 205 = .ok (.iconst 2, 1) := by decide +kernel
theorem dXL_law_206 : decode cXL_law 206 = .ok (.iadd, 1) := by decide +kernel
theorem dXL_law_207 : decode cXL_law 207 = .ok (.iaload, 1) := by decide +kernel
theorem dXL_law_208 : decode cXL_law 208 = .ok (.invokevirtual 63, 3) := by decide +kernel
theorem dXL_law_211 : decode cXL_law 211 = .ok (.istore 6, 2) := by decide +kernel
theorem dXL_law_213 : decode cXL_law 213 = .ok (.aload_n 2, 1) := by decide +kernel
theorem dXL_law_214 : decode cXL_law 214 = .ok (.invokevirtual 56, 3) := by decide +kernel
theorem dXL_law_217 : decode cXL_law 217 = .ok (.iload 5, 2) := by decide +kernel
theorem dXL_law_219 : decode cXL_law 219 = .ok (.if_icmp .eq 5, 3) := by decide +kernel
theorem dXL_law_222 : decode cXL_law 222 = .ok (.iconst 0, 1) := by decide +kernel
theorem dXL_law_223 : decode cXL_law 223 = .ok (.ireturn, 1) := by decide +kernel
theorem dXL_law_224 : decode cXL_law 224 = .ok (.iload 5, 2) := by decide +kernel
theorem dXL_law_226 : decode cXL_law 226 = .ok (.ifCond .ne 15, 3) := by decide +kernel
theorem dXL_law_229 : decode cXL_law 229 = .ok (.aload_n 3, 1) := by decide +kernel
theorem dXL_law_230 : decode cXL_law 230 = .ok (.iconst 0, 1) := by decide +kernel
theorem dXL_law_231 : decode cXL_law 231 = .ok (.laload, 1) := by decide +kernel
theorem dXL_law_232 : decode cXL_law 232 = .ok (.iload 6, 2) := by decide +kernel
theorem dXL_law_234 : decode cXL_law 234 = .ok (.i2l, 1) := by decide +kernel
theorem dXL_law_235 : decode cXL_law 235 = .ok (.lcmp, 1) := by decide +kernel
theorem dXL_law_236 : decode cXL_law 236 = .ok (.ifCond .eq 5, 3) := by decide +kernel
theorem dXL_law_239 : decode cXL_law 239 = .ok (.iconst 0, 1) := by decide +kernel
theorem dXL_law_240 : decode cXL_law 240 = .ok (.ireturn, 1) := by decide +kernel
theorem dXL_law_241 : decode cXL_law 241 = .ok (.goto 527, 3) := by decide +kernel
theorem dXL_law_244 : decode cXL_law 244 = .ok (.aload_n 1, 1) := by decide +kernel
theorem dXL_law_245 : decode cXL_law 245 = .ok (.aload_n 0, 1) := by decide +kernel
theorem dXL_law_246 : decode cXL_law 246 = .ok (.iload 4, 2) := by decide +kernel
theorem dXL_law_248 : decode cXL_law 248 = .ok (.iconst 1, 1) := by decide +kernel
theorem dXL_law_249 : decode cXL_law 249 = .ok (.iadd, 1) := by decide +kernel
theorem dXL_law_250 : decode cXL_law 250 = .ok (.iaload, 1) := by decide +kernel
theorem dXL_law_251 : decode cXL_law 251 = .ok (.aload_n 0, 1) := by decide +kernel
theorem dXL_law_252 : decode cXL_law 252 = .ok (.iload 4, 2) := by decide +kernel
theorem dXL_law_254 : decode cXL_law 254 = .ok (.iconst 2, 1) := by decide +kernel
theorem dXL_law_255 : decode cXL_law 255 = .ok (.iadd, 1) := by decide +kernel
theorem dXL_law_256 : decode cXL_law 256 = .ok (.iaload, 1) := by decide +kernel
theorem dXL_law_257 : decode cXL_law 257 = .ok (.aload_n 0, 1) := by decide +kernel
theorem dXL_law_258 : decode cXL_law 258 = .ok (.iload 4, 2) := by decide +kernel
theorem dXL_law_260 : decode cXL_law 260 = .ok (.iconst 3, 1) := by decide +kernel
theorem dXL_law_261 : decode cXL_law 261 = .ok (.iadd, 1) := by decide +kernel
theorem dXL_law_262 : decode cXL_law 262 = .ok (.iaload, 1) := by decide +kernel
theorem dXL_law_263 : decode cXL_law 263 = .ok (.aload_n 3, 1) := by decide +kernel
theorem dXL_law_264 : decode cXL_law 264 = .ok (.invokestatic 64, 3) := by decide +kernel
theorem dXL_law_267 : decode cXL_law 267 = .ok (.istore 5, 2) := by decide +kernel
theorem dXL_law_269 : decode cXL_law 269 = .ok (.aload_n 2, 1) := by decide +kernel
theorem dXL_law_270 : decode cXL_law 270 = .ok (.aload_n 0, 1) := by decide +kernel
theorem dXL_law_271 : decode cXL_law 271 = .ok (.iload 4, 2) := by decide +kernel
theorem dXL_law_273 : decode cXL_law 273 = .ok (.iconst 1, 1) := by decide +kernel
theorem dXL_law_274 : decode cXL_law 274 = .ok (.iadd, 1) := by decide +kernel
theorem dXL_law_275 : decode cXL_law 275 = .ok (.iaload, 1) := by decide +kernel
theorem dXL_law_276 : decode cXL_law 276 = .ok (.aload_n 0, 1) := by decide +kernel
theorem dXL_law_277 : decode cXL_law 277 = .ok (.iload 4, 2) := by decide +kernel
theorem dXL_law_279 : decode cXL_law 279 = .ok (.iconst 2, 1) := by decide +kernel
theorem dXL_law_280 : decode cXL_law 280 = .ok (.iadd, 1) := by decide +kernel
theorem dXL_law_281 : decode cXL_law 281 = .ok (.iaload, 1) := by decide +kernel
theorem dXL_law_282 : decode cXL_law 282 = .ok (.aload_n 0, 1) := by decide +kernel
theorem dXL_law_283 : decode cXL_law 283 = .ok (.iload 4, 2) := by decide +kernel
theorem dXL_law_285 : decode cXL_law 285 = .ok (.iconst 3, 1) := by decide +kernel
theorem dXL_law_286 : decode cXL_law 286 = .ok (.iadd, 1) := by decide +kernel
theorem dXL_law_287 : decode cXL_law 287 = .ok (.iaload, 1) := by decide +kernel
theorem dXL_law_288 : decode cXL_law 288 = .ok (.invokevirtual 66, 3) := by decide +kernel
theorem dXL_law_291 : decode cXL_law 291 = .ok (.istore 6, 2) := by decide +kernel
theorem dXL_law_293 : decode cXL_law 293 = .ok (.aload_n 2, 1) := by decide +kernel
theorem dXL_law_294 : decode cXL_law 294 = .ok (.invokevirtual 56, 3) := by decide +kernel
theorem dXL_law_297 : decode cXL_law 297 = .ok (.iload 5, 2) := by decide +kernel
theorem dXL_law_299 : decode cXL_law 299 = .ok (.if_icmp .eq 5, 3) := by decide +kernel
theorem dXL_law_302 : decode cXL_law 302 = .ok (.iconst 0, 1) := by decide +kernel
theorem dXL_law_303 : decode cXL_law 303 = .ok (.ireturn, 1) := by decide +kernel
theorem dXL_law_304 : decode cXL_law 304 = .ok (.iload 5, 2) := by decide +kernel
theorem dXL_law_306 : decode cXL_law 306 = .ok (.ifCond .ne 15, 3) := by decide +kernel
theorem dXL_law_309 : decode cXL_law 309 = .ok (.aload_n 3, 1) := by decide +kernel
theorem dXL_law_310 : decode cXL_law 310 = .ok (.iconst 0, 1) := by decide +kernel
theorem dXL_law_311 : decode cXL_law 311 = .ok (.laload, 1) := by decide +kernel
theorem dXL_law_312 : decode cXL_law 312 = .ok (.iload 6, 2) := by decide +kernel
theorem dXL_law_314 : decode cXL_law 314 = .ok (.i2l, 1) := by decide +kernel
theorem dXL_law_315 : decode cXL_law 315 = .ok (.lcmp, 1) := by decide +kernel
theorem dXL_law_316 : decode cXL_law 316 = .ok (.ifCond .eq 5, 3) := by decide +kernel
theorem dXL_law_319 : decode cXL_law 319 = .ok (.iconst 0, 1) := by decide +kernel
theorem dXL_law_320 : decode cXL_law 320 = .ok (.ireturn, 1) := by decide +kernel
theorem dXL_law_321 : decode cXL_law 321 = .ok (.goto 447, 3) := by decide +kernel
theorem dXL_law_324 : decode cXL_law 324 = .ok (.aload_n 1, 1) := by decide +kernel
theorem dXL_law_325 : decode cXL_law 325 = .ok (.aload_n 0, 1) := by decide +kernel
theorem dXL_law_326 : decode cXL_law 326 = .ok (.iload 4, 2) := by decide +kernel
theorem dXL_law_328 : decode cXL_law 328 = .ok (.iconst 1, 1) := by decide +kernel
theorem dXL_law_329 : decode cXL_law 329 = .ok (.iadd, 1) := by decide +kernel
theorem dXL_law_330 : decode cXL_law 330 = .ok (.iaload, 1) := by decide +kernel
theorem dXL_law_331 : decode cXL_law 331 = .ok (.aload_n 0, 1) := by decide +kernel
theorem dXL_law_332 : decode cXL_law 332 = .ok (.iload 4, 2) := by decide +kernel
theorem dXL_law_334 : decode cXL_law 334 = .ok (.iconst 2, 1) := by decide +kernel
theorem dXL_law_335 : decode cXL_law 335 = .ok (.iadd, 1) := by decide +kernel
theorem dXL_law_336 : decode cXL_law 336 = .ok (.iaload, 1) := by decide +kernel
theorem dXL_law_337 : decode cXL_law 337 = .ok (.aload_n 3, 1) := by decide +kernel
theorem dXL_law_338 : decode cXL_law 338 = .ok (.invokestatic 67, 3) := by decide +kernel
theorem dXL_law_341 : decode cXL_law 341 = .ok (.istore 5, 2) := by decide +kernel
theorem dXL_law_343 : decode cXL_law 343 = .ok (.aload_n 2, 1) := by decide +kernel
theorem dXL_law_344 : decode cXL_law 344 = .ok (.aload_n 0, 1) := by decide +kernel
theorem dXL_law_345 : decode cXL_law 345 = .ok (.iload 4, 2) := by decide +kernel
theorem dXL_law_347 : decode cXL_law 347 = .ok (.iconst 1, 1) := by decide +kernel
theorem dXL_law_348 : decode cXL_law 348 = .ok (.iadd, 1) := by decide +kernel
theorem dXL_law_349 : decode cXL_law 349 = .ok (.iaload, 1) := by decide +kernel
theorem dXL_law_350 : decode cXL_law 350 = .ok (.aload_n 0, 1) := by decide +kernel
theorem dXL_law_351 : decode cXL_law 351 = .ok (.iload 4, 2) := by decide +kernel
theorem dXL_law_353 : decode cXL_law 353 = .ok (.iconst 2, 1) := by decide +kernel
theorem dXL_law_354 : decode cXL_law 354 = .ok (.iadd, 1) := by decide +kernel
theorem dXL_law_355 : decode cXL_law 355 = .ok (.iaload, 1) := by decide +kernel
theorem dXL_law_356 : decode cXL_law 356 = .ok (.invokevirtual 69, 3) := by decide +kernel
theorem dXL_law_359 : decode cXL_law 359 = .ok (.istore 6, 2) := by decide +kernel
theorem dXL_law_361 : decode cXL_law 361 = .ok (.aload_n 2, 1) := by decide +kernel
theorem dXL_law_362 : decode cXL_law 362 = .ok (.invokevirtual 56, 3) := by decide +kernel
theorem dXL_law_365 : decode cXL_law 365 = .ok (.iload 5, 2) := by decide +kernel
theorem dXL_law_367 : decode cXL_law 367 = .ok (.if_icmp .eq 5, 3) := by decide +kernel
theorem dXL_law_370 : decode cXL_law 370 = .ok (.iconst 0, 1) := by decide +kernel
theorem dXL_law_371 : decode cXL_law 371 = .ok (.ireturn, 1) := by decide +kernel
theorem dXL_law_372 : decode cXL_law 372 = .ok (.iload 5, 2) := by decide +kernel
theorem dXL_law_374 : decode cXL_law 374 = .ok (.ifCond .ne 15, 3) := by decide +kernel
theorem dXL_law_377 : decode cXL_law 377 = .ok (.aload_n 3, 1) := by decide +kernel
theorem dXL_law_378 : decode cXL_law 378 = .ok (.iconst 0, 1) := by decide +kernel
theorem dXL_law_379 : decode cXL_law 379 = .ok (.laload, 1) := by decide +kernel
theorem dXL_law_380 : decode cXL_law 380 = .ok (.iload 6, 2) := by decide +kernel
theorem dXL_law_382 : decode cXL_law 382 = .ok (.i2l, 1) := by decide +kernel
theorem dXL_law_383 : decode cXL_law 383 = .ok (.lcmp, 1) := by decide +kernel
theorem dXL_law_384 : decode cXL_law 384 = .ok (.ifCond .eq 5, 3) := by decide +kernel
theorem dXL_law_387 : decode cXL_law 387 = .ok (.iconst 0, 1) := by decide +kernel
theorem dXL_law_388 : decode cXL_law 388 = .ok (.ireturn, 1) := by decide +kernel
theorem dXL_law_389 : decode cXL_law 389 = .ok (.goto 379, 3) := by decide +kernel
theorem dXL_law_392 : decode cXL_law 392 = .ok (.aload_n 1, 1) := by decide +kernel
theorem dXL_law_393 : decode cXL_law 393 = .ok (.aload_n 0, 1) := by decide +kernel
theorem dXL_law_394 : decode cXL_law 394 = .ok (.iload 4, 2) := by decide +kernel
theorem dXL_law_396 : decode cXL_law 396 = .ok (.iconst 1, 1) := by decide +kernel
theorem dXL_law_397 : decode cXL_law 397 = .ok (.iadd, 1) := by decide +kernel
theorem dXL_law_398 : decode cXL_law 398 = .ok (.iaload, 1) := by decide +kernel
theorem dXL_law_399 : decode cXL_law 399 = .ok (.aload_n 0, 1) := by decide +kernel
theorem dXL_law_400 : decode cXL_law 400 = .ok (.iload 4, 2) := by decide +kernel
theorem dXL_law_402 : decode cXL_law 402 = .ok (.iconst 2, 1) := by decide +kernel
theorem dXL_law_403 : decode cXL_law 403 = .ok (.iadd, 1) := by decide +kernel
theorem dXL_law_404 : decode cXL_law 404 = .ok (.iaload, 1) := by decide +kernel
theorem dXL_law_405 : decode cXL_law 405 = .ok (.aload_n 3, 1) := by decide +kernel
theorem dXL_law_406 : decode cXL_law 406 = .ok (.invokestatic 70, 3) := by decide +kernel
theorem dXL_law_409 : decode cXL_law 409 = .ok (.istore 5, 2) := by decide +kernel
theorem dXL_law_411 : decode cXL_law 411 = .ok (.aload_n 2, 1) := by decide +kernel
theorem dXL_law_412 : decode cXL_law 412 = .ok (.aload_n 0, 1) := by decide +kernel
theorem dXL_law_413 : decode cXL_law 413 = .ok (.iload 4, 2) := by decide +kernel
theorem dXL_law_415 : decode cXL_law 415 = .ok (.iconst 1, 1) := by decide +kernel
theorem dXL_law_416 : decode cXL_law 416 = .ok (.iadd, 1) := by decide +kernel
theorem dXL_law_417 : decode cXL_law 417 = .ok (.iaload, 1) := by decide +kernel
theorem dXL_law_418 : decode cXL_law 418 = .ok (.aload_n 0, 1) := by decide +kernel
theorem dXL_law_419 : decode cXL_law 419 = .ok (.iload 4, 2) := by decide +kernel
theorem dXL_law_421 : decode cXL_law 421 = .ok (.iconst 2, 1) := by decide +kernel
theorem dXL_law_422 : decode cXL_law 422 = .ok (.iadd, 1) := by decide +kernel
theorem dXL_law_423 : decode cXL_law 423 = .ok (.iaload, 1) := by decide +kernel
theorem dXL_law_424 : decode cXL_law 424 = .ok (.invokevirtual 72, 3) := by decide +kernel
theorem dXL_law_427 : decode cXL_law 427 = .ok (.istore 6, 2) := by decide +kernel
theorem dXL_law_429 : decode cXL_law 429 = .ok (.aload_n 2, 1) := by decide +kernel
theorem dXL_law_430 : decode cXL_law 430 = .ok (.invokevirtual 56, 3) := by decide +kernel
theorem dXL_law_433 : decode cXL_law 433 = .ok (.iload 5, 2) := by decide +kernel
theorem dXL_law_435 : decode cXL_law 435 = .ok (.if_icmp .eq 5, 3) := by decide +kernel
theorem dXL_law_438 : decode cXL_law 438 = .ok (.iconst 0, 1) := by decide +kernel
theorem dXL_law_439 : decode cXL_law 439 = .ok (.ireturn, 1) := by decide +kernel
theorem dXL_law_440 : decode cXL_law 440 = .ok (.iload 5, 2) := by decide +kernel
theorem dXL_law_442 : decode cXL_law 442 = .ok (.ifCond .ne 15, 3) := by decide +kernel
theorem dXL_law_445 : decode cXL_law 445 = .ok (.aload_n 3, 1) := by decide +kernel
theorem dXL_law_446 : decode cXL_law 446 = .ok (.iconst 0, 1) := by decide +kernel
theorem dXL_law_447 : decode cXL_law 447 = .ok (.laload, 1) := by decide +kernel
theorem dXL_law_448 : decode cXL_law 448 = .ok (.iload 6, 2) := by decide +kernel
theorem dXL_law_450 : decode cXL_law 450 = .ok (.i2l, 1) := by decide +kernel
theorem dXL_law_451 : decode cXL_law 451 = .ok (.lcmp, 1) := by decide +kernel
theorem dXL_law_452 : decode cXL_law 452 = .ok (.ifCond .eq 5, 3) := by decide +kernel
theorem dXL_law_455 : decode cXL_law 455 = .ok (.iconst 0, 1) := by decide +kernel
theorem dXL_law_456 : decode cXL_law 456 = .ok (.ireturn, 1) := by decide +kernel
theorem dXL_law_457 : decode cXL_law 457 = .ok (.goto 311, 3) := by decide +kernel
theorem dXL_law_460 : decode cXL_law 460 = .ok (.aload_n 1, 1) := by decide +kernel
theorem dXL_law_461 : decode cXL_law 461 = .ok (.aload_n 0, 1) := by decide +kernel
theorem dXL_law_462 : decode cXL_law 462 = .ok (.iload 4, 2) := by decide +kernel
theorem dXL_law_464 : decode cXL_law 464 = .ok (.iconst 1, 1) := by decide +kernel
theorem dXL_law_465 : decode cXL_law 465 = .ok (.iadd, 1) := by decide +kernel
theorem dXL_law_466 : decode cXL_law 466 = .ok (.iaload, 1) := by decide +kernel
theorem dXL_law_467 : decode cXL_law 467 = .ok (.aload_n 0, 1) := by decide +kernel
theorem dXL_law_468 : decode cXL_law 468 = .ok (.iload 4, 2) := by decide +kernel
theorem dXL_law_470 : decode cXL_law 470 = .ok (.iconst 2, 1) := by decide +kernel
theorem dXL_law_471 : decode cXL_law 471 = .ok (.iadd, 1) := by decide +kernel
theorem dXL_law_472 : decode cXL_law 472 = .ok (.iaload, 1) := by decide +kernel
theorem dXL_law_473 : decode cXL_law 473 = .ok (.aload_n 0, 1) := by decide +kernel
theorem dXL_law_474 : decode cXL_law 474 = .ok (.iload 4, 2) := by decide +kernel
theorem dXL_law_476 : decode cXL_law 476 = .ok (.iconst 3, 1) := by decide +kernel
theorem dXL_law_477 : decode cXL_law 477 = .ok (.iadd, 1) := by decide +kernel
theorem dXL_law_478 : decode cXL_law 478 = .ok (.iaload, 1) := by decide +kernel
theorem dXL_law_479 : decode cXL_law 479 = .ok (.aload_n 3, 1) := by decide +kernel
theorem dXL_law_480 : decode cXL_law 480 = .ok (.invokestatic 73, 3) := by decide +kernel
theorem dXL_law_483 : decode cXL_law 483 = .ok (.istore 5, 2) := by decide +kernel
theorem dXL_law_485 : decode cXL_law 485 = .ok (.aload_n 2, 1) := by decide +kernel
theorem dXL_law_486 : decode cXL_law 486 = .ok (.aload_n 0, 1) := by decide +kernel
theorem dXL_law_487 : decode cXL_law 487 = .ok (.iload 4, 2) := by decide +kernel
theorem dXL_law_489 : decode cXL_law 489 = .ok (.iconst 1, 1) := by decide +kernel
theorem dXL_law_490 : decode cXL_law 490 = .ok (.iadd, 1) := by decide +kernel
theorem dXL_law_491 : decode cXL_law 491 = .ok (.iaload, 1) := by decide +kernel
theorem dXL_law_492 : decode cXL_law 492 = .ok (.aload_n 0, 1) := by decide +kernel
theorem dXL_law_493 : decode cXL_law 493 = .ok (.iload 4, 2) := by decide +kernel
theorem dXL_law_495 : decode cXL_law 495 = .ok (.iconst 2, 1) := by decide +kernel
theorem dXL_law_496 : decode cXL_law 496 = .ok (.iadd, 1) := by decide +kernel
theorem dXL_law_497 : decode cXL_law 497 = .ok (.iaload, 1) := by decide +kernel
theorem dXL_law_498 : decode cXL_law 498 = .ok (.aload_n 0, 1) := by decide +kernel
theorem dXL_law_499 : decode cXL_law 499 = .ok (.iload 4, 2) := by decide +kernel
theorem dXL_law_501 : decode cXL_law 501 = .ok (.iconst 3, 1) := by decide +kernel
theorem dXL_law_502 : decode cXL_law 502 = .ok (.iadd, 1) := by decide +kernel
theorem dXL_law_503 : decode cXL_law 503 = .ok (.iaload, 1) := by decide +kernel
theorem dXL_law_504 : decode cXL_law 504 = .ok (.invokevirtual 75, 3) := by decide +kernel
theorem dXL_law_507 : decode cXL_law 507 = .ok (.istore 6, 2) := by decide +kernel
theorem dXL_law_509 : decode cXL_law 509 = .ok (.aload_n 2, 1) := by decide +kernel
theorem dXL_law_510 : decode cXL_law 510 = .ok (.invokevirtual 56, 3) := by decide +kernel
theorem dXL_law_513 : decode cXL_law 513 = .ok (.iload 5, 2) := by decide +kernel
theorem dXL_law_515 : decode cXL_law 515 = .ok (.if_icmp .eq 5, 3) := by decide +kernel
theorem dXL_law_518 : decode cXL_law 518 = .ok (.iconst 0, 1) := by decide +kernel
theorem dXL_law_519 : decode cXL_law 519 = .ok (.ireturn, 1) := by decide +kernel
theorem dXL_law_520 : decode cXL_law 520 = .ok (.iload 5, 2) := by decide +kernel
theorem dXL_law_522 : decode cXL_law 522 = .ok (.ifCond .ne 15, 3) := by decide +kernel
theorem dXL_law_525 : decode cXL_law 525 = .ok (.aload_n 3, 1) := by decide +kernel
theorem dXL_law_526 : decode cXL_law 526 = .ok (.iconst 0, 1) := by decide +kernel
theorem dXL_law_527 : decode cXL_law 527 = .ok (.laload, 1) := by decide +kernel
theorem dXL_law_528 : decode cXL_law 528 = .ok (.iload 6, 2) := by decide +kernel
theorem dXL_law_530 : decode cXL_law 530 = .ok (.i2l, 1) := by decide +kernel
theorem dXL_law_531 : decode cXL_law 531 = .ok (.lcmp, 1) := by decide +kernel
theorem dXL_law_532 : decode cXL_law 532 = .ok (.ifCond .eq 5, 3) := by decide +kernel
theorem dXL_law_535 : decode cXL_law 535 = .ok (.iconst 0, 1) := by decide +kernel
theorem dXL_law_536 : decode cXL_law 536 = .ok (.ireturn, 1) := by decide +kernel
theorem dXL_law_537 : decode cXL_law 537 = .ok (.goto 231, 3) := by decide +kernel
theorem dXL_law_540 : decode cXL_law 540 = .ok (.aload_n 1, 1) := by decide +kernel
theorem dXL_law_541 : decode cXL_law 541 = .ok (.aload_n 0, 1) := by decide +kernel
theorem dXL_law_542 : decode cXL_law 542 = .ok (.iload 4, 2) := by decide +kernel
theorem dXL_law_544 : decode cXL_law 544 = .ok (.iconst 1, 1) := by decide +kernel
theorem dXL_law_545 : decode cXL_law 545 = .ok (.iadd, 1) := by decide +kernel
theorem dXL_law_546 : decode cXL_law 546 = .ok (.iaload, 1) := by decide +kernel
theorem dXL_law_547 : decode cXL_law 547 = .ok (.aload_n 0, 1) := by decide +kernel
theorem dXL_law_548 : decode cXL_law 548 = .ok (.iload 4, 2) := by decide +kernel
theorem dXL_law_550 : decode cXL_law 550 = .ok (.iconst 2, 1) := by decide +kernel
theorem dXL_law_551 : decode cXL_law 551 = .ok (.iadd, 1) := by decide +kernel
theorem dXL_law_552 : decode cXL_law 552 = .ok (.iaload, 1) := by decide +kernel
theorem dXL_law_553 : decode cXL_law 553 = .ok (.aload_n 0, 1) := by decide +kernel
theorem dXL_law_554 : decode cXL_law 554 = .ok (.iload 4, 2) := by decide +kernel
theorem dXL_law_556 : decode cXL_law 556 = .ok (.iconst 3, 1) := by decide +kernel
theorem dXL_law_557 : decode cXL_law 557 = .ok (.iadd, 1) := by decide +kernel
theorem dXL_law_558 : decode cXL_law 558 = .ok (.iaload, 1) := by decide +kernel
theorem dXL_law_559 : decode cXL_law 559 = .ok (.aload_n 3, 1) := by decide +kernel
theorem dXL_law_560 : decode cXL_law 560 = .ok (.invokestatic 76, 3) := by decide +kernel
theorem dXL_law_563 : decode cXL_law 563 = .ok (.istore 5, 2) := by decide +kernel
theorem dXL_law_565 : decode cXL_law 565 = .ok (.aload_n 2, 1) := by decide +kernel
theorem dXL_law_566 : decode cXL_law 566 = .ok (.aload_n 0, 1) := by decide +kernel
theorem dXL_law_567 : decode cXL_law 567 = .ok (.iload 4, 2) := by decide +kernel
theorem dXL_law_569 : decode cXL_law 569 = .ok (.iconst 1, 1) := by decide +kernel
theorem dXL_law_570 : decode cXL_law 570 = .ok (.iadd, 1) := by decide +kernel
theorem dXL_law_571 : decode cXL_law 571 = .ok (.iaload, 1) := by decide +kernel
theorem dXL_law_572 : decode cXL_law 572 = .ok (.aload_n 0, 1) := by decide +kernel
theorem dXL_law_573 : decode cXL_law 573 = .ok (.iload 4, 2) := by decide +kernel
theorem dXL_law_575 : decode cXL_law 575 = .ok (.iconst 2, 1) := by decide +kernel
theorem dXL_law_576 : decode cXL_law 576 = .ok (.iadd, 1) := by decide +kernel
theorem dXL_law_577 : decode cXL_law 577 = .ok (.iaload, 1) := by decide +kernel
theorem dXL_law_578 : decode cXL_law 578 = .ok (.aload_n 0, 1) := by decide +kernel
theorem dXL_law_579 : decode cXL_law 579 = .ok (.iload 4, 2) := by decide +kernel
theorem dXL_law_581 : decode cXL_law 581 = .ok (.iconst 3, 1) := by decide +kernel
theorem dXL_law_582 : decode cXL_law 582 = .ok (.iadd, 1) := by decide +kernel
theorem dXL_law_583 : decode cXL_law 583 = .ok (.iaload, 1) := by decide +kernel
theorem dXL_law_584 : decode cXL_law 584 = .ok (.invokevirtual 78, 3) := by decide +kernel
theorem dXL_law_587 : decode cXL_law 587 = .ok (.lstore 6, 2) := by decide +kernel
theorem dXL_law_589 : decode cXL_law 589 = .ok (.aload_n 2, 1) := by decide +kernel
theorem dXL_law_590 : decode cXL_law 590 = .ok (.invokevirtual 56, 3) := by decide +kernel
theorem dXL_law_593 : decode cXL_law 593 = .ok (.iload 5, 2) := by decide +kernel
theorem dXL_law_595 : decode cXL_law 595 = .ok (.if_icmp .eq 5, 3) := by decide +kernel
theorem dXL_law_598 : decode cXL_law 598 = .ok (.iconst 0, 1) := by decide +kernel
theorem dXL_law_599 : decode cXL_law 599 = .ok (.ireturn, 1) := by decide +kernel
theorem dXL_law_600 : decode cXL_law 600 = .ok (.iload 5, 2) := by decide +kernel
theorem dXL_law_602 : decode cXL_law 602 = .ok (.ifCond .ne 14, 3) := by decide +kernel
theorem dXL_law_605 : decode cXL_law 605 = .ok (.aload_n 3, 1) := by decide +kernel
theorem dXL_law_606 : decode cXL_law 606 = .ok (.iconst 0, 1) := by decide +kernel
theorem dXL_law_607 : decode cXL_law 607 = .ok (.laload, 1) := by decide +kernel
theorem dXL_law_608 : decode cXL_law 608 = .ok (.lload 6, 2) := by decide +kernel
theorem dXL_law_610 : decode cXL_law 610 = .ok (.lcmp, 1) := by decide +kernel
theorem dXL_law_611 : decode cXL_law 611 = .ok (.ifCond .eq 5, 3) := by decide +kernel
theorem dXL_law_614 : decode cXL_law 614 = .ok (.iconst 0, 1) := by decide +kernel
theorem dXL_law_615 : decode cXL_law 615 = .ok (.ireturn, 1) := by decide +kernel
theorem dXL_law_616 : decode cXL_law 616 = .ok (.goto 152, 3) := by decide +kernel
theorem dXL_law_619 : decode cXL_law 619 = .ok (.aload_n 1, 1) := by decide +kernel
theorem dXL_law_620 : decode cXL_law 620 = .ok (.aload_n 0, 1) := by decide +kernel
theorem dXL_law_621 : decode cXL_law 621 = .ok (.iload 4, 2) := by decide +kernel
theorem dXL_law_623 : decode cXL_law 623 = .ok (.iconst 1, 1) := by decide +kernel
theorem dXL_law_624 : decode cXL_law 624 = .ok (.iadd, 1) := by decide +kernel
theorem dXL_law_625 : decode cXL_law 625 = .ok (.iaload, 1) := by decide +kernel
theorem dXL_law_626 : decode cXL_law 626 = .ok (.aload_n 0, 1) := by decide +kernel
theorem dXL_law_627 : decode cXL_law 627 = .ok (.iload 4, 2) := by decide +kernel
theorem dXL_law_629 : decode cXL_law 629 = .ok (.iconst 2, 1) := by decide +kernel
theorem dXL_law_630 : decode cXL_law 630 = .ok (.iadd, 1) := by decide +kernel
theorem dXL_law_631 : decode cXL_law 631 = .ok (.iaload, 1) := by decide +kernel
theorem dXL_law_632 : decode cXL_law 632 = .ok (.aload_n 3, 1) := by decide +kernel
theorem dXL_law_633 : decode cXL_law 633 = .ok (.invokestatic 79, 3) := by decide +kernel
theorem dXL_law_636 : decode cXL_law 636 = .ok (.istore 5, 2) := by decide +kernel
theorem dXL_law_638 : decode cXL_law 638 = .ok (.aload_n 2, 1) := by decide +kernel
theorem dXL_law_639 : decode cXL_law 639 = .ok (.aload_n 0, 1) := by decide +kernel
theorem dXL_law_640 : decode cXL_law 640 = .ok (.iload 4, 2) := by decide +kernel
theorem dXL_law_642 : decode cXL_law 642 = .ok (.iconst 1, 1) := by decide +kernel
theorem dXL_law_643 : decode cXL_law 643 = .ok (.iadd, 1) := by decide +kernel
theorem dXL_law_644 : decode cXL_law 644 = .ok (.iaload, 1) := by decide +kernel
theorem dXL_law_645 : decode cXL_law 645 = .ok (.aload_n 0, 1) := by decide +kernel
theorem dXL_law_646 : decode cXL_law 646 = .ok (.iload 4, 2) := by decide +kernel
theorem dXL_law_648 : decode cXL_law 648 = .ok (.iconst 2, 1) := by decide +kernel
theorem dXL_law_649 : decode cXL_law 649 = .ok (.iadd, 1) := by decide +kernel
theorem dXL_law_650 : decode cXL_law 650 = .ok (.iaload, 1) := by decide +kernel
theorem dXL_law_651 : decode cXL_law 651 = .ok (.invokevirtual 81, 3) := by decide +kernel
theorem dXL_law_654 : decode cXL_law 654 = .ok (.istore 6, 2) := by decide +kernel
theorem dXL_law_656 : decode cXL_law 656 = .ok (.aload_n 2, 1) := by decide +kernel
theorem dXL_law_657 : decode cXL_law 657 = .ok (.invokevirtual 56, 3) := by decide +kernel
theorem dXL_law_660 : decode cXL_law 660 = .ok (.iload 5, 2) := by decide +kernel
theorem dXL_law_662 : decode cXL_law 662 = .ok (.if_icmp .eq 5, 3) := by decide +kernel
theorem dXL_law_665 : decode cXL_law 665 = .ok (.iconst 0, 1) := by decide +kernel
theorem dXL_law_666 : decode cXL_law 666 = .ok (.ireturn, 1) := by decide +kernel
theorem dXL_law_667 : decode cXL_law 667 = .ok (.iload 5, 2) := by decide +kernel
theorem dXL_law_669 : decode cXL_law 669 = .ok (.ifCond .ne 15, 3) := by decide +kernel
theorem dXL_law_672 : decode cXL_law 672 = .ok (.aload_n 3, 1) := by decide +kernel
theorem dXL_law_673 : decode cXL_law 673 = .ok (.iconst 0, 1) := by decide +kernel
theorem dXL_law_674 : decode cXL_law 674 = .ok (.laload, 1) := by decide +kernel
theorem dXL_law_675 : decode cXL_law 675 = .ok (.iload 6, 2) := by decide +kernel
theorem dXL_law_677 : decode cXL_law 677 = .ok (.i2l, 1) := by decide +kernel
theorem dXL_law_678 : decode cXL_law 678 = .ok (.lcmp, 1) := by decide +kernel
theorem dXL_law_679 : decode cXL_law 679 = .ok (.ifCond .eq 5, 3) := by decide +kernel
theorem dXL_law_682 : decode cXL_law 682 = .ok (.iconst 0, 1) := by decide +kernel
theorem dXL_law_683 : decode cXL_law 683 = .ok (.ireturn, 1) := by decide +kernel
theorem dXL_law_684 : decode cXL_law 684 = .ok (.goto 84, 3) := by decide +kernel
theorem dXL_law_687 : decode cXL_law 687 = .ok (.aload_n 1, 1) := by decide +kernel
theorem dXL_law_688 : decode cXL_law 688 = .ok (.aload_n 0, 1) := by decide +kernel
theorem dXL_law_689 : decode cXL_law 689 = .ok (.iload 4, 2) := by decide +kernel
theorem dXL_law_691 : decode cXL_law 691 = .ok (.iconst 1, 1) := by decide +kernel
theorem dXL_law_692 : decode cXL_law 692 = .ok (.iadd, 1) := by decide +kernel
theorem dXL_law_693 : decode cXL_law 693 = .ok (.iaload, 1) := by decide +kernel
theorem dXL_law_694 : decode cXL_law 694 = .ok (.aload_n 3, 1) := by decide +kernel
theorem dXL_law_695 : decode cXL_law 695 = .ok (.invokestatic 82, 3) := by decide +kernel
theorem dXL_law_698 : decode cXL_law 698 = .ok (.istore 5, 2) := by decide +kernel
theorem dXL_law_700 : decode cXL_law 700 = .ok (.aload_n 2, 1) := by decide +kernel
theorem dXL_law_701 : decode cXL_law 701 = .ok (.aload_n 0, 1) := by decide +kernel
theorem dXL_law_702 : decode cXL_law 702 = .ok (.iload 4, 2) := by decide +kernel
theorem dXL_law_704 : decode cXL_law 704 = .ok (.iconst 1, 1) := by decide +kernel
theorem dXL_law_705 : decode cXL_law 705 = .ok (.iadd, 1) := by decide +kernel
theorem dXL_law_706 : decode cXL_law 706 = .ok (.iaload, 1) := by decide +kernel
theorem dXL_law_707 : decode cXL_law 707 = .ok (.invokevirtual 85, 3) := by decide +kernel
theorem dXL_law_710 : decode cXL_law 710 = .ok (.lstore 6, 2) := by decide +kernel
theorem dXL_law_712 : decode cXL_law 712 = .ok (.aload_n 2, 1) := by decide +kernel
theorem dXL_law_713 : decode cXL_law 713 = .ok (.invokevirtual 56, 3) := by decide +kernel
theorem dXL_law_716 : decode cXL_law 716 = .ok (.iload 5, 2) := by decide +kernel
theorem dXL_law_718 : decode cXL_law 718 = .ok (.if_icmp .eq 5, 3) := by decide +kernel
theorem dXL_law_721 : decode cXL_law 721 = .ok (.iconst 0, 1) := by decide +kernel
theorem dXL_law_722 : decode cXL_law 722 = .ok (.ireturn, 1) := by decide +kernel
theorem dXL_law_723 : decode cXL_law 723 = .ok (.iload 5, 2) := by decide +kernel
theorem dXL_law_725 : decode cXL_law 725 = .ok (.ifCond .ne 14, 3) := by decide +kernel
theorem dXL_law_728 : decode cXL_law 728 = .ok (.aload_n 3, 1) := by decide +kernel
theorem dXL_law_729 : decode cXL_law 729 = .ok (.iconst 0, 1) := by decide +kernel
theorem dXL_law_730 : decode cXL_law 730 = .ok (.laload, 1) := by decide +kernel
theorem dXL_law_731 : decode cXL_law 731 = .ok (.lload 6, 2) := by decide +kernel
theorem dXL_law_733 : decode cXL_law 733 = .ok (.lcmp, 1) := by decide +kernel
theorem dXL_law_734 : decode cXL_law 734 = .ok (.ifCond .eq 5, 3) := by decide +kernel
theorem dXL_law_737 : decode cXL_law 737 = .ok (.iconst 0, 1) := by decide +kernel
theorem dXL_law_738 : decode cXL_law 738 = .ok (.ireturn, 1) := by decide +kernel
theorem dXL_law_739 : decode cXL_law 739 = .ok (.goto 29, 3) := by decide +kernel
theorem dXL_law_742 : decode cXL_law 742 = .ok (.aload_n 1, 1) := by decide +kernel
theorem dXL_law_743 : decode cXL_law 743 = .ok (.invokevirtual 86, 3) := by decide +kernel
theorem dXL_law_746 : decode cXL_law 746 = .ok (.aload_n 2, 1) := by decide +kernel
theorem dXL_law_747 : decode cXL_law 747 = .ok (.invokevirtual 89, 3) := by decide +kernel
theorem dXL_law_750 : decode cXL_law 750 = .ok (.if_icmp .eq 18, 3) := by decide +kernel
theorem dXL_law_753 : decode cXL_law 753 = .ok (.iconst 0, 1) := by decide +kernel
theorem dXL_law_754 : decode cXL_law 754 = .ok (.ireturn, 1) := by decide +kernel
theorem dXL_law_755 : decode cXL_law 755 = .ok (.aload_n 1, 1) := by decide +kernel
theorem dXL_law_756 : decode cXL_law 756 = .ok (.invokevirtual 90, 3) := by decide +kernel
theorem dXL_law_759 : decode cXL_law 759 = .ok (.aload_n 2, 1) := by decide +kernel
theorem dXL_law_760 : decode cXL_law 760 = .ok (.invokevirtual 93, 3) := by decide +kernel
theorem dXL_law_763 : decode cXL_law 763 = .ok (.if_icmp .eq 5, 3) := by decide +kernel
theorem dXL_law_766 : decode cXL_law 766 = .ok (.iconst 0, 1) := by decide +kernel
theorem dXL_law_767 : decode cXL_law 767 = .ok (.ireturn, 1) := by decide +kernel
theorem dXL_law_768 : decode cXL_law 768 = .ok (.iinc 4 4, 3) := by decide +kernel
theorem dXL_law_771 : decode cXL_law 771 = .ok (.goto (-748), 3) := by decide +kernel
theorem dXL_law_774 : decode cXL_law 774 = .ok (.iconst 1, 1) := by decide +kernel
theorem dXL_law_775 : decode cXL_law 775 = .ok (.ireturn, 1) := by decide +kernel
