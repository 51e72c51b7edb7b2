theorem d_M_linked_125 : decode b_M_linked 125 = .ok (.iload 4, 2) := by decide +kernel
theorem d_M_linked_127 : decode b_M_linked 127 = .ok (.iload 5, 2) := by decide +kernel
theorem d_M_linked_129 : decode b_M_linked 129 = .ok (.invokevirtual 103, 3) := by decide +kernel
theorem d_M_linked_132 : decode b_M_linked 132 = .ok (.ireturn, 1) := by decide +kernel
theorem d_M_linked_133 : decode b_M_linked 133 = .ok (.iload_n 3, 1) := by decide +kernel
theorem d_M_linked_134 : decode b_M_linked 134 = .ok (.iconst 4, 1) := by decide +kernel
theorem d_M_linked_135 : decode b_M_linked 135 = .ok (.if_icmp .ne 17, 3) := by decide +kernel
theorem d_M_linked_138 : decode b_M_linked 138 = .ok (.iload 6, 2) := by decide +kernel
theorem d_M_linked_140 : decode b_M_linked 140 = .ok (.iconst 3, 1) := by decide +kernel
theorem d_M_linked_141 : decode b_M_linked 141 = .ok (.iand, 1) := by decide +kernel
theorem d_M_linked_142 : decode b_M_linked 142 = .ok (.ifCond .eq 8, 3) := by decide +kernel
theorem d_M_linked_145 : decode b_M_linked 145 = .ok (.bipush (-9), 2) := by decide +kernel
theorem d_M_linked_147 : decode b_M_linked 147 = .ok (.goto 4, 3) := by decide +kernel
theorem d_M_linked_150 : decode b_M_linked 150 = .ok (.iconst 0, 1) := by decide +kernel
theorem d_M_linked_151 : decode b_M_linked 151 = .ok (.ireturn, 1) := by decide +kernel
theorem d_M_linked_152 : decode b_M_linked 152 = .ok (.iload 6, 2) := by decide +kernel
theorem d_M_linked_154 : decode b_M_linked 154 = .ok (.iconst 4, 1) := by decide +kernel
theorem d_M_linked_155 : decode b_M_linked 155 = .ok (.iand, 1) := by decide +kernel
theorem d_M_linked_156 : decode b_M_linked 156 = .ok (.ifCond .ne 19, 3) := by decide +kernel
theorem d_M_linked_159 : decode b_M_linked 159 = .ok (.iload 6, 2) := by decide +kernel
theorem d_M_linked_161 : decode b_M_linked 161 = .ok (.iconst 1, 1) := by decide +kernel
theorem d_M_linked_162 : decode b_M_linked 162 = .ok (.iand, 1) := by decide +kernel
theorem d_M_linked_163 : decode b_M_linked 163 = .ok (.aload_n 0, 1) := by decide +kernel
theorem d_M_linked_164 : decode b_M_linked 164 = .ok (.getfield 13, 3) := by decide +kernel
theorem d_M_linked_167 : decode b_M_linked 167 = .ok (.iload 4, 2) := by decide +kernel
theorem d_M_linked_169 : decode b_M_linked 169 = .ok (.iaload, 1) := by decide +kernel
theorem d_M_linked_170 : decode b_M_linked 170 = .ok (.iconst 1, 1) := by decide +kernel
theorem d_M_linked_171 : decode b_M_linked 171 = .ok (.iand, 1) := by decide +kernel
theorem d_M_linked_172 : decode b_M_linked 172 = .ok (.if_icmp .eq 6, 3) := by decide +kernel
theorem d_M_linked_175 : decode b_M_linked 175 = .ok (.bipush (-9), 2) := by decide +kernel
theorem d_M_linked_177 : decode b_M_linked 177 = .ok (.ireturn, 1) := by decide +kernel
theorem d_M_linked_178 : decode b_M_linked 178 = .ok (.iload_n 3, 1) := by decide +kernel
theorem d_M_linked_179 : decode b_M_linked 179 = .ok (.iconst 5, 1) := by decide +kernel
theorem d_M_linked_180 : decode b_M_linked 180 = .ok (.if_icmp .ne 7, 3) := by decide +kernel
theorem d_M_linked_183 : decode b_M_linked 183 = .ok (.iconst 0, 1) := by decide +kernel
theorem d_M_linked_184 : decode b_M_linked 184 = .ok (.goto 11, 3) := by decide +kernel
theorem d_M_linked_187 : decode b_M_linked 187 = .ok (.aload_n 0, 1) := by decide +kernel
theorem d_M_linked_188 : decode b_M_linked 188 = .ok (.iload 4, 2) := by decide +kernel
theorem d_M_linked_190 : decode b_M_linked 190 = .ok (.iload 5, 2) := by decide +kernel
theorem d_M_linked_192 : decode b_M_linked 192 = .ok (.invokevirtual 106, 3) := by decide +kernel
theorem d_M_linked_195 : decode b_M_linked 195 = .ok (.ireturn, 1) := by decide +kernel
theorem d_M_link_0 : decode b_M_link 0 = .ok (.iload_n 1, 1) := by decide +kernel
theorem d_M_link_1 : decode b_M_link 1 = .ok (.iconst 0, 1) := by decide +kernel
theorem d_M_link_2 : decode b_M_link 2 = .ok (.aload_n 0, 1) := by decide +kernel
theorem d_M_link_3 : decode b_M_link 3 = .ok (.getfield 59, 3) := by decide +kernel
theorem d_M_link_6 : decode b_M_link 6 = .ok (.iconst 1, 1) := by decide +kernel
theorem d_M_link_7 : decode b_M_link 7 = .ok (.isub, 1) := by decide +kernel
theorem d_M_link_8 : decode b_M_link 8 = .ok (.invokestatic 47, 3) := by decide +kernel
theorem d_M_link_11 : decode b_M_link 11 = .ok (.ifCond .eq 11, 3) := by decide +kernel
theorem d_M_link_14 : decode b_M_link 14 = .ok (.aload_n 0, 1) := by decide +kernel
theorem d_M_link_15 : decode b_M_link 15 = .ok (.iload_n 1, 1) := by decide +kernel
theorem d_M_link_16 : decode b_M_link 16 = .ok (.invokevirtual 109, 3) := by decide +kernel
theorem d_M_link_19 : decode b_M_link 19 = .ok (.goto 4, 3) := by decide +kernel
theorem d_M_link_22 : decode b_M_link 22 = .ok (.iconst (-1), 1) := by decide +kernel
theorem d_M_link_23 : decode b_M_link 23 = .ok (.ireturn, 1) := by decide +kernel
theorem d_M_recompile_0 : decode b_M_recompile 0 = .ok (.iload_n 1, 1) := by decide +kernel
theorem d_M_recompile_1 : decode b_M_recompile 1 = .ok (.iconst 0, 1) := by decide +kernel
theorem d_M_recompile_2 : decode b_M_recompile 2 = .ok (.aload_n 0, 1) := by decide +kernel
theorem d_M_recompile_3 : decode b_M_recompile 3 = .ok (.getfield 59, 3) := by decide +kernel
theorem d_M_recompile_6 : decode b_M_recompile 6 = .ok (.iconst 1, 1) := by decide +kernel
theorem d_M_recompile_7 : decode b_M_recompile 7 = .ok (.isub, 1) := by decide +kernel
theorem d_M_recompile_8 : decode b_M_recompile 8 = .ok (.invokestatic 47, 3) := by decide +kernel
theorem d_M_recompile_11 : decode b_M_recompile 11 = .ok (.ifCond .ne 5, 3) := by decide +kernel
theorem d_M_recompile_14 : decode b_M_recompile 14 = .ok (.iconst (-1), 1) := by decide +kernel
theorem d_M_recompile_15 : decode b_M_recompile 15 = .ok (.ireturn, 1) := by decide +kernel
theorem d_M_recompile_16 : decode b_M_recompile 16 = .ok (.aload_n 0, 1) := by decide +kernel
theorem d_M_recompile_17 : decode b_M_recompile 17 = .ok (.iload_n 1, 1) := by decide +kernel
theorem d_M_recompile_18 : decode b_M_recompile 18 = .ok (.iconst 0, 1) := by decide +kernel
theorem d_M_recompile_19 : decode b_M_recompile 19 = .ok (.invokevirtual 94, 3) := by decide +kernel
theorem d_M_recompile_22 : decode b_M_recompile 22 = .ok (.istore_n 2, 1) := by decide +kernel
theorem d_M_recompile_23 : decode b_M_recompile 23 = .ok (.iload_n 2, 1) := by decide +kernel
theorem d_M_recompile_24 : decode b_M_recompile 24 = .ok (.ifCond .ne 10, 3) := by decide +kernel
theorem d_M_recompile_27 : decode b_M_recompile 27 = .ok (.aload_n 0, 1) := by decide +kernel
theorem d_M_recompile_28 : decode b_M_recompile 28 = .ok (.iload_n 1, 1) := by decide +kernel
theorem d_M_recompile_29 : decode b_M_recompile 29 = .ok (.iconst 1, 1) := by decide +kernel
theorem d_M_recompile_30 : decode b_M_recompile 30 = .ok (.invokevirtual 94, 3) := by decide +kernel
theorem d_M_recompile_33 : decode b_M_recompile 33 = .ok (.istore_n 2, 1) := by decide +kernel
theorem d_M_recompile_34 : decode b_M_recompile 34 = .ok (.iload_n 2, 1) := by decide +kernel
theorem d_M_recompile_35 : decode b_M_recompile 35 = .ok (.ifCond .eq 5, 3) := by decide +kernel
theorem d_M_recompile_38 : decode b_M_recompile 38 = .ok (.iload_n 2, 1) := by decide +kernel
theorem d_M_recompile_39 : decode b_M_recompile 39 = .ok (.ireturn, 1) := by decide +kernel
theorem d_M_recompile_40 : decode b_M_recompile 40 = .ok (.iconst 0, 1) := by decide +kernel
theorem d_M_recompile_41 : decode b_M_recompile 41 = .ok (.istore_n 3, 1) := by decide +kernel
theorem d_M_recompile_42 : decode b_M_recompile 42 = .ok (.iload_n 3, 1) := by decide +kernel
theorem d_M_recompile_43 : decode b_M_recompile 43 = .ok (.bipush 6, 2) := by decide +kernel
theorem d_M_recompile_45 : decode b_M_recompile 45 = .ok (.if_icmp .ge 29, 3) := by decide +kernel
theorem d_M_recompile_48 : decode b_M_recompile 48 = .ok (.aload_n 0, 1) := by decide +kernel
theorem d_M_recompile_49 : decode b_M_recompile 49 = .ok (.getfield 41, 3) := by decide +kernel
theorem d_M_recompile_52 : decode b_M_recompile 52 = .ok (.iload_n 3, 1) := by decide +kernel
theorem d_M_recompile_53 : decode b_M_recompile 53 = .ok (.iaload, 1) := by decide +kernel
theorem d_M_recompile_54 : decode b_M_recompile 54 = .ok (.aload_n 0, 1) := by decide +kernel
theorem d_M_recompile_55 : decode b_M_recompile 55 = .ok (.getfield 41, 3) := by decide +kernel
theorem d_M_recompile_58 : decode b_M_recompile 58 = .ok (.bipush 7, 2) := by decide +kernel
theorem d_M_recompile_60 : decode b_M_recompile 60 = .ok (.iload_n 3, 1) := by decide +kernel
theorem d_M_recompile_61 : decode b_M_recompile 61 = .ok (.iadd, 1) := by decide +kernel
theorem d_M_recompile_62 : decode b_M_recompile 62 = .ok (.iaload, 1) := by decide +kernel
theorem d_M_recompile_63 : decode b_M_recompile 63 = .ok (.if_icmp .eq 5, 3) := by decide +kernel
theorem d_M_recompile_66 : decode b_M_recompile 66 = .ok (.iconst 1, 1) := by decide +kernel
theorem d_M_recompile_67 : decode b_M_recompile 67 = .ok (.ireturn, 1) := by decide +kernel
theorem d_M_recompile_68 : decode b_M_recompile 68 = .ok (.iinc 3 1, 3) := by decide +kernel
theorem d_M_recompile_71 : decode b_M_recompile 71 = .ok (.goto (-29), 3) := by decide +kernel
theorem d_M_recompile_74 : decode b_M_recompile 74 = .ok (.iconst 0, 1) := by decide +kernel
theorem d_M_recompile_75 : decode b_M_recompile 75 = .ok (.ireturn, 1) := by decide +kernel
theorem d_M_value_0 : decode b_M_value 0 = .ok (.iload_n 1, 1) := by decide +kernel
theorem d_M_value_1 : decode b_M_value 1 = .ok (.iconst 0, 1) := by decide +kernel
theorem d_M_value_2 : decode b_M_value 2 = .ok (.aload_n 0, 1) := by decide +kernel
theorem d_M_value_3 : decode b_M_value 3 = .ok (.getfield 59, 3) := by decide +kernel
theorem d_M_value_6 : decode b_M_value 6 = .ok (.iconst 1, 1) := by decide +kernel
theorem d_M_value_7 : decode b_M_value 7 = .ok (.isub, 1) := by decide +kernel
theorem d_M_value_8 : decode b_M_value 8 = .ok (.invokestatic 47, 3) := by decide +kernel
theorem d_M_value_11 : decode b_M_value 11 = .ok (.ifCond .eq 33, 3) := by decide +kernel
theorem d_M_value_14 : decode b_M_value 14 = .ok (.iload_n 2, 1) := by decide +kernel
theorem d_M_value_15 : decode b_M_value 15 = .ok (.iconst 0, 1) := by decide +kernel
theorem d_M_value_16 : decode b_M_value 16 = .ok (.iconst 1, 1) := by decide +kernel
theorem d_M_value_17 : decode b_M_value 17 = .ok (.invokestatic 47, 3) := by decide +kernel
theorem d_M_value_20 : decode b_M_value 20 = .ok (.ifCond .eq 24, 3) := by decide +kernel
theorem d_M_value_23 : decode b_M_value 23 = .ok (.aload_n 0, 1) := by decide +kernel
theorem d_M_value_24 : decode b_M_value 24 = .ok (.iload_n 1, 1) := by decide +kernel
theorem d_M_value_25 : decode b_M_value 25 = .ok (.iload_n 2, 1) := by decide +kernel
theorem d_M_value_26 : decode b_M_value 26 = .ok (.invokevirtual 94, 3) := by decide +kernel
theorem d_M_value_29 : decode b_M_value 29 = .ok (.ifCond .ne 15, 3) := by decide +kernel
theorem d_M_value_32 : decode b_M_value 32 = .ok (.aload_n 0, 1) := by decide +kernel
theorem d_M_value_33 : decode b_M_value 33 = .ok (.getfield 41, 3) := by decide +kernel
theorem d_M_value_36 : decode b_M_value 36 = .ok (.bipush 7, 2) := by decide +kernel
theorem d_M_value_38 : decode b_M_value 38 = .ok (.iload_n 2, 1) := by decide +kernel
theorem d_M_value_39 : decode b_M_value 39 = .ok (.imul, 1) := by decide +kernel
theorem d_M_value_40 : decode b_M_value 40 = .ok (.iaload, 1) := by decide +kernel
theorem d_M_value_41 : decode b_M_value 41 = .ok (.ifCond .ne 5, 3) := by decide +kernel
theorem d_M_value_44 : decode b_M_value 44 = .ok (.dconst 0, 1) := by decide +kernel
theorem d_M_value_45 : decode b_M_value 45 = .ok (.dreturn, 1) := by decide +kernel
theorem d_M_value_46 : decode b_M_value 46 = .ok (.aload_n 0, 1) := by decide +kernel
theorem d_M_value_47 : decode b_M_value 47 = .ok (.getfield 41, 3) := by decide +kernel
theorem d_M_value_50 : decode b_M_value 50 = .ok (.bipush 7, 2) := by decide +kernel
theorem d_M_value_52 : decode b_M_value 52 = .ok (.iload_n 2, 1) := by decide +kernel
theorem d_M_value_53 : decode b_M_value 53 = .ok (.imul, 1) := by decide +kernel
theorem d_M_value_54 : decode b_M_value 54 = .ok (.iconst 1, 1) := by decide +kernel
theorem d_M_value_55 : decode b_M_value 55 = .ok (.iadd, 1) := by decide +kernel
theorem d_M_value_56 : decode b_M_value 56 = .ok (.iaload, 1) := by decide +kernel
theorem d_M_value_57 : decode b_M_value 57 = .ok (.ifCond .ne 18, 3) := by decide +kernel
theorem d_M_value_60 : decode b_M_value 60 = .ok (.aload_n 0, 1) := by decide +kernel
theorem d_M_value_61 : decode b_M_value 61 = .ok (.getfield 41, 3) := by decide +kernel
theorem d_M_value_64 : decode b_M_value 64 = .ok (.bipush 7, 2) := by decide +kernel
theorem d_M_value_66 : decode b_M_value 66 = .ok (.iload_n 2, 1) := by decide +kernel
theorem d_M_value_67 : decode b_M_value 67 = .ok (.imul, 1) := by decide +kernel
theorem d_M_value_68 : decode b_M_value 68 = .ok (.iconst 5, 1) := by decide +kernel
theorem d_M_value_69 : decode b_M_value 69 = .ok (.iadd, 1) := by decide +kernel
theorem d_M_value_70 : decode b_M_value 70 = .ok (.iaload, 1) := by decide +kernel
theorem d_M_value_71 : decode b_M_value 71 = .ok (.i2d, 1) := by decide +kernel
theorem d_M_value_72 : decode b_M_value 72 = .ok (.goto 19, 3) := by decide +kernel
theorem d_M_value_75 : decode b_M_value 75 = .ok (.aload_n 0, 1) := by decide +kernel
theorem d_M_value_76 : decode b_M_value 76 = .ok (.getfield 41, 3) := by decide +kernel
theorem d_M_value_79 : decode b_M_value 79 = .ok (.bipush 7, 2) := by decide +kernel
theorem d_M_value_81 : decode b_M_value 81 = .ok (.iload_n 2, 1) := by decide +kernel
theorem d_M_value_82 : decode b_M_value 82 = .ok (.imul, 1) := by decide +kernel
theorem d_M_value_83 : decode b_M_value 83 = .ok (.iconst 5, 1) := by decide +kernel
theorem d_M_value_84 : decode b_M_value 84 = .ok (.iadd, 1) := by decide +kernel
theorem d_M_value_85 : decode b_M_value 85 = .ok (.iaload, 1) := by decide +kernel
theorem d_M_value_86 : decode b_M_value 86 = .ok (.i2d, 1) := by decide +kernel
theorem d_M_value_87 : decode b_M_value 87 = .ok (.ldc2_w 113, 3) := by decide +kernel
theorem d_M_value_90 : decode b_M_value 90 = .ok (.dmul, 1) := by decide +kernel
theorem d_M_value_91 : decode b_M_value 91 = .ok (.dreturn, 1) := by decide +kernel
theorem d_M_state_0 : decode b_M_state 0 = .ok (.aload_n 0, 1) := by decide +kernel
theorem d_M_state_1 : decode b_M_state 1 = .ok (.iload_n 1, 1) := by decide +kernel
theorem d_M_state_2 : decode b_M_state 2 = .ok (.iconst 0, 1) := by decide +kernel
theorem d_M_state_3 : decode b_M_state 3 = .ok (.invokevirtual 94, 3) := by decide +kernel
theorem d_M_state_6 : decode b_M_state 6 = .ok (.ifCond .eq 5, 3) := by decide +kernel
theorem d_M_state_9 : decode b_M_state 9 = .ok (.iconst 0, 1) := by decide +kernel
theorem d_M_state_10 : decode b_M_state 10 = .ok (.ireturn, 1) := by decide +kernel
theorem d_M_state_11 : decode b_M_state 11 = .ok (.aload_n 0, 1) := by decide +kernel
theorem d_M_state_12 : decode b_M_state 12 = .ok (.iload_n 1, 1) := by decide +kernel
theorem d_M_state_13 : decode b_M_state 13 = .ok (.invokevirtual 109, 3) := by decide +kernel
theorem d_M_state_16 : decode b_M_state 16 = .ok (.ifCond .ge 7, 3) := by decide +kernel
theorem d_M_state_19 : decode b_M_state 19 = .ok (.iconst 2, 1) := by decide +kernel
theorem d_M_state_20 : decode b_M_state 20 = .ok (.goto 4, 3) := by decide +kernel
theorem d_M_state_23 : decode b_M_state 23 = .ok (.iconst 1, 1) := by decide +kernel
theorem d_M_state_24 : decode b_M_state 24 = .ok (.ireturn, 1) := by decide +kernel
theorem d_M_having_0 : decode b_M_having 0 = .ok (.iconst 0, 1) := by decide +kernel
theorem d_M_having_1 : decode b_M_having 1 = .ok (.istore_n 2, 1) := by decide +kernel
theorem d_M_having_2 : decode b_M_having 2 = .ok (.iconst 0, 1) := by decide +kernel
theorem d_M_having_3 : decode b_M_having 3 = .ok (.istore_n 3, 1) := by decide +kernel
theorem d_M_having_4 : decode b_M_having 4 = .ok (.iload_n 3, 1) := by decide +kernel
theorem d_M_having_5 : decode b_M_having 5 = .ok (.aload_n 0, 1) := by decide +kernel
theorem d_M_having_6 : decode b_M_having 6 = .ok (.getfield 59, 3) := by decide +kernel
theorem d_M_having_9 : decode b_M_having 9 = .ok (.if_icmp .ge 21, 3) := by decide +kernel
theorem d_M_having_12 : decode b_M_having 12 = .ok (.aload_n 0, 1) := by decide +kernel
theorem d_M_having_13 : decode b_M_having 13 = .ok (.iload_n 3, 1) := by decide +kernel
theorem d_M_having_14 : decode b_M_having 14 = .ok (.invokevirtual 115, 3) := by decide +kernel
theorem d_M_having_17 : decode b_M_having 17 = .ok (.iload_n 1, 1) := by decide +kernel
theorem d_M_having_18 : decode b_M_having 18 = .ok (.if_icmp .ne 6, 3) := by decide +kernel
theorem d_M_having_21 : decode b_M_having 21 = .ok (.iinc 2 1, 3) := by decide +kernel
theorem d_M_having_24 : decode b_M_having 24 = .ok (.iinc 3 1, 3) := by decide +kernel
theorem d_M_having_27 : decode b_M_having 27 = .ok (.goto (-23), 3) := by decide +kernel
theorem d_M_having_30 : decode b_M_having 30 = .ok (.iload_n 2, 1) := by decide +kernel
theorem d_M_having_31 : decode b_M_having 31 = .ok (.ireturn, 1) := by decide +kernel
theorem d_M_share_0 : decode b_M_share 0 = .ok (.aload_n 0, 1) := by decide +kernel
theorem d_M_share_1 : decode b_M_share 1 = .ok (.iconst 1, 1) := by decide +kernel
theorem d_M_share_2 : decode b_M_share 2 = .ok (.invokevirtual 118, 3) := by decide +kernel
theorem d_M_share_5 : decode b_M_share 5 = .ok (.istore_n 1, 1) := by decide +kernel
theorem d_M_share_6 : decode b_M_share 6 = .ok (.iload_n 1, 1) := by decide +kernel
theorem d_M_share_7 : decode b_M_share 7 = .ok (.aload_n 0, 1) := by decide +kernel
theorem d_M_share_8 : decode b_M_share 8 = .ok (.iconst 2, 1) := by decide +kernel
theorem d_M_share_9 : decode b_M_share 9 = .ok (.invokevirtual 118, 3) := by decide +kernel
theorem d_M_share_12 : decode b_M_share 12 = .ok (.iadd, 1) := by decide +kernel
theorem d_M_share_13 : decode b_M_share 13 = .ok (.istore_n 2, 1) := by decide +kernel
theorem d_M_share_14 : decode b_M_share 14 = .ok (.iload_n 2, 1) := by decide +kernel
theorem d_M_share_15 : decode b_M_share 15 = .ok (.ifCond .ne 7, 3) := by decide +kernel
theorem d_M_share_18 : decode b_M_share 18 = .ok (.dconst 1, 1) := by decide +kernel
theorem d_M_share_19 : decode b_M_share 19 = .ok (.goto 8, 3) := by decide +kernel
theorem d_M_share_22 : decode b_M_share 22 = .ok (.iload_n 1, 1) := by decide +kernel
theorem d_M_share_23 : decode b_M_share 23 = .ok (.i2d, 1) := by decide +kernel
theorem d_M_share_24 : decode b_M_share 24 = .ok (.iload_n 2, 1) := by decide +kernel
theorem d_M_share_25 : decode b_M_share 25 = .ok (.i2d, 1) := by decide +kernel
theorem d_M_share_26 : decode b_M_share 26 = .ok (.ddiv, 1) := by decide +kernel
theorem d_M_share_27 : decode b_M_share 27 = .ok (.dreturn, 1) := by decide +kernel
theorem d_M_breaking_0 : decode b_M_breaking 0 = .ok (.aload_n 0, 1) := by decide +kernel
theorem d_M_breaking_1 : decode b_M_breaking 1 = .ok (.iconst 2, 1) := by decide +kernel
theorem d_M_breaking_2 : decode b_M_breaking 2 = .ok (.invokevirtual 118, 3) := by decide +kernel
theorem d_M_breaking_5 : decode b_M_breaking 5 = .ok (.ireturn, 1) := by decide +kernel
theorem d_M_broken_0 : decode b_M_broken 0 = .ok (.iconst 0, 1) := by decide +kernel
theorem d_M_broken_1 : decode b_M_broken 1 = .ok (.istore_n 2, 1) := by decide +kernel
theorem d_M_broken_2 : decode b_M_broken 2 = .ok (.iconst 0, 1) := by decide +kernel
theorem d_M_broken_3 : decode b_M_broken 3 = .ok (.istore_n 3, 1) := by decide +kernel
theorem d_M_broken_4 : decode b_M_broken 4 = .ok (.iload_n 3, 1) := by decide +kernel
theorem d_M_broken_5 : decode b_M_broken 5 = .ok (.aload_n 0, 1) := by decide +kernel
theorem d_M_broken_6 : decode b_M_broken 6 = .ok (.getfield 59, 3) := by decide +kernel
theorem d_M_broken_9 : decode b_M_broken 9 = .ok (.if_icmp .ge 31, 3) := by decide +kernel
theorem d_M_broken_12 : decode b_M_broken 12 = .ok (.aload_n 0, 1) := by decide +kernel
theorem d_M_broken_13 : decode b_M_broken 13 = .ok (.iload_n 3, 1) := by decide +kernel
theorem d_M_broken_14 : decode b_M_broken 14 = .ok (.invokevirtual 115, 3) := by decide +kernel
theorem d_M_broken_17 : decode b_M_broken 17 = .ok (.iconst 2, 1) := by decide +kernel
theorem d_M_broken_18 : decode b_M_broken 18 = .ok (.if_icmp .eq 6, 3) := by decide +kernel
theorem d_M_broken_21 : decode b_M_broken 21 = .ok (.goto 13, 3) := by decide +kernel
theorem d_M_broken_24 : decode b_M_broken 24 = .ok (.iload_n 2, 1) := by decide +kernel
theorem d_M_broken_25 : decode b_M_broken 25 = .ok (.iload_n 1, 1) := by decide +kernel
theorem d_M_broken_26 : decode b_M_broken 26 = .ok (.if_icmp .ne 5, 3) := by decide +kernel
theorem d_M_broken_29 : decode b_M_broken 29 = .ok (.iload_n 3, 1) := by decide +kernel
theorem d_M_broken_30 : decode b_M_broken 30 = .ok (.ireturn, 1) := by decide +kernel
theorem d_M_broken_31 : decode b_M_broken 31 = .ok (.iinc 2 1, 3) := by decide +kernel
theorem d_M_broken_34 : decode b_M_broken 34 = .ok (.iinc 3 1, 3) := by decide +kernel
theorem d_M_broken_37 : decode b_M_broken 37 = .ok (.goto (-33), 3) := by decide +kernel
theorem d_M_broken_40 : decode b_M_broken 40 = .ok (.iconst (-1), 1) := by decide +kernel
theorem d_M_broken_41 : decode b_M_broken 41 = .ok (.ireturn, 1) := by decide +kernel
theorem d_M_differences_0 : decode b_M_differences 0 = .ok (.iconst 0, 1) := by decide +kernel
theorem d_M_differences_1 : decode b_M_differences 1 = .ok (.istore_n 2, 1) := by decide +kernel
theorem d_M_differences_2 : decode b_M_differences 2 = .ok (.bipush 6, 2) := by decide +kernel
theorem d_M_differences_4 : decode b_M_differences 4 = .ok (.iload_n 1, 1) := by decide +kernel
theorem d_M_differences_5 : decode b_M_differences 5 = .ok (.iadd, 1) := by decide +kernel
theorem d_M_differences_6 : decode b_M_differences 6 = .ok (.istore_n 3, 1) := by decide +kernel
theorem d_M_differences_7 : decode b_M_differences 7 = .ok (.aload_n 0, 1) := by decide +kernel
theorem d_M_differences_8 : decode b_M_differences 8 = .ok (.getfield 13, 3) := by decide +kernel
theorem d_M_differences_11 : decode b_M_differences 11 = .ok (.iload_n 1, 1) := by decide +kernel
theorem d_M_differences_12 : decode b_M_differences 12 = .ok (.iaload, 1) := by decide +kernel
theorem d_M_differences_13 : decode b_M_differences 13 = .ok (.aload_n 0, 1) := by decide +kernel
theorem d_M_differences_14 : decode b_M_differences 14 = .ok (.getfield 13, 3) := by decide +kernel
theorem d_M_differences_17 : decode b_M_differences 17 = .ok (.iload_n 3, 1) := by decide +kernel
theorem d_M_differences_18 : decode b_M_differences 18 = .ok (.iaload, 1) := by decide +kernel
theorem d_M_differences_19 : decode b_M_differences 19 = .ok (.if_icmp .eq 6, 3) := by decide +kernel
theorem d_M_differences_22 : decode b_M_differences 22 = .ok (.iinc 2 1, 3) := by decide +kernel
theorem d_M_differences_25 : decode b_M_differences 25 = .ok (.aload_n 0, 1) := by decide +kernel
theorem d_M_differences_26 : decode b_M_differences 26 = .ok (.getfield 17, 3) := by decide +kernel
theorem d_M_differences_29 : decode b_M_differences 29 = .ok (.iload_n 1, 1) := by decide +kernel
theorem d_M_differences_30 : decode b_M_differences 30 = .ok (.iaload, 1) := by decide +kernel
theorem d_M_differences_31 : decode b_M_differences 31 = .ok (.aload_n 0, 1) := by decide +kernel
theorem d_M_differences_32 : decode b_M_differences 32 = .ok (.getfield 17, 3) := by decide +kernel
theorem d_M_differences_35 : decode b_M_differences 35 = .ok (.iload_n 3, 1) := by decide +kernel
theorem d_M_differences_36 : decode b_M_differences 36 = .ok (.iaload, 1) := by decide +kernel
theorem d_M_differences_37 : decode b_M_differences 37 = .ok (.if_icmp .eq 6, 3) := by decide +kernel
theorem d_M_differences_40 : decode b_M_differences 40 = .ok (.iinc 2 1, 3) := by decide +kernel
theorem d_M_differences_43 : decode b_M_differences 43 = .ok (.aload_n 0, 1) := by decide +kernel
theorem d_M_differences_44 : decode b_M_differences 44 = .ok (.getfield 20, 3) := by decide +kernel
theorem d_M_differences_47 : decode b_M_differences 47 = .ok (.iload_n 1, 1) := by decide +kernel
theorem d_M_differences_48 : decode b_M_differences 48 = .ok (.iaload, 1) := by decide +kernel
theorem d_M_differences_49 : decode b_M_differences 49 = .ok (.aload_n 0, 1) := by decide +kernel
theorem d_M_differences_50 : decode b_M_differences 50 = .ok (.getfield 20, 3) := by decide +kernel
theorem d_M_differences_53 : decode b_M_differences 53 = .ok (.iload_n 3, 1) := by decide +kernel
theorem d_M_differences_54 : decode b_M_differences 54 = .ok (.iaload, 1) := by decide +kernel
theorem d_M_differences_55 : decode b_M_differences 55 = .ok (.if_icmp .eq 6, 3) := by decide +kernel
theorem d_M_differences_58 : decode b_M_differences 58 = .ok (.iinc 2 1, 3) := by decide +kernel
theorem d_M_differences_61 : decode b_M_differences 61 = .ok (.iconst 0, 1) := by decide +kernel
theorem d_M_differences_62 : decode b_M_differences 62 = .ok (.istore 4, 2) := by decide +kernel
theorem d_M_differences_64 : decode b_M_differences 64 = .ok (.iload 4, 2) := by decide +kernel
theorem d_M_differences_66 : decode b_M_differences 66 = .ok (.iconst 4, 1) := by decide +kernel
theorem d_M_differences_67 : decode b_M_differences 67 = .ok (.if_icmp .ge 136, 3) := by decide +kernel
theorem d_M_differences_70 : decode b_M_differences 70 = .ok (.iconst 4, 1) := by decide +kernel
theorem d_M_differences_71 : decode b_M_differences 71 = .ok (.iload_n 1, 1) := by decide +kernel
theorem d_M_differences_72 : decode b_M_differences 72 = .ok (.imul, 1) := by decide +kernel
theorem d_M_differences_73 : decode b_M_differences 73 = .ok (.iload 4, 2) := by decide +kernel
theorem d_M_differences_75 : decode b_M_differences 75 = .ok (.iadd, 1) := by decide +kernel
theorem d_M_differences_76 : decode b_M_differences 76 = .ok (.istore 5, 2) := by decide +kernel
theorem d_M_differences_78 : decode b_M_differences 78 = .ok (.iconst 4, 1) := by decide +kernel
theorem d_M_differences_79 : decode b_M_differences 79 = .ok (.iload_n 3, 1) := by decide +kernel
theorem d_M_differences_80 : decode b_M_differences 80 = .ok (.imul, 1) := by decide +kernel
theorem d_M_differences_81 : decode b_M_differences 81 = .ok (.iload 4, 2) := by decide +kernel
theorem d_M_differences_83 : decode b_M_differences 83 = .ok (.iadd, 1) := by decide +kernel
theorem d_M_differences_84 : decode b_M_differences 84 = .ok (.istore 6, 2) := by decide +kernel
theorem d_M_differences_86 : decode b_M_differences 86 = .ok (.aload_n 0, 1) := by decide +kernel
theorem d_M_differences_87 : decode b_M_differences 87 = .ok (.getfield 23, 3) := by decide +kernel
theorem d_M_differences_90 : decode b_M_differences 90 = .ok (.iload 5, 2) := by decide +kernel
theorem d_M_differences_92 : decode b_M_differences 92 = .ok (.iaload, 1) := by decide +kernel
theorem d_M_differences_93 : decode b_M_differences 93 = .ok (.aload_n 0, 1) := by decide +kernel
theorem d_M_differences_94 : decode b_M_differences 94 = .ok (.getfield 23, 3) := by decide +kernel
theorem d_M_differences_97 : decode b_M_differences 97 = .ok (.iload 6, 2) := by decide +kernel
theorem d_M_differences_99 : decode b_M_differences 99 = .ok (.iaload, 1) := by decide +kernel
theorem d_M_differences_100 : decode b_M_differences 100 = .ok (.if_icmp .ne 34, 3) := by decide +kernel
theorem d_M_differences_103 : decode b_M_differences 103 = .ok (.aload_n 0, 1) := by decide +kernel
theorem d_M_differences_104 : decode b_M_differences 104 = .ok (.getfield 23, 3) := by decide +kernel
theorem d_M_differences_107 : decode b_M_differences 107 = .ok (.iload 5, 2) := by decide +kernel
theorem d_M_differences_109 : decode b_M_differences 109 = .ok (.iaload, 1) := by decide +kernel
theorem d_M_differences_110 : decode b_M_differences 110 = .ok (.ifCond .lt 20, 3) := by decide +kernel
theorem d_M_differences_113 : decode b_M_differences 113 = .ok (.aload_n 0, 1) := by decide +kernel
theorem d_M_differences_114 : decode b_M_differences 114 = .ok (.getfield 26, 3) := by decide +kernel
theorem d_M_differences_117 : decode b_M_differences 117 = .ok (.iload 5, 2) := by decide +kernel
theorem d_M_differences_119 : decode b_M_differences 119 = .ok (.iaload, 1) := by decide +kernel
theorem d_M_differences_120 : decode b_M_differences 120 = .ok (.aload_n 0, 1) := by decide +kernel
theorem d_M_differences_121 : decode b_M_differences 121 = .ok (.getfield 26, 3) := by decide +kernel
theorem d_M_differences_124 : decode b_M_differences 124 = .ok (.iload 6, 2) := by decide +kernel
theorem d_M_differences_126 : decode b_M_differences 126 = .ok (.iaload, 1) := by decide +kernel
theorem d_M_differences_127 : decode b_M_differences 127 = .ok (.if_icmp .ne 7, 3) := by decide +kernel
theorem d_M_differences_130 : decode b_M_differences 130 = .ok (.iconst 1, 1) := by decide +kernel
theorem d_M_differences_131 : decode b_M_differences 131 = .ok (.goto 4, 3) := by decide +kernel
theorem d_M_differences_134 : decode b_M_differences 134 = .ok (.iconst 0, 1) := by decide +kernel
theorem d_M_differences_135 : decode b_M_differences 135 = .ok (.istore 7, 2) := by decide +kernel
theorem d_M_differences_137 : decode b_M_differences 137 = .ok (.aload_n 0, 1) := by decide +kernel
theorem d_M_differences_138 : decode b_M_differences 138 = .ok (.getfield 23, 3) := by decide +kernel
theorem d_M_differences_141 : decode b_M_differences 141 = .ok (.iload 5, 2) := by decide +kernel
theorem d_M_differences_143 : decode b_M_differences 143 = .ok (.iaload, 1) := by decide +kernel
theorem d_M_differences_144 : decode b_M_differences 144 = .ok (.ifCond .lt 20, 3) := by decide +kernel
theorem d_M_differences_147 : decode b_M_differences 147 = .ok (.aload_n 0, 1) := by decide +kernel
theorem d_M_differences_148 : decode b_M_differences 148 = .ok (.getfield 26, 3) := by decide +kernel
theorem d_M_differences_151 : decode b_M_differences 151 = .ok (.iload 5, 2) := by decide +kernel
theorem d_M_differences_153 : decode b_M_differences 153 = .ok (.iaload, 1) := by decide +kernel
theorem d_M_differences_154 : decode b_M_differences 154 = .ok (.bipush 16, 2) := by decide +kernel
theorem d_M_differences_156 : decode b_M_differences 156 = .ok (.iand, 1) := by decide +kernel
theorem d_M_differences_157 : decode b_M_differences 157 = .ok (.ifCond .eq 7, 3) := by decide +kernel
theorem d_M_differences_160 : decode b_M_differences 160 = .ok (.iconst 1, 1) := by decide +kernel
theorem d_M_differences_161 : decode b_M_differences 161 = .ok (.goto 4, 3) := by decide +kernel
theorem d_M_differences_164 : decode b_M_differences 164 = .ok (.iconst 0, 1) := by decide +kernel
theorem d_M_differences_165 : decode b_M_differences 165 = .ok (.istore 8, 2) := by decide +kernel
theorem d_M_differences_167 : decode b_M_differences 167 = .ok (.iload 7, 2) := by decide +kernel
theorem d_M_differences_169 : decode b_M_differences 169 = .ok (.ifCond .eq 25, 3) := by decide +kernel
theorem d_M_differences_172 : decode b_M_differences 172 = .ok (.iload 8, 2) := by decide +kernel
theorem d_M_differences_174 : decode b_M_differences 174 = .ok (.ifCond .eq 23, 3) := by decide +kernel
theorem d_M_differences_177 : decode b_M_differences 177 = .ok (.aload_n 0, 1) := by decide +kernel
theorem d_M_differences_178 : decode b_M_differences 178 = .ok (.getfield 29, 3) := by decide +kernel
theorem d_M_differences_181 : decode b_M_differences 181 = .ok (.iload 5, 2) := by decide +kernel
theorem d_M_differences_183 : decode b_M_differences 183 = .ok (.iaload, 1) := by decide +kernel
theorem d_M_differences_184 : decode b_M_differences 184 = .ok (.aload_n 0, 1) := by decide +kernel
theorem d_M_differences_185 : decode b_M_differences 185 = .ok (.getfield 29, 3) := by decide +kernel
theorem d_M_differences_188 : decode b_M_differences 188 = .ok (.iload 6, 2) := by decide +kernel
theorem d_M_differences_190 : decode b_M_differences 190 = .ok (.iaload, 1) := by decide +kernel
theorem d_M_differences_191 : decode b_M_differences 191 = .ok (.if_icmp .eq 6, 3) := by decide +kernel
theorem d_M_differences_194 : decode b_M_differences 194 = .ok (.iinc 2 1, 3) := by decide +kernel
theorem d_M_differences_197 : decode b_M_differences 197 = .ok (.iinc 4 1, 3) := by decide +kernel
theorem d_M_differences_200 : decode b_M_differences 200 = .ok (.goto (-136), 3) := by decide +kernel
theorem d_M_differences_203 : decode b_M_differences 203 = .ok (.iconst 0, 1) := by decide +kernel
theorem d_M_differences_204 : decode b_M_differences 204 = .ok (.istore 4, 2) := by decide +kernel
theorem d_M_differences_206 : decode b_M_differences 206 = .ok (.iload 4, 2) := by decide +kernel
theorem d_M_differences_208 : decode b_M_differences 208 = .ok (.bipush 12, 2) := by decide +kernel
theorem d_M_differences_210 : decode b_M_differences 210 = .ok (.if_icmp .ge 74, 3) := by decide +kernel
theorem d_M_differences_213 : decode b_M_differences 213 = .ok (.bipush 12, 2) := by decide +kernel
theorem d_M_differences_215 : decode b_M_differences 215 = .ok (.iload_n 1, 1) := by decide +kernel
theorem d_M_differences_216 : decode b_M_differences 216 = .ok (.imul, 1) := by decide +kernel
theorem d_M_differences_217 : decode b_M_differences 217 = .ok (.iload 4, 2) := by decide +kernel
theorem d_M_differences_219 : decode b_M_differences 219 = .ok (.iadd, 1) := by decide +kernel
theorem d_M_differences_220 : decode b_M_differences 220 = .ok (.istore 5, 2) := by decide +kernel
theorem d_M_differences_222 : decode b_M_differences 222 = .ok (.bipush 12, 2) := by decide +kernel
theorem d_M_differences_224 : decode b_M_differences 224 = .ok (.iload_n 3, 1) := by decide +kernel
theorem d_M_differences_225 : decode b_M_differences 225 = .ok (.imul, 1) := by decide +kernel
theorem d_M_differences_226 : decode b_M_differences 226 = .ok (.iload 4, 2) := by decide +kernel
theorem d_M_differences_228 : decode b_M_differences 228 = .ok (.iadd, 1) := by decide +kernel
theorem d_M_differences_229 : decode b_M_differences 229 = .ok (.istore 6, 2) := by decide +kernel
theorem d_M_differences_231 : decode b_M_differences 231 = .ok (.aload_n 0, 1) := by decide +kernel
theorem d_M_differences_232 : decode b_M_differences 232 = .ok (.getfield 32, 3) := by decide +kernel
theorem d_M_differences_235 : decode b_M_differences 235 = .ok (.iload 5, 2) := by decide +kernel
theorem d_M_differences_237 : decode b_M_differences 237 = .ok (.iaload, 1) := by decide +kernel
theorem d_M_differences_238 : decode b_M_differences 238 = .ok (.aload_n 0, 1) := by decide +kernel
theorem d_M_differences_239 : decode b_M_differences 239 = .ok (.getfield 32, 3) := by decide +kernel
theorem d_M_differences_242 : decode b_M_differences 242 = .ok (.iload 6, 2) := by decide +kernel
theorem d_M_differences_244 : decode b_M_differences 244 = .ok (.iaload, 1) := by decide +kernel
theorem d_M_differences_245 : decode b_M_differences 245 = .ok (.if_icmp .ne 30, 3) := by decide +kernel
theorem d_M_differences_248 : decode b_M_differences 248 = .ok (.aload_n 0, 1) := by decide +kernel
theorem d_M_differences_249 : decode b_M_differences 249 = .ok (.getfield 32, 3) := by decide +kernel
theorem d_M_differences_252 : decode b_M_differences 252 = .ok (.iload 5, 2) := by decide +kernel
theorem d_M_differences_254 : decode b_M_differences 254 = .ok (.iaload, 1) := by decide +kernel
theorem d_M_differences_255 : decode b_M_differences 255 = .ok (.ifCond .lt 23, 3) := by decide +kernel
theorem d_M_differences_258 : decode b_M_differences 258 = .ok (.aload_n 0, 1) := by decide +kernel
theorem d_M_differences_259 : decode b_M_differences 259 = .ok (.getfield 35, 3) := by decide +kernel
theorem d_M_differences_262 : decode b_M_differences 262 = .ok (.iload 5, 2) := by decide +kernel
theorem d_M_differences_264 : decode b_M_differences 264 = .ok (.iaload, 1) := by decide +kernel
theorem d_M_differences_265 : decode b_M_differences 265 = .ok (.aload_n 0, 1) := by decide +kernel
theorem d_M_differences_266 : decode b_M_differences 266 = .ok (.getfield 35, 3) := by decide +kernel
theorem d_M_differences_269 : decode b_M_differences 269 = .ok (.iload 6, 2) := by decide +kernel
theorem d_M_differences_271 : decode b_M_differences 271 = .ok (.iaload, 1) := by decide +kernel
theorem d_M_differences_272 : decode b_M_differences 272 = .ok (.if_icmp .eq 6, 3) := by decide +kernel
theorem d_M_differences_275 : decode b_M_differences 275 = .ok (.iinc 2 1, 3) := by decide +kernel
theorem d_M_differences_278 : decode b_M_differences 278 = .ok (.iinc 4 1, 3) := by decide +kernel
theorem d_M_differences_281 : decode b_M_differences 281 = .ok (.goto (-75), 3) := by decide +kernel
theorem d_M_differences_284 : decode b_M_differences 284 = .ok (.iload_n 2, 1) := by decide +kernel
theorem d_M_differences_285 : decode b_M_differences 285 = .ok (.ireturn, 1) := by decide +kernel
theorem d_M_differ_0 : decode b_M_differ 0 = .ok (.iload_n 1, 1) := by decide +kernel
theorem d_M_differ_1 : decode b_M_differ 1 = .ok (.iconst 0, 1) := by decide +kernel
theorem d_M_differ_2 : decode b_M_differ 2 = .ok (.iconst 5, 1) := by decide +kernel
theorem d_M_differ_3 : decode b_M_differ 3 = .ok (.invokestatic 47, 3) := by decide +kernel
theorem d_M_differ_6 : decode b_M_differ 6 = .ok (.ifCond .ne 5, 3) := by decide +kernel
theorem d_M_differ_9 : decode b_M_differ 9 = .ok (.iconst (-1), 1) := by decide +kernel
theorem d_M_differ_10 : decode b_M_differ 10 = .ok (.ireturn, 1) := by decide +kernel
theorem d_M_differ_11 : decode b_M_differ 11 = .ok (.aload_n 0, 1) := by decide +kernel
theorem d_M_differ_12 : decode b_M_differ 12 = .ok (.getfield 7, 3) := by decide +kernel
theorem d_M_differ_15 : decode b_M_differ 15 = .ok (.iload_n 1, 1) := by decide +kernel
theorem d_M_differ_16 : decode b_M_differ 16 = .ok (.baload, 1) := by decide +kernel
theorem d_M_differ_17 : decode b_M_differ 17 = .ok (.istore_n 2, 1) := by decide +kernel
theorem d_M_differ_18 : decode b_M_differ 18 = .ok (.aload_n 0, 1) := by decide +kernel
theorem d_M_differ_19 : decode b_M_differ 19 = .ok (.getfield 7, 3) := by decide +kernel
theorem d_M_differ_22 : decode b_M_differ 22 = .ok (.bipush 6, 2) := by decide +kernel
theorem d_M_differ_24 : decode b_M_differ 24 = .ok (.iload_n 1, 1) := by decide +kernel
theorem d_M_differ_25 : decode b_M_differ 25 = .ok (.iadd, 1) := by decide +kernel
theorem d_M_differ_26 : decode b_M_differ 26 = .ok (.baload, 1) := by decide +kernel
theorem d_M_differ_27 : decode b_M_differ 27 = .ok (.istore_n 3, 1) := by decide +kernel
theorem d_M_differ_28 : decode b_M_differ 28 = .ok (.iload_n 2, 1) := by decide +kernel
theorem d_M_differ_29 : decode b_M_differ 29 = .ok (.ifCond .eq 7, 3) := by decide +kernel
theorem d_M_differ_32 : decode b_M_differ 32 = .ok (.iload_n 3, 1) := by decide +kernel
theorem d_M_differ_33 : decode b_M_differ 33 = .ok (.ifCond .ne 24, 3) := by decide +kernel
theorem d_M_differ_36 : decode b_M_differ 36 = .ok (.iload_n 2, 1) := by decide +kernel
theorem d_M_differ_37 : decode b_M_differ 37 = .ok (.ifCond .eq 8, 3) := by decide +kernel
theorem d_M_differ_40 : decode b_M_differ 40 = .ok (.bipush (-3), 2) := by decide +kernel
theorem d_M_differ_42 : decode b_M_differ 42 = .ok (.goto 14, 3) := by decide +kernel
theorem d_M_differ_45 : decode b_M_differ 45 = .ok (.iload_n 3, 1) := by decide +kernel
theorem d_M_differ_46 : decode b_M_differ 46 = .ok (.ifCond .eq 8, 3) := by decide +kernel
theorem d_M_differ_49 : decode b_M_differ 49 = .ok (.bipush (-4), 2) := by decide +kernel
theorem d_M_differ_51 : decode b_M_differ 51 = .ok (.goto 5, 3) := by decide +kernel
theorem d_M_differ_54 : decode b_M_differ 54 = .ok (.bipush (-2), 2) := by decide +kernel
theorem d_M_differ_56 : decode b_M_differ 56 = .ok (.ireturn, 1) := by decide +kernel
theorem d_M_differ_57 : decode b_M_differ 57 = .ok (.aload_n 0, 1) := by decide +kernel
theorem d_M_differ_58 : decode b_M_differ 58 = .ok (.iload_n 1, 1) := by decide +kernel
theorem d_M_differ_59 : decode b_M_differ 59 = .ok (.invokevirtual 121, 3) := by decide +kernel
theorem d_M_differ_62 : decode b_M_differ 62 = .ok (.ireturn, 1) := by decide +kernel
theorem d_M_under_0 : decode b_M_under 0 = .ok (.iload_n 1, 1) := by decide +kernel
theorem d_M_under_1 : decode b_M_under 1 = .ok (.iconst 0, 1) := by decide +kernel
theorem d_M_under_2 : decode b_M_under 2 = .ok (.iconst 1, 1) := by decide +kernel
theorem d_M_under_3 : decode b_M_under 3 = .ok (.invokestatic 47, 3) := by decide +kernel
theorem d_M_under_6 : decode b_M_under 6 = .ok (.ifCond .eq 21, 3) := by decide +kernel
theorem d_M_under_9 : decode b_M_under 9 = .ok (.iload_n 2, 1) := by decide +kernel
theorem d_M_under_10 : decode b_M_under 10 = .ok (.iconst 0, 1) := by decide +kernel
theorem d_M_under_11 : decode b_M_under 11 = .ok (.iconst 5, 1) := by decide +kernel
theorem d_M_under_12 : decode b_M_under 12 = .ok (.invokestatic 47, 3) := by decide +kernel
theorem d_M_under_15 : decode b_M_under 15 = .ok (.ifCond .eq 12, 3) := by decide +kernel
theorem d_M_under_18 : decode b_M_under 18 = .ok (.iload_n 3, 1) := by decide +kernel
theorem d_M_under_19 : decode b_M_under 19 = .ok (.iconst 0, 1) := by decide +kernel
theorem d_M_under_20 : decode b_M_under 20 = .ok (.iconst 5, 1) := by decide +kernel
theorem d_M_under_21 : decode b_M_under 21 = .ok (.invokestatic 47, 3) := by decide +kernel
theorem d_M_under_24 : decode b_M_under 24 = .ok (.ifCond .ne 5, 3) := by decide +kernel
theorem d_M_under_27 : decode b_M_under 27 = .ok (.iconst 0, 1) := by decide +kernel
theorem d_M_under_28 : decode b_M_under 28 = .ok (.ireturn, 1) := by decide +kernel
theorem d_M_under_29 : decode b_M_under 29 = .ok (.aload_n 0, 1) := by decide +kernel
theorem d_M_under_30 : decode b_M_under 30 = .ok (.getfield 7, 3) := by decide +kernel
theorem d_M_under_33 : decode b_M_under 33 = .ok (.bipush 6, 2) := by decide +kernel
theorem d_M_under_35 : decode b_M_under 35 = .ok (.iload_n 1, 1) := by decide +kernel
theorem d_M_under_36 : decode b_M_under 36 = .ok (.imul, 1) := by decide +kernel
theorem d_M_under_37 : decode b_M_under 37 = .ok (.iload_n 2, 1) := by decide +kernel
theorem d_M_under_38 : decode b_M_under 38 = .ok (.iadd, 1) := by decide +kernel
theorem d_M_under_39 : decode b_M_under 39 = .ok (.baload, 1) := by decide +kernel
theorem d_M_under_40 : decode b_M_under 40 = .ok (.ifCond .eq 31, 3) := by decide +kernel
theorem d_M_under_43 : decode b_M_under 43 = .ok (.aload_n 0, 1) := by decide +kernel
theorem d_M_under_44 : decode b_M_under 44 = .ok (.getfield 7, 3) := by decide +kernel
theorem d_M_under_47 : decode b_M_under 47 = .ok (.bipush 6, 2) := by decide +kernel
theorem d_M_under_49 : decode b_M_under 49 = .ok (.iload_n 1, 1) := by decide +kernel
theorem d_M_under_50 : decode b_M_under 50 = .ok (.imul, 1) := by decide +kernel
theorem d_M_under_51 : decode b_M_under 51 = .ok (.iload_n 3, 1) := by decide +kernel
theorem d_M_under_52 : decode b_M_under 52 = .ok (.iadd, 1) := by decide +kernel
theorem d_M_under_53 : decode b_M_under 53 = .ok (.baload, 1) := by decide +kernel
theorem d_M_under_54 : decode b_M_under 54 = .ok (.ifCond .eq 17, 3) := by decide +kernel
theorem d_M_under_57 : decode b_M_under 57 = .ok (.aload_n 0, 1) := by decide +kernel
theorem d_M_under_58 : decode b_M_under 58 = .ok (.iload_n 1, 1) := by decide +kernel
theorem d_M_under_59 : decode b_M_under 59 = .ok (.iload_n 2, 1) := by decide +kernel
theorem d_M_under_60 : decode b_M_under 60 = .ok (.iload_n 3, 1) := by decide +kernel
theorem d_M_under_61 : decode b_M_under 61 = .ok (.invokevirtual 66, 3) := by decide +kernel
theorem d_M_under_64 : decode b_M_under 64 = .ok (.ifCond .eq 7, 3) := by decide +kernel
theorem d_M_under_67 : decode b_M_under 67 = .ok (.iconst 1, 1) := by decide +kernel
theorem d_M_under_68 : decode b_M_under 68 = .ok (.goto 4, 3) := by decide +kernel
theorem d_M_under_71 : decode b_M_under 71 = .ok (.iconst 0, 1) := by decide +kernel
theorem d_M_under_72 : decode b_M_under 72 = .ok (.ireturn, 1) := by decide +kernel
theorem d_M_count_0 : decode b_M_count 0 = .ok (.iload_n 1, 1) := by decide +kernel
theorem d_M_count_1 : decode b_M_count 1 = .ok (.iconst 0, 1) := by decide +kernel
theorem d_M_count_2 : decode b_M_count 2 = .ok (.iconst 1, 1) := by decide +kernel
theorem d_M_count_3 : decode b_M_count 3 = .ok (.invokestatic 47, 3) := by decide +kernel
theorem d_M_count_6 : decode b_M_count 6 = .ok (.ifCond .eq 12, 3) := by decide +kernel
theorem d_M_count_9 : decode b_M_count 9 = .ok (.iload_n 2, 1) := by decide +kernel
theorem d_M_count_10 : decode b_M_count 10 = .ok (.iconst 0, 1) := by decide +kernel
theorem d_M_count_11 : decode b_M_count 11 = .ok (.iconst 3, 1) := by decide +kernel
theorem d_M_count_12 : decode b_M_count 12 = .ok (.invokestatic 47, 3) := by decide +kernel
theorem d_M_count_15 : decode b_M_count 15 = .ok (.ifCond .ne 5, 3) := by decide +kernel
theorem d_M_count_18 : decode b_M_count 18 = .ok (.iconst (-1), 1) := by decide +kernel
theorem d_M_count_19 : decode b_M_count 19 = .ok (.ireturn, 1) := by decide +kernel
theorem d_M_count_20 : decode b_M_count 20 = .ok (.iconst 0, 1) := by decide +kernel
theorem d_M_count_21 : decode b_M_count 21 = .ok (.istore_n 3, 1) := by decide +kernel
theorem d_M_count_22 : decode b_M_count 22 = .ok (.bipush 72, 2) := by decide +kernel
theorem d_M_count_24 : decode b_M_count 24 = .ok (.iload_n 1, 1) := by decide +kernel
theorem d_M_count_25 : decode b_M_count 25 = .ok (.imul, 1) := by decide +kernel
theorem d_M_count_26 : decode b_M_count 26 = .ok (.istore 4, 2) := by decide +kernel
theorem d_M_count_28 : decode b_M_count 28 = .ok (.iload 4, 2) := by decide +kernel
theorem d_M_count_30 : decode b_M_count 30 = .ok (.bipush 72, 2) := by decide +kernel
theorem d_M_count_32 : decode b_M_count 32 = .ok (.iload_n 1, 1) := by decide +kernel
theorem d_M_count_33 : decode b_M_count 33 = .ok (.imul, 1) := by decide +kernel
theorem d_M_count_34 : decode b_M_count 34 = .ok (.bipush 72, 2) := by decide +kernel
theorem d_M_count_36 : decode b_M_count 36 = .ok (.iadd, 1) := by decide +kernel
theorem d_M_count_37 : decode b_M_count 37 = .ok (.if_icmp .ge 82, 3) := by decide +kernel
theorem d_M_count_40 : decode b_M_count 40 = .ok (.iload_n 2, 1) := by decide +kernel
theorem d_M_count_41 : decode b_M_count 41 = .ok (.ifCond .ne 27, 3) := by decide +kernel
theorem d_M_count_44 : decode b_M_count 44 = .ok (.iload 4, 2) := by decide +kernel
theorem d_M_count_46 : decode b_M_count 46 = .ok (.bipush 12, 2) := by decide +kernel
theorem d_M_count_48 : decode b_M_count 48 = .ok (.irem, 1) := by decide +kernel
theorem d_M_count_49 : decode b_M_count 49 = .ok (.ifCond .ne 19, 3) := by decide +kernel
theorem d_M_count_52 : decode b_M_count 52 = .ok (.aload_n 0, 1) := by decide +kernel
theorem d_M_count_53 : decode b_M_count 53 = .ok (.getfield 7, 3) := by decide +kernel
theorem d_M_count_56 : decode b_M_count 56 = .ok (.iload 4, 2) := by decide +kernel
theorem d_M_count_58 : decode b_M_count 58 = .ok (.bipush 12, 2) := by decide +kernel
theorem d_M_count_60 : decode b_M_count 60 = .ok (.idiv, 1) := by decide +kernel
theorem d_M_count_61 : decode b_M_count 61 = .ok (.baload, 1) := by decide +kernel
theorem d_M_count_62 : decode b_M_count 62 = .ok (.ifCond .eq 6, 3) := by decide +kernel
theorem d_M_count_65 : decode b_M_count 65 = .ok (.iinc 3 1, 3) := by decide +kernel
