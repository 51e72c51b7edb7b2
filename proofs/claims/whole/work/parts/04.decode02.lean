theorem d_M_type_22 : decode b_M_type 22 = .ok (.invokestatic 47, 3) := by decide +kernel
theorem d_M_type_25 : decode b_M_type 25 = .ok (.ifCond .eq 25, 3) := by decide +kernel
theorem d_M_type_28 : decode b_M_type 28 = .ok (.iload 4, 2) := by decide +kernel
theorem d_M_type_30 : decode b_M_type 30 = .ok (.iconst 0, 1) := by decide +kernel
theorem d_M_type_31 : decode b_M_type 31 = .ok (.bipush 6, 2) := by decide +kernel
theorem d_M_type_33 : decode b_M_type 33 = .ok (.invokestatic 47, 3) := by decide +kernel
theorem d_M_type_36 : decode b_M_type 36 = .ok (.ifCond .eq 14, 3) := by decide +kernel
theorem d_M_type_39 : decode b_M_type 39 = .ok (.iload 5, 2) := by decide +kernel
theorem d_M_type_41 : decode b_M_type 41 = .ok (.iconst 0, 1) := by decide +kernel
theorem d_M_type_42 : decode b_M_type 42 = .ok (.bipush 63, 2) := by decide +kernel
theorem d_M_type_44 : decode b_M_type 44 = .ok (.invokestatic 47, 3) := by decide +kernel
theorem d_M_type_47 : decode b_M_type 47 = .ok (.ifCond .ne 5, 3) := by decide +kernel
theorem d_M_type_50 : decode b_M_type 50 = .ok (.iconst (-1), 1) := by decide +kernel
theorem d_M_type_51 : decode b_M_type 51 = .ok (.ireturn, 1) := by decide +kernel
theorem d_M_type_52 : decode b_M_type 52 = .ok (.bipush 6, 2) := by decide +kernel
theorem d_M_type_54 : decode b_M_type 54 = .ok (.iload_n 1, 1) := by decide +kernel
theorem d_M_type_55 : decode b_M_type 55 = .ok (.imul, 1) := by decide +kernel
theorem d_M_type_56 : decode b_M_type 56 = .ok (.iload_n 2, 1) := by decide +kernel
theorem d_M_type_57 : decode b_M_type 57 = .ok (.iadd, 1) := by decide +kernel
theorem d_M_type_58 : decode b_M_type 58 = .ok (.istore 6, 2) := by decide +kernel
theorem d_M_type_60 : decode b_M_type 60 = .ok (.iload_n 3, 1) := by decide +kernel
theorem d_M_type_61 : decode b_M_type 61 = .ok (.iconst 1, 1) := by decide +kernel
theorem d_M_type_62 : decode b_M_type 62 = .ok (.iand, 1) := by decide +kernel
theorem d_M_type_63 : decode b_M_type 63 = .ok (.ifCond .eq 7, 3) := by decide +kernel
theorem d_M_type_66 : decode b_M_type 66 = .ok (.iconst 1, 1) := by decide +kernel
theorem d_M_type_67 : decode b_M_type 67 = .ok (.goto 4, 3) := by decide +kernel
theorem d_M_type_70 : decode b_M_type 70 = .ok (.iconst 0, 1) := by decide +kernel
theorem d_M_type_71 : decode b_M_type 71 = .ok (.istore 7, 2) := by decide +kernel
theorem d_M_type_73 : decode b_M_type 73 = .ok (.iload 7, 2) := by decide +kernel
theorem d_M_type_75 : decode b_M_type 75 = .ok (.ifCond .eq 16, 3) := by decide +kernel
theorem d_M_type_78 : decode b_M_type 78 = .ok (.iload 4, 2) := by decide +kernel
theorem d_M_type_80 : decode b_M_type 80 = .ok (.bipush 6, 2) := by decide +kernel
theorem d_M_type_82 : decode b_M_type 82 = .ok (.if_icmp .lt 22, 3) := by decide +kernel
theorem d_M_type_85 : decode b_M_type 85 = .ok (.iload_n 3, 1) := by decide +kernel
theorem d_M_type_86 : decode b_M_type 86 = .ok (.iconst 4, 1) := by decide +kernel
theorem d_M_type_87 : decode b_M_type 87 = .ok (.iand, 1) := by decide +kernel
theorem d_M_type_88 : decode b_M_type 88 = .ok (.ifCond .ne 16, 3) := by decide +kernel
theorem d_M_type_91 : decode b_M_type 91 = .ok (.aload_n 0, 1) := by decide +kernel
theorem d_M_type_92 : decode b_M_type 92 = .ok (.iload_n 1, 1) := by decide +kernel
theorem d_M_type_93 : decode b_M_type 93 = .ok (.iload_n 2, 1) := by decide +kernel
theorem d_M_type_94 : decode b_M_type 94 = .ok (.iload 4, 2) := by decide +kernel
theorem d_M_type_96 : decode b_M_type 96 = .ok (.iload 5, 2) := by decide +kernel
theorem d_M_type_98 : decode b_M_type 98 = .ok (.invokevirtual 51, 3) := by decide +kernel
theorem d_M_type_101 : decode b_M_type 101 = .ok (.ifCond .ne 5, 3) := by decide +kernel
theorem d_M_type_104 : decode b_M_type 104 = .ok (.iconst (-1), 1) := by decide +kernel
theorem d_M_type_105 : decode b_M_type 105 = .ok (.ireturn, 1) := by decide +kernel
theorem d_M_type_106 : decode b_M_type 106 = .ok (.aload_n 0, 1) := by decide +kernel
theorem d_M_type_107 : decode b_M_type 107 = .ok (.getfield 7, 3) := by decide +kernel
theorem d_M_type_110 : decode b_M_type 110 = .ok (.iload 6, 2) := by decide +kernel
theorem d_M_type_112 : decode b_M_type 112 = .ok (.baload, 1) := by decide +kernel
theorem d_M_type_113 : decode b_M_type 113 = .ok (.ifCond .eq 29, 3) := by decide +kernel
theorem d_M_type_116 : decode b_M_type 116 = .ok (.aload_n 0, 1) := by decide +kernel
theorem d_M_type_117 : decode b_M_type 117 = .ok (.getfield 13, 3) := by decide +kernel
theorem d_M_type_120 : decode b_M_type 120 = .ok (.iload 6, 2) := by decide +kernel
theorem d_M_type_122 : decode b_M_type 122 = .ok (.iaload, 1) := by decide +kernel
theorem d_M_type_123 : decode b_M_type 123 = .ok (.iconst 1, 1) := by decide +kernel
theorem d_M_type_124 : decode b_M_type 124 = .ok (.iand, 1) := by decide +kernel
theorem d_M_type_125 : decode b_M_type 125 = .ok (.iload_n 3, 1) := by decide +kernel
theorem d_M_type_126 : decode b_M_type 126 = .ok (.iconst 1, 1) := by decide +kernel
theorem d_M_type_127 : decode b_M_type 127 = .ok (.iand, 1) := by decide +kernel
theorem d_M_type_128 : decode b_M_type 128 = .ok (.if_icmp .eq 14, 3) := by decide +kernel
theorem d_M_type_131 : decode b_M_type 131 = .ok (.aload_n 0, 1) := by decide +kernel
theorem d_M_type_132 : decode b_M_type 132 = .ok (.iload_n 1, 1) := by decide +kernel
theorem d_M_type_133 : decode b_M_type 133 = .ok (.iload_n 2, 1) := by decide +kernel
theorem d_M_type_134 : decode b_M_type 134 = .ok (.invokevirtual 55, 3) := by decide +kernel
theorem d_M_type_137 : decode b_M_type 137 = .ok (.ifCond .eq 5, 3) := by decide +kernel
theorem d_M_type_140 : decode b_M_type 140 = .ok (.iconst (-1), 1) := by decide +kernel
theorem d_M_type_141 : decode b_M_type 141 = .ok (.ireturn, 1) := by decide +kernel
theorem d_M_type_142 : decode b_M_type 142 = .ok (.aload_n 0, 1) := by decide +kernel
theorem d_M_type_143 : decode b_M_type 143 = .ok (.getfield 7, 3) := by decide +kernel
theorem d_M_type_146 : decode b_M_type 146 = .ok (.iload 6, 2) := by decide +kernel
theorem d_M_type_148 : decode b_M_type 148 = .ok (.iconst 1, 1) := by decide +kernel
theorem d_M_type_149 : decode b_M_type 149 = .ok (.bastore, 1) := by decide +kernel
theorem d_M_type_150 : decode b_M_type 150 = .ok (.aload_n 0, 1) := by decide +kernel
theorem d_M_type_151 : decode b_M_type 151 = .ok (.getfield 13, 3) := by decide +kernel
theorem d_M_type_154 : decode b_M_type 154 = .ok (.iload 6, 2) := by decide +kernel
theorem d_M_type_156 : decode b_M_type 156 = .ok (.iload_n 3, 1) := by decide +kernel
theorem d_M_type_157 : decode b_M_type 157 = .ok (.iastore, 1) := by decide +kernel
theorem d_M_type_158 : decode b_M_type 158 = .ok (.aload_n 0, 1) := by decide +kernel
theorem d_M_type_159 : decode b_M_type 159 = .ok (.getfield 17, 3) := by decide +kernel
theorem d_M_type_162 : decode b_M_type 162 = .ok (.iload 6, 2) := by decide +kernel
theorem d_M_type_164 : decode b_M_type 164 = .ok (.iload 4, 2) := by decide +kernel
theorem d_M_type_166 : decode b_M_type 166 = .ok (.iastore, 1) := by decide +kernel
theorem d_M_type_167 : decode b_M_type 167 = .ok (.aload_n 0, 1) := by decide +kernel
theorem d_M_type_168 : decode b_M_type 168 = .ok (.getfield 20, 3) := by decide +kernel
theorem d_M_type_171 : decode b_M_type 171 = .ok (.iload 6, 2) := by decide +kernel
theorem d_M_type_173 : decode b_M_type 173 = .ok (.iload 5, 2) := by decide +kernel
theorem d_M_type_175 : decode b_M_type 175 = .ok (.iastore, 1) := by decide +kernel
theorem d_M_type_176 : decode b_M_type 176 = .ok (.iconst 0, 1) := by decide +kernel
theorem d_M_type_177 : decode b_M_type 177 = .ok (.ireturn, 1) := by decide +kernel
theorem d_M_drop_0 : decode b_M_drop 0 = .ok (.iload_n 1, 1) := by decide +kernel
theorem d_M_drop_1 : decode b_M_drop 1 = .ok (.iconst 0, 1) := by decide +kernel
theorem d_M_drop_2 : decode b_M_drop 2 = .ok (.iconst 1, 1) := by decide +kernel
theorem d_M_drop_3 : decode b_M_drop 3 = .ok (.invokestatic 47, 3) := by decide +kernel
theorem d_M_drop_6 : decode b_M_drop 6 = .ok (.ifCond .eq 35, 3) := by decide +kernel
theorem d_M_drop_9 : decode b_M_drop 9 = .ok (.iload_n 2, 1) := by decide +kernel
theorem d_M_drop_10 : decode b_M_drop 10 = .ok (.iconst 0, 1) := by decide +kernel
theorem d_M_drop_11 : decode b_M_drop 11 = .ok (.iconst 5, 1) := by decide +kernel
theorem d_M_drop_12 : decode b_M_drop 12 = .ok (.invokestatic 47, 3) := by decide +kernel
theorem d_M_drop_15 : decode b_M_drop 15 = .ok (.ifCond .eq 26, 3) := by decide +kernel
theorem d_M_drop_18 : decode b_M_drop 18 = .ok (.aload_n 0, 1) := by decide +kernel
theorem d_M_drop_19 : decode b_M_drop 19 = .ok (.getfield 7, 3) := by decide +kernel
theorem d_M_drop_22 : decode b_M_drop 22 = .ok (.bipush 6, 2) := by decide +kernel
theorem d_M_drop_24 : decode b_M_drop 24 = .ok (.iload_n 1, 1) := by decide +kernel
theorem d_M_drop_25 : decode b_M_drop 25 = .ok (.imul, 1) := by decide +kernel
theorem d_M_drop_26 : decode b_M_drop 26 = .ok (.iload_n 2, 1) := by decide +kernel
theorem d_M_drop_27 : decode b_M_drop 27 = .ok (.iadd, 1) := by decide +kernel
theorem d_M_drop_28 : decode b_M_drop 28 = .ok (.baload, 1) := by decide +kernel
theorem d_M_drop_29 : decode b_M_drop 29 = .ok (.ifCond .eq 12, 3) := by decide +kernel
theorem d_M_drop_32 : decode b_M_drop 32 = .ok (.aload_n 0, 1) := by decide +kernel
theorem d_M_drop_33 : decode b_M_drop 33 = .ok (.iload_n 1, 1) := by decide +kernel
theorem d_M_drop_34 : decode b_M_drop 34 = .ok (.iload_n 2, 1) := by decide +kernel
theorem d_M_drop_35 : decode b_M_drop 35 = .ok (.invokevirtual 55, 3) := by decide +kernel
theorem d_M_drop_38 : decode b_M_drop 38 = .ok (.ifCond .eq 5, 3) := by decide +kernel
theorem d_M_drop_41 : decode b_M_drop 41 = .ok (.iconst (-1), 1) := by decide +kernel
theorem d_M_drop_42 : decode b_M_drop 42 = .ok (.ireturn, 1) := by decide +kernel
theorem d_M_drop_43 : decode b_M_drop 43 = .ok (.bipush 6, 2) := by decide +kernel
theorem d_M_drop_45 : decode b_M_drop 45 = .ok (.iload_n 1, 1) := by decide +kernel
theorem d_M_drop_46 : decode b_M_drop 46 = .ok (.imul, 1) := by decide +kernel
theorem d_M_drop_47 : decode b_M_drop 47 = .ok (.iload_n 2, 1) := by decide +kernel
theorem d_M_drop_48 : decode b_M_drop 48 = .ok (.iadd, 1) := by decide +kernel
theorem d_M_drop_49 : decode b_M_drop 49 = .ok (.istore_n 3, 1) := by decide +kernel
theorem d_M_drop_50 : decode b_M_drop 50 = .ok (.aload_n 0, 1) := by decide +kernel
theorem d_M_drop_51 : decode b_M_drop 51 = .ok (.getfield 7, 3) := by decide +kernel
theorem d_M_drop_54 : decode b_M_drop 54 = .ok (.iload_n 3, 1) := by decide +kernel
theorem d_M_drop_55 : decode b_M_drop 55 = .ok (.iconst 0, 1) := by decide +kernel
theorem d_M_drop_56 : decode b_M_drop 56 = .ok (.bastore, 1) := by decide +kernel
theorem d_M_drop_57 : decode b_M_drop 57 = .ok (.iconst 4, 1) := by decide +kernel
theorem d_M_drop_58 : decode b_M_drop 58 = .ok (.iload_n 3, 1) := by decide +kernel
theorem d_M_drop_59 : decode b_M_drop 59 = .ok (.imul, 1) := by decide +kernel
theorem d_M_drop_60 : decode b_M_drop 60 = .ok (.istore 4, 2) := by decide +kernel
theorem d_M_drop_62 : decode b_M_drop 62 = .ok (.iload 4, 2) := by decide +kernel
theorem d_M_drop_64 : decode b_M_drop 64 = .ok (.iconst 4, 1) := by decide +kernel
theorem d_M_drop_65 : decode b_M_drop 65 = .ok (.iload_n 3, 1) := by decide +kernel
theorem d_M_drop_66 : decode b_M_drop 66 = .ok (.imul, 1) := by decide +kernel
theorem d_M_drop_67 : decode b_M_drop 67 = .ok (.iconst 4, 1) := by decide +kernel
theorem d_M_drop_68 : decode b_M_drop 68 = .ok (.iadd, 1) := by decide +kernel
theorem d_M_drop_69 : decode b_M_drop 69 = .ok (.if_icmp .ge 17, 3) := by decide +kernel
theorem d_M_drop_72 : decode b_M_drop 72 = .ok (.aload_n 0, 1) := by decide +kernel
theorem d_M_drop_73 : decode b_M_drop 73 = .ok (.getfield 23, 3) := by decide +kernel
theorem d_M_drop_76 : decode b_M_drop 76 = .ok (.iload 4, 2) := by decide +kernel
theorem d_M_drop_78 : decode b_M_drop 78 = .ok (.iconst (-1), 1) := by decide +kernel
theorem d_M_drop_79 : decode b_M_drop 79 = .ok (.iastore, 1) := by decide +kernel
theorem d_M_drop_80 : decode b_M_drop 80 = .ok (.iinc 4 1, 3) := by decide +kernel
theorem d_M_drop_83 : decode b_M_drop 83 = .ok (.goto (-21), 3) := by decide +kernel
theorem d_M_drop_86 : decode b_M_drop 86 = .ok (.bipush 12, 2) := by decide +kernel
theorem d_M_drop_88 : decode b_M_drop 88 = .ok (.iload_n 3, 1) := by decide +kernel
theorem d_M_drop_89 : decode b_M_drop 89 = .ok (.imul, 1) := by decide +kernel
theorem d_M_drop_90 : decode b_M_drop 90 = .ok (.istore 4, 2) := by decide +kernel
theorem d_M_drop_92 : decode b_M_drop 92 = .ok (.iload 4, 2) := by decide +kernel
theorem d_M_drop_94 : decode b_M_drop 94 = .ok (.bipush 12, 2) := by decide +kernel
theorem d_M_drop_96 : decode b_M_drop 96 = .ok (.iload_n 3, 1) := by decide +kernel
theorem d_M_drop_97 : decode b_M_drop 97 = .ok (.imul, 1) := by decide +kernel
theorem d_M_drop_98 : decode b_M_drop 98 = .ok (.bipush 12, 2) := by decide +kernel
theorem d_M_drop_100 : decode b_M_drop 100 = .ok (.iadd, 1) := by decide +kernel
theorem d_M_drop_101 : decode b_M_drop 101 = .ok (.if_icmp .ge 17, 3) := by decide +kernel
theorem d_M_drop_104 : decode b_M_drop 104 = .ok (.aload_n 0, 1) := by decide +kernel
theorem d_M_drop_105 : decode b_M_drop 105 = .ok (.getfield 32, 3) := by decide +kernel
theorem d_M_drop_108 : decode b_M_drop 108 = .ok (.iload 4, 2) := by decide +kernel
theorem d_M_drop_110 : decode b_M_drop 110 = .ok (.iconst (-1), 1) := by decide +kernel
theorem d_M_drop_111 : decode b_M_drop 111 = .ok (.iastore, 1) := by decide +kernel
theorem d_M_drop_112 : decode b_M_drop 112 = .ok (.iinc 4 1, 3) := by decide +kernel
theorem d_M_drop_115 : decode b_M_drop 115 = .ok (.goto (-23), 3) := by decide +kernel
theorem d_M_drop_118 : decode b_M_drop 118 = .ok (.iconst 0, 1) := by decide +kernel
theorem d_M_drop_119 : decode b_M_drop 119 = .ok (.ireturn, 1) := by decide +kernel
theorem d_M_field_0 : decode b_M_field 0 = .ok (.iload_n 1, 1) := by decide +kernel
theorem d_M_field_1 : decode b_M_field 1 = .ok (.iconst 0, 1) := by decide +kernel
theorem d_M_field_2 : decode b_M_field 2 = .ok (.bipush 23, 2) := by decide +kernel
theorem d_M_field_4 : decode b_M_field 4 = .ok (.invokestatic 47, 3) := by decide +kernel
theorem d_M_field_7 : decode b_M_field 7 = .ok (.ifCond .eq 39, 3) := by decide +kernel
theorem d_M_field_10 : decode b_M_field 10 = .ok (.iload_n 2, 1) := by decide +kernel
theorem d_M_field_11 : decode b_M_field 11 = .ok (.iconst 0, 1) := by decide +kernel
theorem d_M_field_12 : decode b_M_field 12 = .ok (.iconst 3, 1) := by decide +kernel
theorem d_M_field_13 : decode b_M_field 13 = .ok (.invokestatic 47, 3) := by decide +kernel
theorem d_M_field_16 : decode b_M_field 16 = .ok (.ifCond .eq 30, 3) := by decide +kernel
theorem d_M_field_19 : decode b_M_field 19 = .ok (.iload_n 3, 1) := by decide +kernel
theorem d_M_field_20 : decode b_M_field 20 = .ok (.iconst 0, 1) := by decide +kernel
theorem d_M_field_21 : decode b_M_field 21 = .ok (.bipush 31, 2) := by decide +kernel
theorem d_M_field_23 : decode b_M_field 23 = .ok (.invokestatic 47, 3) := by decide +kernel
theorem d_M_field_26 : decode b_M_field 26 = .ok (.ifCond .eq 20, 3) := by decide +kernel
theorem d_M_field_29 : decode b_M_field 29 = .ok (.iload_n 3, 1) := by decide +kernel
theorem d_M_field_30 : decode b_M_field 30 = .ok (.iconst 2, 1) := by decide +kernel
theorem d_M_field_31 : decode b_M_field 31 = .ok (.iand, 1) := by decide +kernel
theorem d_M_field_32 : decode b_M_field 32 = .ok (.ifCond .ne 14, 3) := by decide +kernel
theorem d_M_field_35 : decode b_M_field 35 = .ok (.aload_n 0, 1) := by decide +kernel
theorem d_M_field_36 : decode b_M_field 36 = .ok (.getfield 7, 3) := by decide +kernel
theorem d_M_field_39 : decode b_M_field 39 = .ok (.iload_n 1, 1) := by decide +kernel
theorem d_M_field_40 : decode b_M_field 40 = .ok (.iconst 2, 1) := by decide +kernel
theorem d_M_field_41 : decode b_M_field 41 = .ok (.idiv, 1) := by decide +kernel
theorem d_M_field_42 : decode b_M_field 42 = .ok (.baload, 1) := by decide +kernel
theorem d_M_field_43 : decode b_M_field 43 = .ok (.ifCond .ne 5, 3) := by decide +kernel
theorem d_M_field_46 : decode b_M_field 46 = .ok (.iconst (-1), 1) := by decide +kernel
theorem d_M_field_47 : decode b_M_field 47 = .ok (.ireturn, 1) := by decide +kernel
theorem d_M_field_48 : decode b_M_field 48 = .ok (.iload_n 3, 1) := by decide +kernel
theorem d_M_field_49 : decode b_M_field 49 = .ok (.bipush 16, 2) := by decide +kernel
theorem d_M_field_51 : decode b_M_field 51 = .ok (.iand, 1) := by decide +kernel
theorem d_M_field_52 : decode b_M_field 52 = .ok (.ifCond .eq 12, 3) := by decide +kernel
theorem d_M_field_55 : decode b_M_field 55 = .ok (.iload_n 3, 1) := by decide +kernel
theorem d_M_field_56 : decode b_M_field 56 = .ok (.iconst 5, 1) := by decide +kernel
theorem d_M_field_57 : decode b_M_field 57 = .ok (.iand, 1) := by decide +kernel
theorem d_M_field_58 : decode b_M_field 58 = .ok (.iconst 5, 1) := by decide +kernel
theorem d_M_field_59 : decode b_M_field 59 = .ok (.if_icmp .eq 5, 3) := by decide +kernel
theorem d_M_field_62 : decode b_M_field 62 = .ok (.iconst (-1), 1) := by decide +kernel
theorem d_M_field_63 : decode b_M_field 63 = .ok (.ireturn, 1) := by decide +kernel
theorem d_M_field_64 : decode b_M_field 64 = .ok (.iconst 4, 1) := by decide +kernel
theorem d_M_field_65 : decode b_M_field 65 = .ok (.iload_n 1, 1) := by decide +kernel
theorem d_M_field_66 : decode b_M_field 66 = .ok (.iconst 2, 1) := by decide +kernel
theorem d_M_field_67 : decode b_M_field 67 = .ok (.idiv, 1) := by decide +kernel
theorem d_M_field_68 : decode b_M_field 68 = .ok (.imul, 1) := by decide +kernel
theorem d_M_field_69 : decode b_M_field 69 = .ok (.iload_n 2, 1) := by decide +kernel
theorem d_M_field_70 : decode b_M_field 70 = .ok (.iadd, 1) := by decide +kernel
theorem d_M_field_71 : decode b_M_field 71 = .ok (.istore 5, 2) := by decide +kernel
theorem d_M_field_73 : decode b_M_field 73 = .ok (.aload_n 0, 1) := by decide +kernel
theorem d_M_field_74 : decode b_M_field 74 = .ok (.getfield 23, 3) := by decide +kernel
theorem d_M_field_77 : decode b_M_field 77 = .ok (.iload 5, 2) := by decide +kernel
theorem d_M_field_79 : decode b_M_field 79 = .ok (.iload_n 1, 1) := by decide +kernel
theorem d_M_field_80 : decode b_M_field 80 = .ok (.iconst 2, 1) := by decide +kernel
theorem d_M_field_81 : decode b_M_field 81 = .ok (.irem, 1) := by decide +kernel
theorem d_M_field_82 : decode b_M_field 82 = .ok (.iastore, 1) := by decide +kernel
theorem d_M_field_83 : decode b_M_field 83 = .ok (.aload_n 0, 1) := by decide +kernel
theorem d_M_field_84 : decode b_M_field 84 = .ok (.getfield 26, 3) := by decide +kernel
theorem d_M_field_87 : decode b_M_field 87 = .ok (.iload 5, 2) := by decide +kernel
theorem d_M_field_89 : decode b_M_field 89 = .ok (.iload_n 3, 1) := by decide +kernel
theorem d_M_field_90 : decode b_M_field 90 = .ok (.iastore, 1) := by decide +kernel
theorem d_M_field_91 : decode b_M_field 91 = .ok (.aload_n 0, 1) := by decide +kernel
theorem d_M_field_92 : decode b_M_field 92 = .ok (.getfield 29, 3) := by decide +kernel
theorem d_M_field_95 : decode b_M_field 95 = .ok (.iload 5, 2) := by decide +kernel
theorem d_M_field_97 : decode b_M_field 97 = .ok (.iload 4, 2) := by decide +kernel
theorem d_M_field_99 : decode b_M_field 99 = .ok (.iastore, 1) := by decide +kernel
theorem d_M_field_100 : decode b_M_field 100 = .ok (.iconst 0, 1) := by decide +kernel
theorem d_M_field_101 : decode b_M_field 101 = .ok (.ireturn, 1) := by decide +kernel
theorem d_M_method_0 : decode b_M_method 0 = .ok (.iload_n 1, 1) := by decide +kernel
theorem d_M_method_1 : decode b_M_method 1 = .ok (.iconst 0, 1) := by decide +kernel
theorem d_M_method_2 : decode b_M_method 2 = .ok (.bipush 11, 2) := by decide +kernel
theorem d_M_method_4 : decode b_M_method 4 = .ok (.invokestatic 47, 3) := by decide +kernel
theorem d_M_method_7 : decode b_M_method 7 = .ok (.ifCond .eq 42, 3) := by decide +kernel
theorem d_M_method_10 : decode b_M_method 10 = .ok (.iload_n 2, 1) := by decide +kernel
theorem d_M_method_11 : decode b_M_method 11 = .ok (.iconst 0, 1) := by decide +kernel
theorem d_M_method_12 : decode b_M_method 12 = .ok (.iconst 2, 1) := by decide +kernel
theorem d_M_method_13 : decode b_M_method 13 = .ok (.invokestatic 47, 3) := by decide +kernel
theorem d_M_method_16 : decode b_M_method 16 = .ok (.ifCond .eq 33, 3) := by decide +kernel
theorem d_M_method_19 : decode b_M_method 19 = .ok (.iload_n 3, 1) := by decide +kernel
theorem d_M_method_20 : decode b_M_method 20 = .ok (.iconst 0, 1) := by decide +kernel
theorem d_M_method_21 : decode b_M_method 21 = .ok (.bipush 15, 2) := by decide +kernel
theorem d_M_method_23 : decode b_M_method 23 = .ok (.invokestatic 47, 3) := by decide +kernel
theorem d_M_method_26 : decode b_M_method 26 = .ok (.ifCond .eq 23, 3) := by decide +kernel
theorem d_M_method_29 : decode b_M_method 29 = .ok (.iload 4, 2) := by decide +kernel
theorem d_M_method_31 : decode b_M_method 31 = .ok (.iconst 0, 1) := by decide +kernel
theorem d_M_method_32 : decode b_M_method 32 = .ok (.bipush 15, 2) := by decide +kernel
theorem d_M_method_34 : decode b_M_method 34 = .ok (.invokestatic 47, 3) := by decide +kernel
theorem d_M_method_37 : decode b_M_method 37 = .ok (.ifCond .eq 12, 3) := by decide +kernel
theorem d_M_method_40 : decode b_M_method 40 = .ok (.aload_n 0, 1) := by decide +kernel
theorem d_M_method_41 : decode b_M_method 41 = .ok (.getfield 7, 3) := by decide +kernel
theorem d_M_method_44 : decode b_M_method 44 = .ok (.iload_n 1, 1) := by decide +kernel
theorem d_M_method_45 : decode b_M_method 45 = .ok (.baload, 1) := by decide +kernel
theorem d_M_method_46 : decode b_M_method 46 = .ok (.ifCond .ne 5, 3) := by decide +kernel
theorem d_M_method_49 : decode b_M_method 49 = .ok (.iconst (-1), 1) := by decide +kernel
theorem d_M_method_50 : decode b_M_method 50 = .ok (.ireturn, 1) := by decide +kernel
theorem d_M_method_51 : decode b_M_method 51 = .ok (.iload 4, 2) := by decide +kernel
theorem d_M_method_53 : decode b_M_method 53 = .ok (.iconst 2, 1) := by decide +kernel
theorem d_M_method_54 : decode b_M_method 54 = .ok (.iand, 1) := by decide +kernel
theorem d_M_method_55 : decode b_M_method 55 = .ok (.ifCond .eq 13, 3) := by decide +kernel
theorem d_M_method_58 : decode b_M_method 58 = .ok (.iload 4, 2) := by decide +kernel
theorem d_M_method_60 : decode b_M_method 60 = .ok (.bipush 13, 2) := by decide +kernel
theorem d_M_method_62 : decode b_M_method 62 = .ok (.iand, 1) := by decide +kernel
theorem d_M_method_63 : decode b_M_method 63 = .ok (.ifCond .eq 5, 3) := by decide +kernel
theorem d_M_method_66 : decode b_M_method 66 = .ok (.iconst (-1), 1) := by decide +kernel
theorem d_M_method_67 : decode b_M_method 67 = .ok (.ireturn, 1) := by decide +kernel
theorem d_M_method_68 : decode b_M_method 68 = .ok (.bipush 12, 2) := by decide +kernel
theorem d_M_method_70 : decode b_M_method 70 = .ok (.iload_n 1, 1) := by decide +kernel
theorem d_M_method_71 : decode b_M_method 71 = .ok (.imul, 1) := by decide +kernel
theorem d_M_method_72 : decode b_M_method 72 = .ok (.iconst 4, 1) := by decide +kernel
theorem d_M_method_73 : decode b_M_method 73 = .ok (.iload_n 2, 1) := by decide +kernel
theorem d_M_method_74 : decode b_M_method 74 = .ok (.imul, 1) := by decide +kernel
theorem d_M_method_75 : decode b_M_method 75 = .ok (.iadd, 1) := by decide +kernel
theorem d_M_method_76 : decode b_M_method 76 = .ok (.iload_n 3, 1) := by decide +kernel
theorem d_M_method_77 : decode b_M_method 77 = .ok (.iconst 4, 1) := by decide +kernel
theorem d_M_method_78 : decode b_M_method 78 = .ok (.idiv, 1) := by decide +kernel
theorem d_M_method_79 : decode b_M_method 79 = .ok (.iadd, 1) := by decide +kernel
theorem d_M_method_80 : decode b_M_method 80 = .ok (.istore 5, 2) := by decide +kernel
theorem d_M_method_82 : decode b_M_method 82 = .ok (.aload_n 0, 1) := by decide +kernel
theorem d_M_method_83 : decode b_M_method 83 = .ok (.getfield 32, 3) := by decide +kernel
theorem d_M_method_86 : decode b_M_method 86 = .ok (.iload 5, 2) := by decide +kernel
theorem d_M_method_88 : decode b_M_method 88 = .ok (.iload_n 3, 1) := by decide +kernel
theorem d_M_method_89 : decode b_M_method 89 = .ok (.iconst 4, 1) := by decide +kernel
theorem d_M_method_90 : decode b_M_method 90 = .ok (.irem, 1) := by decide +kernel
theorem d_M_method_91 : decode b_M_method 91 = .ok (.iastore, 1) := by decide +kernel
theorem d_M_method_92 : decode b_M_method 92 = .ok (.aload_n 0, 1) := by decide +kernel
theorem d_M_method_93 : decode b_M_method 93 = .ok (.getfield 35, 3) := by decide +kernel
theorem d_M_method_96 : decode b_M_method 96 = .ok (.iload 5, 2) := by decide +kernel
theorem d_M_method_98 : decode b_M_method 98 = .ok (.iload 4, 2) := by decide +kernel
theorem d_M_method_100 : decode b_M_method 100 = .ok (.iastore, 1) := by decide +kernel
theorem d_M_method_101 : decode b_M_method 101 = .ok (.iconst 0, 1) := by decide +kernel
theorem d_M_method_102 : decode b_M_method 102 = .ok (.ireturn, 1) := by decide +kernel
theorem d_M_cut_0 : decode b_M_cut 0 = .ok (.iload_n 1, 1) := by decide +kernel
theorem d_M_cut_1 : decode b_M_cut 1 = .ok (.iconst 0, 1) := by decide +kernel
theorem d_M_cut_2 : decode b_M_cut 2 = .ok (.iconst 1, 1) := by decide +kernel
theorem d_M_cut_3 : decode b_M_cut 3 = .ok (.invokestatic 47, 3) := by decide +kernel
theorem d_M_cut_6 : decode b_M_cut 6 = .ok (.ifCond .eq 41, 3) := by decide +kernel
theorem d_M_cut_9 : decode b_M_cut 9 = .ok (.iload_n 2, 1) := by decide +kernel
theorem d_M_cut_10 : decode b_M_cut 10 = .ok (.iconst 0, 1) := by decide +kernel
theorem d_M_cut_11 : decode b_M_cut 11 = .ok (.iconst 5, 1) := by decide +kernel
theorem d_M_cut_12 : decode b_M_cut 12 = .ok (.invokestatic 47, 3) := by decide +kernel
theorem d_M_cut_15 : decode b_M_cut 15 = .ok (.ifCond .eq 32, 3) := by decide +kernel
theorem d_M_cut_18 : decode b_M_cut 18 = .ok (.iload 4, 2) := by decide +kernel
theorem d_M_cut_20 : decode b_M_cut 20 = .ok (.iconst 0, 1) := by decide +kernel
theorem d_M_cut_21 : decode b_M_cut 21 = .ok (.iconst 4, 1) := by decide +kernel
theorem d_M_cut_22 : decode b_M_cut 22 = .ok (.invokestatic 47, 3) := by decide +kernel
theorem d_M_cut_25 : decode b_M_cut 25 = .ok (.ifCond .eq 22, 3) := by decide +kernel
theorem d_M_cut_28 : decode b_M_cut 28 = .ok (.iload_n 3, 1) := by decide +kernel
theorem d_M_cut_29 : decode b_M_cut 29 = .ok (.iconst 0, 1) := by decide +kernel
theorem d_M_cut_30 : decode b_M_cut 30 = .ok (.iload 4, 2) := by decide +kernel
theorem d_M_cut_32 : decode b_M_cut 32 = .ok (.iconst 4, 1) := by decide +kernel
theorem d_M_cut_33 : decode b_M_cut 33 = .ok (.if_icmp .ne 7, 3) := by decide +kernel
theorem d_M_cut_36 : decode b_M_cut 36 = .ok (.iconst 3, 1) := by decide +kernel
theorem d_M_cut_37 : decode b_M_cut 37 = .ok (.goto 4, 3) := by decide +kernel
theorem d_M_cut_40 : decode b_M_cut 40 = .ok (.iconst 2, 1) := by decide +kernel
theorem d_M_cut_41 : decode b_M_cut 41 = .ok (.invokestatic 47, 3) := by decide +kernel
theorem d_M_cut_44 : decode b_M_cut 44 = .ok (.ifCond .ne 5, 3) := by decide +kernel
theorem d_M_cut_47 : decode b_M_cut 47 = .ok (.iconst (-1), 1) := by decide +kernel
theorem d_M_cut_48 : decode b_M_cut 48 = .ok (.ireturn, 1) := by decide +kernel
theorem d_M_cut_49 : decode b_M_cut 49 = .ok (.bipush 6, 2) := by decide +kernel
theorem d_M_cut_51 : decode b_M_cut 51 = .ok (.iload_n 1, 1) := by decide +kernel
theorem d_M_cut_52 : decode b_M_cut 52 = .ok (.imul, 1) := by decide +kernel
theorem d_M_cut_53 : decode b_M_cut 53 = .ok (.iload_n 2, 1) := by decide +kernel
theorem d_M_cut_54 : decode b_M_cut 54 = .ok (.iadd, 1) := by decide +kernel
theorem d_M_cut_55 : decode b_M_cut 55 = .ok (.istore 5, 2) := by decide +kernel
theorem d_M_cut_57 : decode b_M_cut 57 = .ok (.iload 4, 2) := by decide +kernel
theorem d_M_cut_59 : decode b_M_cut 59 = .ok (.iconst 4, 1) := by decide +kernel
theorem d_M_cut_60 : decode b_M_cut 60 = .ok (.if_icmp .ne 25, 3) := by decide +kernel
theorem d_M_cut_63 : decode b_M_cut 63 = .ok (.aload_n 0, 1) := by decide +kernel
theorem d_M_cut_64 : decode b_M_cut 64 = .ok (.getfield 23, 3) := by decide +kernel
theorem d_M_cut_67 : decode b_M_cut 67 = .ok (.iconst 4, 1) := by decide +kernel
theorem d_M_cut_68 : decode b_M_cut 68 = .ok (.iload 5, 2) := by decide +kernel
theorem d_M_cut_70 : decode b_M_cut 70 = .ok (.imul, 1) := by decide +kernel
theorem d_M_cut_71 : decode b_M_cut 71 = .ok (.iload_n 3, 1) := by decide +kernel
theorem d_M_cut_72 : decode b_M_cut 72 = .ok (.iadd, 1) := by decide +kernel
theorem d_M_cut_73 : decode b_M_cut 73 = .ok (.iaload, 1) := by decide +kernel
theorem d_M_cut_74 : decode b_M_cut 74 = .ok (.ifCond .lt 7, 3) := by decide +kernel
theorem d_M_cut_77 : decode b_M_cut 77 = .ok (.iconst 1, 1) := by decide +kernel
theorem d_M_cut_78 : decode b_M_cut 78 = .ok (.goto 34, 3) := by decide +kernel
theorem d_M_cut_81 : decode b_M_cut 81 = .ok (.iconst 0, 1) := by decide +kernel
theorem d_M_cut_82 : decode b_M_cut 82 = .ok (.goto 30, 3) := by decide +kernel
theorem d_M_cut_85 : decode b_M_cut 85 = .ok (.aload_n 0, 1) := by decide +kernel
theorem d_M_cut_86 : decode b_M_cut 86 = .ok (.getfield 32, 3) := by decide +kernel
theorem d_M_cut_89 : decode b_M_cut 89 = .ok (.bipush 12, 2) := by decide +kernel
theorem d_M_cut_91 : decode b_M_cut 91 = .ok (.iload 5, 2) := by decide +kernel
theorem d_M_cut_93 : decode b_M_cut 93 = .ok (.imul, 1) := by decide +kernel
theorem d_M_cut_94 : decode b_M_cut 94 = .ok (.iconst 4, 1) := by decide +kernel
theorem d_M_cut_95 : decode b_M_cut 95 = .ok (.iload_n 3, 1) := by decide +kernel
theorem d_M_cut_96 : decode b_M_cut 96 = .ok (.imul, 1) := by decide +kernel
theorem d_M_cut_97 : decode b_M_cut 97 = .ok (.iadd, 1) := by decide +kernel
theorem d_M_cut_98 : decode b_M_cut 98 = .ok (.iload 4, 2) := by decide +kernel
theorem d_M_cut_100 : decode b_M_cut 100 = .ok (.iconst 4, 1) := by decide +kernel
theorem d_M_cut_101 : decode b_M_cut 101 = .ok (.irem, 1) := by decide +kernel
theorem d_M_cut_102 : decode b_M_cut 102 = .ok (.iadd, 1) := by decide +kernel
theorem d_M_cut_103 : decode b_M_cut 103 = .ok (.iaload, 1) := by decide +kernel
theorem d_M_cut_104 : decode b_M_cut 104 = .ok (.ifCond .lt 7, 3) := by decide +kernel
theorem d_M_cut_107 : decode b_M_cut 107 = .ok (.iconst 1, 1) := by decide +kernel
theorem d_M_cut_108 : decode b_M_cut 108 = .ok (.goto 4, 3) := by decide +kernel
theorem d_M_cut_111 : decode b_M_cut 111 = .ok (.iconst 0, 1) := by decide +kernel
theorem d_M_cut_112 : decode b_M_cut 112 = .ok (.istore 6, 2) := by decide +kernel
theorem d_M_cut_114 : decode b_M_cut 114 = .ok (.iload 6, 2) := by decide +kernel
theorem d_M_cut_116 : decode b_M_cut 116 = .ok (.ifCond .ne 5, 3) := by decide +kernel
theorem d_M_cut_119 : decode b_M_cut 119 = .ok (.iconst (-1), 1) := by decide +kernel
theorem d_M_cut_120 : decode b_M_cut 120 = .ok (.ireturn, 1) := by decide +kernel
theorem d_M_cut_121 : decode b_M_cut 121 = .ok (.iload 4, 2) := by decide +kernel
theorem d_M_cut_123 : decode b_M_cut 123 = .ok (.iconst 4, 1) := by decide +kernel
theorem d_M_cut_124 : decode b_M_cut 124 = .ok (.if_icmp .ne 18, 3) := by decide +kernel
theorem d_M_cut_127 : decode b_M_cut 127 = .ok (.aload_n 0, 1) := by decide +kernel
theorem d_M_cut_128 : decode b_M_cut 128 = .ok (.getfield 23, 3) := by decide +kernel
theorem d_M_cut_131 : decode b_M_cut 131 = .ok (.iconst 4, 1) := by decide +kernel
theorem d_M_cut_132 : decode b_M_cut 132 = .ok (.iload 5, 2) := by decide +kernel
theorem d_M_cut_134 : decode b_M_cut 134 = .ok (.imul, 1) := by decide +kernel
theorem d_M_cut_135 : decode b_M_cut 135 = .ok (.iload_n 3, 1) := by decide +kernel
theorem d_M_cut_136 : decode b_M_cut 136 = .ok (.iadd, 1) := by decide +kernel
theorem d_M_cut_137 : decode b_M_cut 137 = .ok (.iconst (-1), 1) := by decide +kernel
theorem d_M_cut_138 : decode b_M_cut 138 = .ok (.iastore, 1) := by decide +kernel
theorem d_M_cut_139 : decode b_M_cut 139 = .ok (.goto 21, 3) := by decide +kernel
theorem d_M_cut_142 : decode b_M_cut 142 = .ok (.aload_n 0, 1) := by decide +kernel
theorem d_M_cut_143 : decode b_M_cut 143 = .ok (.getfield 32, 3) := by decide +kernel
theorem d_M_cut_146 : decode b_M_cut 146 = .ok (.bipush 12, 2) := by decide +kernel
theorem d_M_cut_148 : decode b_M_cut 148 = .ok (.iload 5, 2) := by decide +kernel
theorem d_M_cut_150 : decode b_M_cut 150 = .ok (.imul, 1) := by decide +kernel
theorem d_M_cut_151 : decode b_M_cut 151 = .ok (.iconst 4, 1) := by decide +kernel
theorem d_M_cut_152 : decode b_M_cut 152 = .ok (.iload_n 3, 1) := by decide +kernel
theorem d_M_cut_153 : decode b_M_cut 153 = .ok (.imul, 1) := by decide +kernel
theorem d_M_cut_154 : decode b_M_cut 154 = .ok (.iadd, 1) := by decide +kernel
theorem d_M_cut_155 : decode b_M_cut 155 = .ok (.iload 4, 2) := by decide +kernel
theorem d_M_cut_157 : decode b_M_cut 157 = .ok (.iadd, 1) := by decide +kernel
theorem d_M_cut_158 : decode b_M_cut 158 = .ok (.iconst (-1), 1) := by decide +kernel
theorem d_M_cut_159 : decode b_M_cut 159 = .ok (.iastore, 1) := by decide +kernel
theorem d_M_cut_160 : decode b_M_cut 160 = .ok (.iconst 0, 1) := by decide +kernel
theorem d_M_cut_161 : decode b_M_cut 161 = .ok (.ireturn, 1) := by decide +kernel
theorem d_M_copy_0 : decode b_M_copy 0 = .ok (.iconst 0, 1) := by decide +kernel
theorem d_M_copy_1 : decode b_M_copy 1 = .ok (.istore_n 1, 1) := by decide +kernel
theorem d_M_copy_2 : decode b_M_copy 2 = .ok (.iload_n 1, 1) := by decide +kernel
theorem d_M_copy_3 : decode b_M_copy 3 = .ok (.bipush 6, 2) := by decide +kernel
theorem d_M_copy_5 : decode b_M_copy 5 = .ok (.if_icmp .ge 69, 3) := by decide +kernel
theorem d_M_copy_8 : decode b_M_copy 8 = .ok (.aload_n 0, 1) := by decide +kernel
theorem d_M_copy_9 : decode b_M_copy 9 = .ok (.getfield 7, 3) := by decide +kernel
theorem d_M_copy_12 : decode b_M_copy 12 = .ok (.bipush 6, 2) := by decide +kernel
theorem d_M_copy_14 : decode b_M_copy 14 = .ok (.iload_n 1, 1) := by decide +kernel
theorem d_M_copy_15 : decode b_M_copy 15 = .ok (.iadd, 1) := by decide +kernel
theorem d_M_copy_16 : decode b_M_copy 16 = .ok (.aload_n 0, 1) := by decide +kernel
theorem d_M_copy_17 : decode b_M_copy 17 = .ok (.getfield 7, 3) := by decide +kernel
theorem d_M_copy_20 : decode b_M_copy 20 = .ok (.iload_n 1, 1) := by decide +kernel
theorem d_M_copy_21 : decode b_M_copy 21 = .ok (.baload, 1) := by decide +kernel
theorem d_M_copy_22 : decode b_M_copy 22 = .ok (.bastore, 1) := by decide +kernel
theorem d_M_copy_23 : decode b_M_copy 23 = .ok (.aload_n 0, 1) := by decide +kernel
theorem d_M_copy_24 : decode b_M_copy 24 = .ok (.getfield 13, 3) := by decide +kernel
theorem d_M_copy_27 : decode b_M_copy 27 = .ok (.bipush 6, 2) := by decide +kernel
theorem d_M_copy_29 : decode b_M_copy 29 = .ok (.iload_n 1, 1) := by decide +kernel
theorem d_M_copy_30 : decode b_M_copy 30 = .ok (.iadd, 1) := by decide +kernel
theorem d_M_copy_31 : decode b_M_copy 31 = .ok (.aload_n 0, 1) := by decide +kernel
theorem d_M_copy_32 : decode b_M_copy 32 = .ok (.getfield 13, 3) := by decide +kernel
theorem d_M_copy_35 : decode b_M_copy 35 = .ok (.iload_n 1, 1) := by decide +kernel
theorem d_M_copy_36 : decode b_M_copy 36 = .ok (.iaload, 1) := by decide +kernel
theorem d_M_copy_37 : decode b_M_copy 37 = .ok (.iastore, 1) := by decide +kernel
theorem d_M_copy_38 : decode b_M_copy 38 = .ok (.aload_n 0, 1) := by decide +kernel
theorem d_M_copy_39 : decode b_M_copy 39 = .ok (.getfield 17, 3) := by decide +kernel
theorem d_M_copy_42 : decode b_M_copy 42 = .ok (.bipush 6, 2) := by decide +kernel
theorem d_M_copy_44 : decode b_M_copy 44 = .ok (.iload_n 1, 1) := by decide +kernel
theorem d_M_copy_45 : decode b_M_copy 45 = .ok (.iadd, 1) := by decide +kernel
theorem d_M_copy_46 : decode b_M_copy 46 = .ok (.aload_n 0, 1) := by decide +kernel
theorem d_M_copy_47 : decode b_M_copy 47 = .ok (.getfield 17, 3) := by decide +kernel
theorem d_M_copy_50 : decode b_M_copy 50 = .ok (.iload_n 1, 1) := by decide +kernel
theorem d_M_copy_51 : decode b_M_copy 51 = .ok (.iaload, 1) := by decide +kernel
theorem d_M_copy_52 : decode b_M_copy 52 = .ok (.iastore, 1) := by decide +kernel
theorem d_M_copy_53 : decode b_M_copy 53 = .ok (.aload_n 0, 1) := by decide +kernel
theorem d_M_copy_54 : decode b_M_copy 54 = .ok (.getfield 20, 3) := by decide +kernel
theorem d_M_copy_57 : decode b_M_copy 57 = .ok (.bipush 6, 2) := by decide +kernel
theorem d_M_copy_59 : decode b_M_copy 59 = .ok (.iload_n 1, 1) := by decide +kernel
theorem d_M_copy_60 : decode b_M_copy 60 = .ok (.iadd, 1) := by decide +kernel
theorem d_M_copy_61 : decode b_M_copy 61 = .ok (.aload_n 0, 1) := by decide +kernel
theorem d_M_copy_62 : decode b_M_copy 62 = .ok (.getfield 20, 3) := by decide +kernel
theorem d_M_copy_65 : decode b_M_copy 65 = .ok (.iload_n 1, 1) := by decide +kernel
theorem d_M_copy_66 : decode b_M_copy 66 = .ok (.iaload, 1) := by decide +kernel
theorem d_M_copy_67 : decode b_M_copy 67 = .ok (.iastore, 1) := by decide +kernel
theorem d_M_copy_68 : decode b_M_copy 68 = .ok (.iinc 1 1, 3) := by decide +kernel
theorem d_M_copy_71 : decode b_M_copy 71 = .ok (.goto (-69), 3) := by decide +kernel
theorem d_M_copy_74 : decode b_M_copy 74 = .ok (.iconst 0, 1) := by decide +kernel
theorem d_M_copy_75 : decode b_M_copy 75 = .ok (.istore_n 1, 1) := by decide +kernel
theorem d_M_copy_76 : decode b_M_copy 76 = .ok (.iload_n 1, 1) := by decide +kernel
theorem d_M_copy_77 : decode b_M_copy 77 = .ok (.bipush 24, 2) := by decide +kernel
theorem d_M_copy_79 : decode b_M_copy 79 = .ok (.if_icmp .ge 54, 3) := by decide +kernel
theorem d_M_copy_82 : decode b_M_copy 82 = .ok (.aload_n 0, 1) := by decide +kernel
theorem d_M_copy_83 : decode b_M_copy 83 = .ok (.getfield 23, 3) := by decide +kernel
theorem d_M_copy_86 : decode b_M_copy 86 = .ok (.bipush 24, 2) := by decide +kernel
theorem d_M_copy_88 : decode b_M_copy 88 = .ok (.iload_n 1, 1) := by decide +kernel
theorem d_M_copy_89 : decode b_M_copy 89 = .ok (.iadd, 1) := by decide +kernel
theorem d_M_copy_90 : decode b_M_copy 90 = .ok (.aload_n 0, 1) := by decide +kernel
theorem d_M_copy_91 : decode b_M_copy 91 = .ok (.getfield 23, 3) := by decide +kernel
theorem d_M_copy_94 : decode b_M_copy 94 = .ok (.iload_n 1, 1) := by decide +kernel
theorem d_M_copy_95 : decode b_M_copy 95 = .ok (.iaload, 1) := by decide +kernel
theorem d_M_copy_96 : decode b_M_copy 96 = .ok (.iastore, 1) := by decide +kernel
theorem d_M_copy_97 : decode b_M_copy 97 = .ok (.aload_n 0, 1) := by decide +kernel
theorem d_M_copy_98 : decode b_M_copy 98 = .ok (.getfield 26, 3) := by decide +kernel
theorem d_M_copy_101 : decode b_M_copy 101 = .ok (.bipush 24, 2) := by decide +kernel
theorem d_M_copy_103 : decode b_M_copy 103 = .ok (.iload_n 1, 1) := by decide +kernel
theorem d_M_copy_104 : decode b_M_copy 104 = .ok (.iadd, 1) := by decide +kernel
theorem d_M_copy_105 : decode b_M_copy 105 = .ok (.aload_n 0, 1) := by decide +kernel
theorem d_M_copy_106 : decode b_M_copy 106 = .ok (.getfield 26, 3) := by decide +kernel
theorem d_M_copy_109 : decode b_M_copy 109 = .ok (.iload_n 1, 1) := by decide +kernel
theorem d_M_copy_110 : decode b_M_copy 110 = .ok (.iaload, 1) := by decide +kernel
theorem d_M_copy_111 : decode b_M_copy 111 = .ok (.iastore, 1) := by decide +kernel
theorem d_M_copy_112 : decode b_M_copy 112 = .ok (.aload_n 0, 1) := by decide +kernel
theorem d_M_copy_113 : decode b_M_copy 113 = .ok (.getfield 29, 3) := by decide +kernel
theorem d_M_copy_116 : decode b_M_copy 116 = .ok (.bipush 24, 2) := by decide +kernel
theorem d_M_copy_118 : decode b_M_copy 118 = .ok (.iload_n 1, 1) := by decide +kernel
theorem d_M_copy_119 : decode b_M_copy 119 = .ok (.iadd, 1) := by decide +kernel
theorem d_M_copy_120 : decode b_M_copy 120 = .ok (.aload_n 0, 1) := by decide +kernel
theorem d_M_copy_121 : decode b_M_copy 121 = .ok (.getfield 29, 3) := by decide +kernel
theorem d_M_copy_124 : decode b_M_copy 124 = .ok (.iload_n 1, 1) := by decide +kernel
theorem d_M_copy_125 : decode b_M_copy 125 = .ok (.iaload, 1) := by decide +kernel
theorem d_M_copy_126 : decode b_M_copy 126 = .ok (.iastore, 1) := by decide +kernel
theorem d_M_copy_127 : decode b_M_copy 127 = .ok (.iinc 1 1, 3) := by decide +kernel
theorem d_M_copy_130 : decode b_M_copy 130 = .ok (.goto (-54), 3) := by decide +kernel
theorem d_M_copy_133 : decode b_M_copy 133 = .ok (.iconst 0, 1) := by decide +kernel
theorem d_M_copy_134 : decode b_M_copy 134 = .ok (.istore_n 1, 1) := by decide +kernel
theorem d_M_copy_135 : decode b_M_copy 135 = .ok (.iload_n 1, 1) := by decide +kernel
theorem d_M_copy_136 : decode b_M_copy 136 = .ok (.bipush 72, 2) := by decide +kernel
theorem d_M_copy_138 : decode b_M_copy 138 = .ok (.if_icmp .ge 39, 3) := by decide +kernel
theorem d_M_copy_141 : decode b_M_copy 141 = .ok (.aload_n 0, 1) := by decide +kernel
theorem d_M_copy_142 : decode b_M_copy 142 = .ok (.getfield 32, 3) := by decide +kernel
theorem d_M_copy_145 : decode b_M_copy 145 = .ok (.bipush 72, 2) := by decide +kernel
theorem d_M_copy_147 : decode b_M_copy 147 = .ok (.iload_n 1, 1) := by decide +kernel
theorem d_M_copy_148 : decode b_M_copy 148 = .ok (.iadd, 1) := by decide +kernel
theorem d_M_copy_149 : decode b_M_copy 149 = .ok (.aload_n 0, 1) := by decide +kernel
theorem d_M_copy_150 : decode b_M_copy 150 = .ok (.getfield 32, 3) := by decide +kernel
theorem d_M_copy_153 : decode b_M_copy 153 = .ok (.iload_n 1, 1) := by decide +kernel
theorem d_M_copy_154 : decode b_M_copy 154 = .ok (.iaload, 1) := by decide +kernel
theorem d_M_copy_155 : decode b_M_copy 155 = .ok (.iastore, 1) := by decide +kernel
theorem d_M_copy_156 : decode b_M_copy 156 = .ok (.aload_n 0, 1) := by decide +kernel
theorem d_M_copy_157 : decode b_M_copy 157 = .ok (.getfield 35, 3) := by decide +kernel
theorem d_M_copy_160 : decode b_M_copy 160 = .ok (.bipush 72, 2) := by decide +kernel
theorem d_M_copy_162 : decode b_M_copy 162 = .ok (.iload_n 1, 1) := by decide +kernel
theorem d_M_copy_163 : decode b_M_copy 163 = .ok (.iadd, 1) := by decide +kernel
theorem d_M_copy_164 : decode b_M_copy 164 = .ok (.aload_n 0, 1) := by decide +kernel
theorem d_M_copy_165 : decode b_M_copy 165 = .ok (.getfield 35, 3) := by decide +kernel
theorem d_M_copy_168 : decode b_M_copy 168 = .ok (.iload_n 1, 1) := by decide +kernel
theorem d_M_copy_169 : decode b_M_copy 169 = .ok (.iaload, 1) := by decide +kernel
theorem d_M_copy_170 : decode b_M_copy 170 = .ok (.iastore, 1) := by decide +kernel
theorem d_M_copy_171 : decode b_M_copy 171 = .ok (.iinc 1 1, 3) := by decide +kernel
theorem d_M_copy_174 : decode b_M_copy 174 = .ok (.goto (-39), 3) := by decide +kernel
theorem d_M_copy_177 : decode b_M_copy 177 = .ok (.iconst 0, 1) := by decide +kernel
theorem d_M_copy_178 : decode b_M_copy 178 = .ok (.ireturn, 1) := by decide +kernel
theorem d_M_use_0 : decode b_M_use 0 = .ok (.iload_n 1, 1) := by decide +kernel
theorem d_M_use_1 : decode b_M_use 1 = .ok (.iconst 2, 1) := by decide +kernel
theorem d_M_use_2 : decode b_M_use 2 = .ok (.if_icmp .eq 14, 3) := by decide +kernel
theorem d_M_use_5 : decode b_M_use 5 = .ok (.iload_n 1, 1) := by decide +kernel
theorem d_M_use_6 : decode b_M_use 6 = .ok (.iconst 3, 1) := by decide +kernel
theorem d_M_use_7 : decode b_M_use 7 = .ok (.if_icmp .eq 9, 3) := by decide +kernel
theorem d_M_use_10 : decode b_M_use 10 = .ok (.iload_n 1, 1) := by decide +kernel
theorem d_M_use_11 : decode b_M_use 11 = .ok (.bipush 6, 2) := by decide +kernel
theorem d_M_use_13 : decode b_M_use 13 = .ok (.if_icmp .ne 7, 3) := by decide +kernel
theorem d_M_use_16 : decode b_M_use 16 = .ok (.iconst 1, 1) := by decide +kernel
theorem d_M_use_17 : decode b_M_use 17 = .ok (.goto 4, 3) := by decide +kernel
theorem d_M_use_20 : decode b_M_use 20 = .ok (.iconst 0, 1) := by decide +kernel
theorem d_M_use_21 : decode b_M_use 21 = .ok (.istore 5, 2) := by decide +kernel
