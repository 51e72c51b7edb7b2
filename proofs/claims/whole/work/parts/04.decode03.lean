theorem d_M_use_23 : decode b_M_use 23 = .ok (.iload_n 1, 1) := by decide +kernel
theorem d_M_use_24 : decode b_M_use 24 = .ok (.iconst 0, 1) := by decide +kernel
theorem d_M_use_25 : decode b_M_use 25 = .ok (.bipush 6, 2) := by decide +kernel
theorem d_M_use_27 : decode b_M_use 27 = .ok (.invokestatic 47, 3) := by decide +kernel
theorem d_M_use_30 : decode b_M_use 30 = .ok (.ifCond .eq 45, 3) := by decide +kernel
theorem d_M_use_33 : decode b_M_use 33 = .ok (.iload_n 2, 1) := by decide +kernel
theorem d_M_use_34 : decode b_M_use 34 = .ok (.iconst 0, 1) := by decide +kernel
theorem d_M_use_35 : decode b_M_use 35 = .ok (.iconst 5, 1) := by decide +kernel
theorem d_M_use_36 : decode b_M_use 36 = .ok (.invokestatic 47, 3) := by decide +kernel
theorem d_M_use_39 : decode b_M_use 39 = .ok (.ifCond .eq 36, 3) := by decide +kernel
theorem d_M_use_42 : decode b_M_use 42 = .ok (.iload_n 3, 1) := by decide +kernel
theorem d_M_use_43 : decode b_M_use 43 = .ok (.iconst 0, 1) := by decide +kernel
theorem d_M_use_44 : decode b_M_use 44 = .ok (.iload 5, 2) := by decide +kernel
theorem d_M_use_46 : decode b_M_use 46 = .ok (.ifCond .eq 7, 3) := by decide +kernel
theorem d_M_use_49 : decode b_M_use 49 = .ok (.iconst 2, 1) := by decide +kernel
theorem d_M_use_50 : decode b_M_use 50 = .ok (.goto 4, 3) := by decide +kernel
theorem d_M_use_53 : decode b_M_use 53 = .ok (.iconst 3, 1) := by decide +kernel
theorem d_M_use_54 : decode b_M_use 54 = .ok (.invokestatic 47, 3) := by decide +kernel
theorem d_M_use_57 : decode b_M_use 57 = .ok (.ifCond .eq 18, 3) := by decide +kernel
theorem d_M_use_60 : decode b_M_use 60 = .ok (.iload 5, 2) := by decide +kernel
theorem d_M_use_62 : decode b_M_use 62 = .ok (.ifCond .eq 15, 3) := by decide +kernel
theorem d_M_use_65 : decode b_M_use 65 = .ok (.iload 4, 2) := by decide +kernel
theorem d_M_use_67 : decode b_M_use 67 = .ok (.iconst 0, 1) := by decide +kernel
theorem d_M_use_68 : decode b_M_use 68 = .ok (.iconst 3, 1) := by decide +kernel
theorem d_M_use_69 : decode b_M_use 69 = .ok (.invokestatic 47, 3) := by decide +kernel
theorem d_M_use_72 : decode b_M_use 72 = .ok (.ifCond .ne 5, 3) := by decide +kernel
theorem d_M_use_75 : decode b_M_use 75 = .ok (.iconst (-1), 1) := by decide +kernel
theorem d_M_use_76 : decode b_M_use 76 = .ok (.ireturn, 1) := by decide +kernel
theorem d_M_use_77 : decode b_M_use 77 = .ok (.aload_n 0, 1) := by decide +kernel
theorem d_M_use_78 : decode b_M_use 78 = .ok (.getfield 59, 3) := by decide +kernel
theorem d_M_use_81 : decode b_M_use 81 = .ok (.bipush 16, 2) := by decide +kernel
theorem d_M_use_83 : decode b_M_use 83 = .ok (.if_icmp .ne 6, 3) := by decide +kernel
theorem d_M_use_86 : decode b_M_use 86 = .ok (.bipush (-2), 2) := by decide +kernel
theorem d_M_use_88 : decode b_M_use 88 = .ok (.ireturn, 1) := by decide +kernel
theorem d_M_use_89 : decode b_M_use 89 = .ok (.aload_n 0, 1) := by decide +kernel
theorem d_M_use_90 : decode b_M_use 90 = .ok (.getfield 38, 3) := by decide +kernel
theorem d_M_use_93 : decode b_M_use 93 = .ok (.iconst 4, 1) := by decide +kernel
theorem d_M_use_94 : decode b_M_use 94 = .ok (.aload_n 0, 1) := by decide +kernel
theorem d_M_use_95 : decode b_M_use 95 = .ok (.getfield 59, 3) := by decide +kernel
theorem d_M_use_98 : decode b_M_use 98 = .ok (.imul, 1) := by decide +kernel
theorem d_M_use_99 : decode b_M_use 99 = .ok (.iload_n 1, 1) := by decide +kernel
theorem d_M_use_100 : decode b_M_use 100 = .ok (.iastore, 1) := by decide +kernel
theorem d_M_use_101 : decode b_M_use 101 = .ok (.aload_n 0, 1) := by decide +kernel
theorem d_M_use_102 : decode b_M_use 102 = .ok (.getfield 38, 3) := by decide +kernel
theorem d_M_use_105 : decode b_M_use 105 = .ok (.iconst 4, 1) := by decide +kernel
theorem d_M_use_106 : decode b_M_use 106 = .ok (.aload_n 0, 1) := by decide +kernel
theorem d_M_use_107 : decode b_M_use 107 = .ok (.getfield 59, 3) := by decide +kernel
theorem d_M_use_110 : decode b_M_use 110 = .ok (.imul, 1) := by decide +kernel
theorem d_M_use_111 : decode b_M_use 111 = .ok (.iconst 1, 1) := by decide +kernel
theorem d_M_use_112 : decode b_M_use 112 = .ok (.iadd, 1) := by decide +kernel
theorem d_M_use_113 : decode b_M_use 113 = .ok (.iload_n 2, 1) := by decide +kernel
theorem d_M_use_114 : decode b_M_use 114 = .ok (.iastore, 1) := by decide +kernel
theorem d_M_use_115 : decode b_M_use 115 = .ok (.aload_n 0, 1) := by decide +kernel
theorem d_M_use_116 : decode b_M_use 116 = .ok (.getfield 38, 3) := by decide +kernel
theorem d_M_use_119 : decode b_M_use 119 = .ok (.iconst 4, 1) := by decide +kernel
theorem d_M_use_120 : decode b_M_use 120 = .ok (.aload_n 0, 1) := by decide +kernel
theorem d_M_use_121 : decode b_M_use 121 = .ok (.getfield 59, 3) := by decide +kernel
theorem d_M_use_124 : decode b_M_use 124 = .ok (.imul, 1) := by decide +kernel
theorem d_M_use_125 : decode b_M_use 125 = .ok (.iconst 2, 1) := by decide +kernel
theorem d_M_use_126 : decode b_M_use 126 = .ok (.iadd, 1) := by decide +kernel
theorem d_M_use_127 : decode b_M_use 127 = .ok (.iload_n 3, 1) := by decide +kernel
theorem d_M_use_128 : decode b_M_use 128 = .ok (.iastore, 1) := by decide +kernel
theorem d_M_use_129 : decode b_M_use 129 = .ok (.aload_n 0, 1) := by decide +kernel
theorem d_M_use_130 : decode b_M_use 130 = .ok (.getfield 38, 3) := by decide +kernel
theorem d_M_use_133 : decode b_M_use 133 = .ok (.iconst 4, 1) := by decide +kernel
theorem d_M_use_134 : decode b_M_use 134 = .ok (.aload_n 0, 1) := by decide +kernel
theorem d_M_use_135 : decode b_M_use 135 = .ok (.getfield 59, 3) := by decide +kernel
theorem d_M_use_138 : decode b_M_use 138 = .ok (.imul, 1) := by decide +kernel
theorem d_M_use_139 : decode b_M_use 139 = .ok (.iconst 3, 1) := by decide +kernel
theorem d_M_use_140 : decode b_M_use 140 = .ok (.iadd, 1) := by decide +kernel
theorem d_M_use_141 : decode b_M_use 141 = .ok (.iload 4, 2) := by decide +kernel
theorem d_M_use_143 : decode b_M_use 143 = .ok (.iastore, 1) := by decide +kernel
theorem d_M_use_144 : decode b_M_use 144 = .ok (.aload_n 0, 1) := by decide +kernel
theorem d_M_use_145 : decode b_M_use 145 = .ok (.dup, 1) := by decide +kernel
theorem d_M_use_146 : decode b_M_use 146 = .ok (.getfield 59, 3) := by decide +kernel
theorem d_M_use_149 : decode b_M_use 149 = .ok (.iconst 1, 1) := by decide +kernel
theorem d_M_use_150 : decode b_M_use 150 = .ok (.iadd, 1) := by decide +kernel
theorem d_M_use_151 : decode b_M_use 151 = .ok (.putfield 59, 3) := by decide +kernel
theorem d_M_use_154 : decode b_M_use 154 = .ok (.aload_n 0, 1) := by decide +kernel
theorem d_M_use_155 : decode b_M_use 155 = .ok (.getfield 59, 3) := by decide +kernel
theorem d_M_use_158 : decode b_M_use 158 = .ok (.iconst 1, 1) := by decide +kernel
theorem d_M_use_159 : decode b_M_use 159 = .ok (.isub, 1) := by decide +kernel
theorem d_M_use_160 : decode b_M_use 160 = .ok (.ireturn, 1) := by decide +kernel
theorem d_M_findField_0 : decode b_M_findField 0 = .ok (.iconst 1, 1) := by decide +kernel
theorem d_M_findField_1 : decode b_M_findField 1 = .ok (.istore 5, 2) := by decide +kernel
theorem d_M_findField_3 : decode b_M_findField 3 = .ok (.aload_n 0, 1) := by decide +kernel
theorem d_M_findField_4 : decode b_M_findField 4 = .ok (.getfield 44, 3) := by decide +kernel
theorem d_M_findField_7 : decode b_M_findField 7 = .ok (.iconst 0, 1) := by decide +kernel
theorem d_M_findField_8 : decode b_M_findField 8 = .ok (.iload_n 2, 1) := by decide +kernel
theorem d_M_findField_9 : decode b_M_findField 9 = .ok (.iastore, 1) := by decide +kernel
theorem d_M_findField_10 : decode b_M_findField 10 = .ok (.iload 5, 2) := by decide +kernel
theorem d_M_findField_12 : decode b_M_findField 12 = .ok (.ifCond .le 134, 3) := by decide +kernel
theorem d_M_findField_15 : decode b_M_findField 15 = .ok (.iinc 5 (-1), 3) := by decide +kernel
theorem d_M_findField_18 : decode b_M_findField 18 = .ok (.bipush 6, 2) := by decide +kernel
theorem d_M_findField_20 : decode b_M_findField 20 = .ok (.iload_n 1, 1) := by decide +kernel
theorem d_M_findField_21 : decode b_M_findField 21 = .ok (.imul, 1) := by decide +kernel
theorem d_M_findField_22 : decode b_M_findField 22 = .ok (.aload_n 0, 1) := by decide +kernel
theorem d_M_findField_23 : decode b_M_findField 23 = .ok (.getfield 44, 3) := by decide +kernel
theorem d_M_findField_26 : decode b_M_findField 26 = .ok (.iload 5, 2) := by decide +kernel
theorem d_M_findField_28 : decode b_M_findField 28 = .ok (.iaload, 1) := by decide +kernel
theorem d_M_findField_29 : decode b_M_findField 29 = .ok (.iadd, 1) := by decide +kernel
theorem d_M_findField_30 : decode b_M_findField 30 = .ok (.istore 6, 2) := by decide +kernel
theorem d_M_findField_32 : decode b_M_findField 32 = .ok (.iconst 4, 1) := by decide +kernel
theorem d_M_findField_33 : decode b_M_findField 33 = .ok (.iload 6, 2) := by decide +kernel
theorem d_M_findField_35 : decode b_M_findField 35 = .ok (.imul, 1) := by decide +kernel
theorem d_M_findField_36 : decode b_M_findField 36 = .ok (.iload_n 3, 1) := by decide +kernel
theorem d_M_findField_37 : decode b_M_findField 37 = .ok (.iadd, 1) := by decide +kernel
theorem d_M_findField_38 : decode b_M_findField 38 = .ok (.istore 7, 2) := by decide +kernel
theorem d_M_findField_40 : decode b_M_findField 40 = .ok (.aload_n 0, 1) := by decide +kernel
theorem d_M_findField_41 : decode b_M_findField 41 = .ok (.getfield 23, 3) := by decide +kernel
theorem d_M_findField_44 : decode b_M_findField 44 = .ok (.iload 7, 2) := by decide +kernel
theorem d_M_findField_46 : decode b_M_findField 46 = .ok (.iaload, 1) := by decide +kernel
theorem d_M_findField_47 : decode b_M_findField 47 = .ok (.ifCond .lt 23, 3) := by decide +kernel
theorem d_M_findField_50 : decode b_M_findField 50 = .ok (.iload 4, 2) := by decide +kernel
theorem d_M_findField_52 : decode b_M_findField 52 = .ok (.ifCond .lt 15, 3) := by decide +kernel
theorem d_M_findField_55 : decode b_M_findField 55 = .ok (.aload_n 0, 1) := by decide +kernel
theorem d_M_findField_56 : decode b_M_findField 56 = .ok (.getfield 23, 3) := by decide +kernel
theorem d_M_findField_59 : decode b_M_findField 59 = .ok (.iload 7, 2) := by decide +kernel
theorem d_M_findField_61 : decode b_M_findField 61 = .ok (.iaload, 1) := by decide +kernel
theorem d_M_findField_62 : decode b_M_findField 62 = .ok (.iload 4, 2) := by decide +kernel
theorem d_M_findField_64 : decode b_M_findField 64 = .ok (.if_icmp .ne 6, 3) := by decide +kernel
theorem d_M_findField_67 : decode b_M_findField 67 = .ok (.iload 7, 2) := by decide +kernel
theorem d_M_findField_69 : decode b_M_findField 69 = .ok (.ireturn, 1) := by decide +kernel
theorem d_M_findField_70 : decode b_M_findField 70 = .ok (.aload_n 0, 1) := by decide +kernel
theorem d_M_findField_71 : decode b_M_findField 71 = .ok (.getfield 17, 3) := by decide +kernel
theorem d_M_findField_74 : decode b_M_findField 74 = .ok (.iload 6, 2) := by decide +kernel
theorem d_M_findField_76 : decode b_M_findField 76 = .ok (.iaload, 1) := by decide +kernel
theorem d_M_findField_77 : decode b_M_findField 77 = .ok (.bipush 6, 2) := by decide +kernel
theorem d_M_findField_79 : decode b_M_findField 79 = .ok (.if_icmp .ge 20, 3) := by decide +kernel
theorem d_M_findField_82 : decode b_M_findField 82 = .ok (.aload_n 0, 1) := by decide +kernel
theorem d_M_findField_83 : decode b_M_findField 83 = .ok (.getfield 44, 3) := by decide +kernel
theorem d_M_findField_86 : decode b_M_findField 86 = .ok (.iload 5, 2) := by decide +kernel
theorem d_M_findField_88 : decode b_M_findField 88 = .ok (.aload_n 0, 1) := by decide +kernel
theorem d_M_findField_89 : decode b_M_findField 89 = .ok (.getfield 17, 3) := by decide +kernel
theorem d_M_findField_92 : decode b_M_findField 92 = .ok (.iload 6, 2) := by decide +kernel
theorem d_M_findField_94 : decode b_M_findField 94 = .ok (.iaload, 1) := by decide +kernel
theorem d_M_findField_95 : decode b_M_findField 95 = .ok (.iastore, 1) := by decide +kernel
theorem d_M_findField_96 : decode b_M_findField 96 = .ok (.iinc 5 1, 3) := by decide +kernel
theorem d_M_findField_99 : decode b_M_findField 99 = .ok (.iconst 5, 1) := by decide +kernel
theorem d_M_findField_100 : decode b_M_findField 100 = .ok (.istore 8, 2) := by decide +kernel
theorem d_M_findField_102 : decode b_M_findField 102 = .ok (.iload 8, 2) := by decide +kernel
theorem d_M_findField_104 : decode b_M_findField 104 = .ok (.ifCond .lt 39, 3) := by decide +kernel
theorem d_M_findField_107 : decode b_M_findField 107 = .ok (.aload_n 0, 1) := by decide +kernel
theorem d_M_findField_108 : decode b_M_findField 108 = .ok (.getfield 20, 3) := by decide +kernel
theorem d_M_findField_111 : decode b_M_findField 111 = .ok (.iload 6, 2) := by decide +kernel
theorem d_M_findField_113 : decode b_M_findField 113 = .ok (.iaload, 1) := by decide +kernel
theorem d_M_findField_114 : decode b_M_findField 114 = .ok (.iload 8, 2) := by decide +kernel
theorem d_M_findField_116 : decode b_M_findField 116 = .ok (.ishr, 1) := by decide +kernel
theorem d_M_findField_117 : decode b_M_findField 117 = .ok (.iconst 1, 1) := by decide +kernel
theorem d_M_findField_118 : decode b_M_findField 118 = .ok (.iand, 1) := by decide +kernel
theorem d_M_findField_119 : decode b_M_findField 119 = .ok (.ifCond .ne 6, 3) := by decide +kernel
theorem d_M_findField_122 : decode b_M_findField 122 = .ok (.goto 15, 3) := by decide +kernel
theorem d_M_findField_125 : decode b_M_findField 125 = .ok (.aload_n 0, 1) := by decide +kernel
theorem d_M_findField_126 : decode b_M_findField 126 = .ok (.getfield 44, 3) := by decide +kernel
theorem d_M_findField_129 : decode b_M_findField 129 = .ok (.iload 5, 2) := by decide +kernel
theorem d_M_findField_131 : decode b_M_findField 131 = .ok (.iload 8, 2) := by decide +kernel
theorem d_M_findField_133 : decode b_M_findField 133 = .ok (.iastore, 1) := by decide +kernel
theorem d_M_findField_134 : decode b_M_findField 134 = .ok (.iinc 5 1, 3) := by decide +kernel
theorem d_M_findField_137 : decode b_M_findField 137 = .ok (.iinc 8 (-1), 3) := by decide +kernel
theorem d_M_findField_140 : decode b_M_findField 140 = .ok (.goto (-38), 3) := by decide +kernel
theorem d_M_findField_143 : decode b_M_findField 143 = .ok (.goto (-133), 3) := by decide +kernel
theorem d_M_findField_146 : decode b_M_findField 146 = .ok (.iconst (-1), 1) := by decide +kernel
theorem d_M_findField_147 : decode b_M_findField 147 = .ok (.ireturn, 1) := by decide +kernel
theorem d_M_isUnder_0 : decode b_M_isUnder 0 = .ok (.iconst 1, 1) := by decide +kernel
theorem d_M_isUnder_1 : decode b_M_isUnder 1 = .ok (.iload_n 2, 1) := by decide +kernel
theorem d_M_isUnder_2 : decode b_M_isUnder 2 = .ok (.ishl, 1) := by decide +kernel
theorem d_M_isUnder_3 : decode b_M_isUnder 3 = .ok (.istore 4, 2) := by decide +kernel
theorem d_M_isUnder_5 : decode b_M_isUnder 5 = .ok (.iload_n 2, 1) := by decide +kernel
theorem d_M_isUnder_6 : decode b_M_isUnder 6 = .ok (.istore 5, 2) := by decide +kernel
theorem d_M_isUnder_8 : decode b_M_isUnder 8 = .ok (.iload 5, 2) := by decide +kernel
theorem d_M_isUnder_10 : decode b_M_isUnder 10 = .ok (.ifCond .lt 69, 3) := by decide +kernel
theorem d_M_isUnder_13 : decode b_M_isUnder 13 = .ok (.bipush 6, 2) := by decide +kernel
theorem d_M_isUnder_15 : decode b_M_isUnder 15 = .ok (.iload_n 1, 1) := by decide +kernel
theorem d_M_isUnder_16 : decode b_M_isUnder 16 = .ok (.imul, 1) := by decide +kernel
theorem d_M_isUnder_17 : decode b_M_isUnder 17 = .ok (.iload 5, 2) := by decide +kernel
theorem d_M_isUnder_19 : decode b_M_isUnder 19 = .ok (.iadd, 1) := by decide +kernel
theorem d_M_isUnder_20 : decode b_M_isUnder 20 = .ok (.istore 6, 2) := by decide +kernel
theorem d_M_isUnder_22 : decode b_M_isUnder 22 = .ok (.iload 4, 2) := by decide +kernel
theorem d_M_isUnder_24 : decode b_M_isUnder 24 = .ok (.iload 5, 2) := by decide +kernel
theorem d_M_isUnder_26 : decode b_M_isUnder 26 = .ok (.ishr, 1) := by decide +kernel
theorem d_M_isUnder_27 : decode b_M_isUnder 27 = .ok (.iconst 1, 1) := by decide +kernel
theorem d_M_isUnder_28 : decode b_M_isUnder 28 = .ok (.iand, 1) := by decide +kernel
theorem d_M_isUnder_29 : decode b_M_isUnder 29 = .ok (.ifCond .ne 6, 3) := by decide +kernel
theorem d_M_isUnder_32 : decode b_M_isUnder 32 = .ok (.goto 41, 3) := by decide +kernel
theorem d_M_isUnder_35 : decode b_M_isUnder 35 = .ok (.iload 4, 2) := by decide +kernel
theorem d_M_isUnder_37 : decode b_M_isUnder 37 = .ok (.aload_n 0, 1) := by decide +kernel
theorem d_M_isUnder_38 : decode b_M_isUnder 38 = .ok (.getfield 20, 3) := by decide +kernel
theorem d_M_isUnder_41 : decode b_M_isUnder 41 = .ok (.iload 6, 2) := by decide +kernel
theorem d_M_isUnder_43 : decode b_M_isUnder 43 = .ok (.iaload, 1) := by decide +kernel
theorem d_M_isUnder_44 : decode b_M_isUnder 44 = .ok (.ior, 1) := by decide +kernel
theorem d_M_isUnder_45 : decode b_M_isUnder 45 = .ok (.istore 4, 2) := by decide +kernel
theorem d_M_isUnder_47 : decode b_M_isUnder 47 = .ok (.aload_n 0, 1) := by decide +kernel
theorem d_M_isUnder_48 : decode b_M_isUnder 48 = .ok (.getfield 17, 3) := by decide +kernel
theorem d_M_isUnder_51 : decode b_M_isUnder 51 = .ok (.iload 6, 2) := by decide +kernel
theorem d_M_isUnder_53 : decode b_M_isUnder 53 = .ok (.iaload, 1) := by decide +kernel
theorem d_M_isUnder_54 : decode b_M_isUnder 54 = .ok (.bipush 6, 2) := by decide +kernel
theorem d_M_isUnder_56 : decode b_M_isUnder 56 = .ok (.if_icmp .ge 17, 3) := by decide +kernel
theorem d_M_isUnder_59 : decode b_M_isUnder 59 = .ok (.iload 4, 2) := by decide +kernel
theorem d_M_isUnder_61 : decode b_M_isUnder 61 = .ok (.iconst 1, 1) := by decide +kernel
theorem d_M_isUnder_62 : decode b_M_isUnder 62 = .ok (.aload_n 0, 1) := by decide +kernel
theorem d_M_isUnder_63 : decode b_M_isUnder 63 = .ok (.getfield 17, 3) := by decide +kernel
theorem d_M_isUnder_66 : decode b_M_isUnder 66 = .ok (.iload 6, 2) := by decide +kernel
theorem d_M_isUnder_68 : decode b_M_isUnder 68 = .ok (.iaload, 1) := by decide +kernel
theorem d_M_isUnder_69 : decode b_M_isUnder 69 = .ok (.ishl, 1) := by decide +kernel
theorem d_M_isUnder_70 : decode b_M_isUnder 70 = .ok (.ior, 1) := by decide +kernel
theorem d_M_isUnder_71 : decode b_M_isUnder 71 = .ok (.istore 4, 2) := by decide +kernel
theorem d_M_isUnder_73 : decode b_M_isUnder 73 = .ok (.iinc 5 (-1), 3) := by decide +kernel
theorem d_M_isUnder_76 : decode b_M_isUnder 76 = .ok (.goto (-68), 3) := by decide +kernel
theorem d_M_isUnder_79 : decode b_M_isUnder 79 = .ok (.iload 4, 2) := by decide +kernel
theorem d_M_isUnder_81 : decode b_M_isUnder 81 = .ok (.iload_n 3, 1) := by decide +kernel
theorem d_M_isUnder_82 : decode b_M_isUnder 82 = .ok (.ishr, 1) := by decide +kernel
theorem d_M_isUnder_83 : decode b_M_isUnder 83 = .ok (.iconst 1, 1) := by decide +kernel
theorem d_M_isUnder_84 : decode b_M_isUnder 84 = .ok (.iand, 1) := by decide +kernel
theorem d_M_isUnder_85 : decode b_M_isUnder 85 = .ok (.ifCond .eq 7, 3) := by decide +kernel
theorem d_M_isUnder_88 : decode b_M_isUnder 88 = .ok (.iconst 1, 1) := by decide +kernel
theorem d_M_isUnder_89 : decode b_M_isUnder 89 = .ok (.goto 4, 3) := by decide +kernel
theorem d_M_isUnder_92 : decode b_M_isUnder 92 = .ok (.iconst 0, 1) := by decide +kernel
theorem d_M_isUnder_93 : decode b_M_isUnder 93 = .ok (.ireturn, 1) := by decide +kernel
theorem d_M_isMethod_0 : decode b_M_isMethod 0 = .ok (.aload_n 0, 1) := by decide +kernel
theorem d_M_isMethod_1 : decode b_M_isMethod 1 = .ok (.getfield 32, 3) := by decide +kernel
theorem d_M_isMethod_4 : decode b_M_isMethod 4 = .ok (.iload_n 1, 1) := by decide +kernel
theorem d_M_isMethod_5 : decode b_M_isMethod 5 = .ok (.iaload, 1) := by decide +kernel
theorem d_M_isMethod_6 : decode b_M_isMethod 6 = .ok (.ifCond .lt 21, 3) := by decide +kernel
theorem d_M_isMethod_9 : decode b_M_isMethod 9 = .ok (.iload_n 2, 1) := by decide +kernel
theorem d_M_isMethod_10 : decode b_M_isMethod 10 = .ok (.ifCond .lt 13, 3) := by decide +kernel
theorem d_M_isMethod_13 : decode b_M_isMethod 13 = .ok (.aload_n 0, 1) := by decide +kernel
theorem d_M_isMethod_14 : decode b_M_isMethod 14 = .ok (.getfield 32, 3) := by decide +kernel
theorem d_M_isMethod_17 : decode b_M_isMethod 17 = .ok (.iload_n 1, 1) := by decide +kernel
theorem d_M_isMethod_18 : decode b_M_isMethod 18 = .ok (.iaload, 1) := by decide +kernel
theorem d_M_isMethod_19 : decode b_M_isMethod 19 = .ok (.iload_n 2, 1) := by decide +kernel
theorem d_M_isMethod_20 : decode b_M_isMethod 20 = .ok (.if_icmp .ne 7, 3) := by decide +kernel
theorem d_M_isMethod_23 : decode b_M_isMethod 23 = .ok (.iconst 1, 1) := by decide +kernel
theorem d_M_isMethod_24 : decode b_M_isMethod 24 = .ok (.goto 4, 3) := by decide +kernel
theorem d_M_isMethod_27 : decode b_M_isMethod 27 = .ok (.iconst 0, 1) := by decide +kernel
theorem d_M_isMethod_28 : decode b_M_isMethod 28 = .ok (.ireturn, 1) := by decide +kernel
theorem d_M_findMethod_0 : decode b_M_findMethod 0 = .ok (.iconst 4, 1) := by decide +kernel
theorem d_M_findMethod_1 : decode b_M_findMethod 1 = .ok (.iload_n 3, 1) := by decide +kernel
theorem d_M_findMethod_2 : decode b_M_findMethod 2 = .ok (.imul, 1) := by decide +kernel
theorem d_M_findMethod_3 : decode b_M_findMethod 3 = .ok (.iload 4, 2) := by decide +kernel
theorem d_M_findMethod_5 : decode b_M_findMethod 5 = .ok (.iadd, 1) := by decide +kernel
theorem d_M_findMethod_6 : decode b_M_findMethod 6 = .ok (.istore 6, 2) := by decide +kernel
theorem d_M_findMethod_8 : decode b_M_findMethod 8 = .ok (.iload_n 2, 1) := by decide +kernel
theorem d_M_findMethod_9 : decode b_M_findMethod 9 = .ok (.istore 7, 2) := by decide +kernel
theorem d_M_findMethod_11 : decode b_M_findMethod 11 = .ok (.iload 7, 2) := by decide +kernel
theorem d_M_findMethod_13 : decode b_M_findMethod 13 = .ok (.bipush 6, 2) := by decide +kernel
theorem d_M_findMethod_15 : decode b_M_findMethod 15 = .ok (.if_icmp .ge 49, 3) := by decide +kernel
theorem d_M_findMethod_18 : decode b_M_findMethod 18 = .ok (.bipush 12, 2) := by decide +kernel
theorem d_M_findMethod_20 : decode b_M_findMethod 20 = .ok (.bipush 6, 2) := by decide +kernel
theorem d_M_findMethod_22 : decode b_M_findMethod 22 = .ok (.iload_n 1, 1) := by decide +kernel
theorem d_M_findMethod_23 : decode b_M_findMethod 23 = .ok (.imul, 1) := by decide +kernel
theorem d_M_findMethod_24 : decode b_M_findMethod 24 = .ok (.iload 7, 2) := by decide +kernel
theorem d_M_findMethod_26 : decode b_M_findMethod 26 = .ok (.iadd, 1) := by decide +kernel
theorem d_M_findMethod_27 : decode b_M_findMethod 27 = .ok (.imul, 1) := by decide +kernel
theorem d_M_findMethod_28 : decode b_M_findMethod 28 = .ok (.iload 6, 2) := by decide +kernel
theorem d_M_findMethod_30 : decode b_M_findMethod 30 = .ok (.iadd, 1) := by decide +kernel
theorem d_M_findMethod_31 : decode b_M_findMethod 31 = .ok (.istore 8, 2) := by decide +kernel
theorem d_M_findMethod_33 : decode b_M_findMethod 33 = .ok (.aload_n 0, 1) := by decide +kernel
theorem d_M_findMethod_34 : decode b_M_findMethod 34 = .ok (.iload 8, 2) := by decide +kernel
theorem d_M_findMethod_36 : decode b_M_findMethod 36 = .ok (.iload 5, 2) := by decide +kernel
theorem d_M_findMethod_38 : decode b_M_findMethod 38 = .ok (.invokevirtual 63, 3) := by decide +kernel
theorem d_M_findMethod_41 : decode b_M_findMethod 41 = .ok (.ifCond .eq 6, 3) := by decide +kernel
theorem d_M_findMethod_44 : decode b_M_findMethod 44 = .ok (.iload 8, 2) := by decide +kernel
theorem d_M_findMethod_46 : decode b_M_findMethod 46 = .ok (.ireturn, 1) := by decide +kernel
theorem d_M_findMethod_47 : decode b_M_findMethod 47 = .ok (.aload_n 0, 1) := by decide +kernel
theorem d_M_findMethod_48 : decode b_M_findMethod 48 = .ok (.getfield 17, 3) := by decide +kernel
theorem d_M_findMethod_51 : decode b_M_findMethod 51 = .ok (.bipush 6, 2) := by decide +kernel
theorem d_M_findMethod_53 : decode b_M_findMethod 53 = .ok (.iload_n 1, 1) := by decide +kernel
theorem d_M_findMethod_54 : decode b_M_findMethod 54 = .ok (.imul, 1) := by decide +kernel
theorem d_M_findMethod_55 : decode b_M_findMethod 55 = .ok (.iload 7, 2) := by decide +kernel
theorem d_M_findMethod_57 : decode b_M_findMethod 57 = .ok (.iadd, 1) := by decide +kernel
theorem d_M_findMethod_58 : decode b_M_findMethod 58 = .ok (.iaload, 1) := by decide +kernel
theorem d_M_findMethod_59 : decode b_M_findMethod 59 = .ok (.istore 7, 2) := by decide +kernel
theorem d_M_findMethod_61 : decode b_M_findMethod 61 = .ok (.goto (-50), 3) := by decide +kernel
theorem d_M_findMethod_64 : decode b_M_findMethod 64 = .ok (.iconst 5, 1) := by decide +kernel
theorem d_M_findMethod_65 : decode b_M_findMethod 65 = .ok (.istore 8, 2) := by decide +kernel
theorem d_M_findMethod_67 : decode b_M_findMethod 67 = .ok (.iload 8, 2) := by decide +kernel
theorem d_M_findMethod_69 : decode b_M_findMethod 69 = .ok (.ifCond .lt 77, 3) := by decide +kernel
theorem d_M_findMethod_72 : decode b_M_findMethod 72 = .ok (.bipush 6, 2) := by decide +kernel
theorem d_M_findMethod_74 : decode b_M_findMethod 74 = .ok (.iload_n 1, 1) := by decide +kernel
theorem d_M_findMethod_75 : decode b_M_findMethod 75 = .ok (.imul, 1) := by decide +kernel
theorem d_M_findMethod_76 : decode b_M_findMethod 76 = .ok (.iload 8, 2) := by decide +kernel
theorem d_M_findMethod_78 : decode b_M_findMethod 78 = .ok (.iadd, 1) := by decide +kernel
theorem d_M_findMethod_79 : decode b_M_findMethod 79 = .ok (.istore 9, 2) := by decide +kernel
theorem d_M_findMethod_81 : decode b_M_findMethod 81 = .ok (.aload_n 0, 1) := by decide +kernel
theorem d_M_findMethod_82 : decode b_M_findMethod 82 = .ok (.getfield 7, 3) := by decide +kernel
theorem d_M_findMethod_85 : decode b_M_findMethod 85 = .ok (.iload 9, 2) := by decide +kernel
theorem d_M_findMethod_87 : decode b_M_findMethod 87 = .ok (.baload, 1) := by decide +kernel
theorem d_M_findMethod_88 : decode b_M_findMethod 88 = .ok (.ifCond .eq 52, 3) := by decide +kernel
theorem d_M_findMethod_91 : decode b_M_findMethod 91 = .ok (.aload_n 0, 1) := by decide +kernel
theorem d_M_findMethod_92 : decode b_M_findMethod 92 = .ok (.getfield 13, 3) := by decide +kernel
theorem d_M_findMethod_95 : decode b_M_findMethod 95 = .ok (.iload 9, 2) := by decide +kernel
theorem d_M_findMethod_97 : decode b_M_findMethod 97 = .ok (.iaload, 1) := by decide +kernel
theorem d_M_findMethod_98 : decode b_M_findMethod 98 = .ok (.iconst 1, 1) := by decide +kernel
theorem d_M_findMethod_99 : decode b_M_findMethod 99 = .ok (.iand, 1) := by decide +kernel
theorem d_M_findMethod_100 : decode b_M_findMethod 100 = .ok (.ifCond .eq 40, 3) := by decide +kernel
theorem d_M_findMethod_103 : decode b_M_findMethod 103 = .ok (.aload_n 0, 1) := by decide +kernel
theorem d_M_findMethod_104 : decode b_M_findMethod 104 = .ok (.iload_n 1, 1) := by decide +kernel
theorem d_M_findMethod_105 : decode b_M_findMethod 105 = .ok (.iload_n 2, 1) := by decide +kernel
theorem d_M_findMethod_106 : decode b_M_findMethod 106 = .ok (.iload 8, 2) := by decide +kernel
theorem d_M_findMethod_108 : decode b_M_findMethod 108 = .ok (.invokevirtual 66, 3) := by decide +kernel
theorem d_M_findMethod_111 : decode b_M_findMethod 111 = .ok (.ifCond .eq 29, 3) := by decide +kernel
theorem d_M_findMethod_114 : decode b_M_findMethod 114 = .ok (.aload_n 0, 1) := by decide +kernel
theorem d_M_findMethod_115 : decode b_M_findMethod 115 = .ok (.bipush 12, 2) := by decide +kernel
theorem d_M_findMethod_117 : decode b_M_findMethod 117 = .ok (.iload 9, 2) := by decide +kernel
theorem d_M_findMethod_119 : decode b_M_findMethod 119 = .ok (.imul, 1) := by decide +kernel
theorem d_M_findMethod_120 : decode b_M_findMethod 120 = .ok (.iload 6, 2) := by decide +kernel
theorem d_M_findMethod_122 : decode b_M_findMethod 122 = .ok (.iadd, 1) := by decide +kernel
theorem d_M_findMethod_123 : decode b_M_findMethod 123 = .ok (.iload 5, 2) := by decide +kernel
theorem d_M_findMethod_125 : decode b_M_findMethod 125 = .ok (.invokevirtual 63, 3) := by decide +kernel
theorem d_M_findMethod_128 : decode b_M_findMethod 128 = .ok (.ifCond .eq 12, 3) := by decide +kernel
theorem d_M_findMethod_131 : decode b_M_findMethod 131 = .ok (.bipush 12, 2) := by decide +kernel
theorem d_M_findMethod_133 : decode b_M_findMethod 133 = .ok (.iload 9, 2) := by decide +kernel
theorem d_M_findMethod_135 : decode b_M_findMethod 135 = .ok (.imul, 1) := by decide +kernel
theorem d_M_findMethod_136 : decode b_M_findMethod 136 = .ok (.iload 6, 2) := by decide +kernel
theorem d_M_findMethod_138 : decode b_M_findMethod 138 = .ok (.iadd, 1) := by decide +kernel
theorem d_M_findMethod_139 : decode b_M_findMethod 139 = .ok (.ireturn, 1) := by decide +kernel
theorem d_M_findMethod_140 : decode b_M_findMethod 140 = .ok (.iinc 8 (-1), 3) := by decide +kernel
theorem d_M_findMethod_143 : decode b_M_findMethod 143 = .ok (.goto (-76), 3) := by decide +kernel
theorem d_M_findMethod_146 : decode b_M_findMethod 146 = .ok (.iconst (-1), 1) := by decide +kernel
theorem d_M_findMethod_147 : decode b_M_findMethod 147 = .ok (.ireturn, 1) := by decide +kernel
theorem d_M_bindField_0 : decode b_M_bindField 0 = .ok (.bipush 7, 2) := by decide +kernel
theorem d_M_bindField_2 : decode b_M_bindField 2 = .ok (.iload_n 1, 1) := by decide +kernel
theorem d_M_bindField_3 : decode b_M_bindField 3 = .ok (.imul, 1) := by decide +kernel
theorem d_M_bindField_4 : decode b_M_bindField 4 = .ok (.istore 5, 2) := by decide +kernel
theorem d_M_bindField_6 : decode b_M_bindField 6 = .ok (.aload_n 0, 1) := by decide +kernel
theorem d_M_bindField_7 : decode b_M_bindField 7 = .ok (.iload_n 1, 1) := by decide +kernel
theorem d_M_bindField_8 : decode b_M_bindField 8 = .ok (.iload_n 3, 1) := by decide +kernel
theorem d_M_bindField_9 : decode b_M_bindField 9 = .ok (.iload 4, 2) := by decide +kernel
theorem d_M_bindField_11 : decode b_M_bindField 11 = .ok (.iconst (-1), 1) := by decide +kernel
theorem d_M_bindField_12 : decode b_M_bindField 12 = .ok (.invokevirtual 69, 3) := by decide +kernel
theorem d_M_bindField_15 : decode b_M_bindField 15 = .ok (.istore 6, 2) := by decide +kernel
theorem d_M_bindField_17 : decode b_M_bindField 17 = .ok (.iload 6, 2) := by decide +kernel
theorem d_M_bindField_19 : decode b_M_bindField 19 = .ok (.ifCond .lt 16, 3) := by decide +kernel
theorem d_M_bindField_22 : decode b_M_bindField 22 = .ok (.aload_n 0, 1) := by decide +kernel
theorem d_M_bindField_23 : decode b_M_bindField 23 = .ok (.getfield 26, 3) := by decide +kernel
theorem d_M_bindField_26 : decode b_M_bindField 26 = .ok (.iload 6, 2) := by decide +kernel
theorem d_M_bindField_28 : decode b_M_bindField 28 = .ok (.iaload, 1) := by decide +kernel
theorem d_M_bindField_29 : decode b_M_bindField 29 = .ok (.bipush 8, 2) := by decide +kernel
theorem d_M_bindField_31 : decode b_M_bindField 31 = .ok (.iand, 1) := by decide +kernel
theorem d_M_bindField_32 : decode b_M_bindField 32 = .ok (.ifCond .eq 6, 3) := by decide +kernel
theorem d_M_bindField_35 : decode b_M_bindField 35 = .ok (.bipush (-4), 2) := by decide +kernel
theorem d_M_bindField_37 : decode b_M_bindField 37 = .ok (.ireturn, 1) := by decide +kernel
theorem d_M_bindField_38 : decode b_M_bindField 38 = .ok (.iload_n 2, 1) := by decide +kernel
theorem d_M_bindField_39 : decode b_M_bindField 39 = .ok (.iconst 1, 1) := by decide +kernel
theorem d_M_bindField_40 : decode b_M_bindField 40 = .ok (.if_icmp .ne 18, 3) := by decide +kernel
theorem d_M_bindField_43 : decode b_M_bindField 43 = .ok (.aload_n 0, 1) := by decide +kernel
theorem d_M_bindField_44 : decode b_M_bindField 44 = .ok (.getfield 26, 3) := by decide +kernel
theorem d_M_bindField_47 : decode b_M_bindField 47 = .ok (.iload 6, 2) := by decide +kernel
theorem d_M_bindField_49 : decode b_M_bindField 49 = .ok (.iaload, 1) := by decide +kernel
theorem d_M_bindField_50 : decode b_M_bindField 50 = .ok (.iconst 4, 1) := by decide +kernel
theorem d_M_bindField_51 : decode b_M_bindField 51 = .ok (.iand, 1) := by decide +kernel
theorem d_M_bindField_52 : decode b_M_bindField 52 = .ok (.ifCond .eq 6, 3) := by decide +kernel
theorem d_M_bindField_55 : decode b_M_bindField 55 = .ok (.bipush (-5), 2) := by decide +kernel
theorem d_M_bindField_57 : decode b_M_bindField 57 = .ok (.ireturn, 1) := by decide +kernel
theorem d_M_bindField_58 : decode b_M_bindField 58 = .ok (.aload_n 0, 1) := by decide +kernel
theorem d_M_bindField_59 : decode b_M_bindField 59 = .ok (.getfield 41, 3) := by decide +kernel
theorem d_M_bindField_62 : decode b_M_bindField 62 = .ok (.iload 5, 2) := by decide +kernel
theorem d_M_bindField_64 : decode b_M_bindField 64 = .ok (.iload_n 2, 1) := by decide +kernel
theorem d_M_bindField_65 : decode b_M_bindField 65 = .ok (.ifCond .ne 20, 3) := by decide +kernel
theorem d_M_bindField_68 : decode b_M_bindField 68 = .ok (.aload_n 0, 1) := by decide +kernel
theorem d_M_bindField_69 : decode b_M_bindField 69 = .ok (.getfield 26, 3) := by decide +kernel
theorem d_M_bindField_72 : decode b_M_bindField 72 = .ok (.iload 6, 2) := by decide +kernel
theorem d_M_bindField_74 : decode b_M_bindField 74 = .ok (.iaload, 1) := by decide +kernel
theorem d_M_bindField_75 : decode b_M_bindField 75 = .ok (.bipush 16, 2) := by decide +kernel
theorem d_M_bindField_77 : decode b_M_bindField 77 = .ok (.iand, 1) := by decide +kernel
theorem d_M_bindField_78 : decode b_M_bindField 78 = .ok (.ifCond .eq 7, 3) := by decide +kernel
theorem d_M_bindField_81 : decode b_M_bindField 81 = .ok (.iconst 1, 1) := by decide +kernel
theorem d_M_bindField_82 : decode b_M_bindField 82 = .ok (.goto 4, 3) := by decide +kernel
theorem d_M_bindField_85 : decode b_M_bindField 85 = .ok (.iconst 0, 1) := by decide +kernel
theorem d_M_bindField_86 : decode b_M_bindField 86 = .ok (.iastore, 1) := by decide +kernel
theorem d_M_bindField_87 : decode b_M_bindField 87 = .ok (.aload_n 0, 1) := by decide +kernel
theorem d_M_bindField_88 : decode b_M_bindField 88 = .ok (.getfield 41, 3) := by decide +kernel
theorem d_M_bindField_91 : decode b_M_bindField 91 = .ok (.iload 5, 2) := by decide +kernel
theorem d_M_bindField_93 : decode b_M_bindField 93 = .ok (.iconst 1, 1) := by decide +kernel
theorem d_M_bindField_94 : decode b_M_bindField 94 = .ok (.iadd, 1) := by decide +kernel
theorem d_M_bindField_95 : decode b_M_bindField 95 = .ok (.aload_n 0, 1) := by decide +kernel
theorem d_M_bindField_96 : decode b_M_bindField 96 = .ok (.getfield 23, 3) := by decide +kernel
theorem d_M_bindField_99 : decode b_M_bindField 99 = .ok (.iload 6, 2) := by decide +kernel
theorem d_M_bindField_101 : decode b_M_bindField 101 = .ok (.iaload, 1) := by decide +kernel
theorem d_M_bindField_102 : decode b_M_bindField 102 = .ok (.iastore, 1) := by decide +kernel
theorem d_M_bindField_103 : decode b_M_bindField 103 = .ok (.aload_n 0, 1) := by decide +kernel
theorem d_M_bindField_104 : decode b_M_bindField 104 = .ok (.getfield 41, 3) := by decide +kernel
theorem d_M_bindField_107 : decode b_M_bindField 107 = .ok (.iload 5, 2) := by decide +kernel
theorem d_M_bindField_109 : decode b_M_bindField 109 = .ok (.iconst 3, 1) := by decide +kernel
theorem d_M_bindField_110 : decode b_M_bindField 110 = .ok (.iadd, 1) := by decide +kernel
theorem d_M_bindField_111 : decode b_M_bindField 111 = .ok (.aload_n 0, 1) := by decide +kernel
theorem d_M_bindField_112 : decode b_M_bindField 112 = .ok (.getfield 41, 3) := by decide +kernel
theorem d_M_bindField_115 : decode b_M_bindField 115 = .ok (.iload 5, 2) := by decide +kernel
theorem d_M_bindField_117 : decode b_M_bindField 117 = .ok (.iaload, 1) := by decide +kernel
theorem d_M_bindField_118 : decode b_M_bindField 118 = .ok (.iconst 1, 1) := by decide +kernel
theorem d_M_bindField_119 : decode b_M_bindField 119 = .ok (.if_icmp .ne 7, 3) := by decide +kernel
theorem d_M_bindField_122 : decode b_M_bindField 122 = .ok (.iconst 0, 1) := by decide +kernel
theorem d_M_bindField_123 : decode b_M_bindField 123 = .ok (.goto 14, 3) := by decide +kernel
theorem d_M_bindField_126 : decode b_M_bindField 126 = .ok (.aload_n 0, 1) := by decide +kernel
theorem d_M_bindField_127 : decode b_M_bindField 127 = .ok (.getfield 26, 3) := by decide +kernel
theorem d_M_bindField_130 : decode b_M_bindField 130 = .ok (.iload 6, 2) := by decide +kernel
theorem d_M_bindField_132 : decode b_M_bindField 132 = .ok (.iaload, 1) := by decide +kernel
theorem d_M_bindField_133 : decode b_M_bindField 133 = .ok (.iconst 1, 1) := by decide +kernel
theorem d_M_bindField_134 : decode b_M_bindField 134 = .ok (.invokestatic 73, 3) := by decide +kernel
theorem d_M_bindField_137 : decode b_M_bindField 137 = .ok (.iastore, 1) := by decide +kernel
theorem d_M_bindField_138 : decode b_M_bindField 138 = .ok (.aload_n 0, 1) := by decide +kernel
theorem d_M_bindField_139 : decode b_M_bindField 139 = .ok (.getfield 41, 3) := by decide +kernel
theorem d_M_bindField_142 : decode b_M_bindField 142 = .ok (.iload 5, 2) := by decide +kernel
theorem d_M_bindField_144 : decode b_M_bindField 144 = .ok (.iconst 5, 1) := by decide +kernel
theorem d_M_bindField_145 : decode b_M_bindField 145 = .ok (.iadd, 1) := by decide +kernel
theorem d_M_bindField_146 : decode b_M_bindField 146 = .ok (.aload_n 0, 1) := by decide +kernel
theorem d_M_bindField_147 : decode b_M_bindField 147 = .ok (.getfield 41, 3) := by decide +kernel
theorem d_M_bindField_150 : decode b_M_bindField 150 = .ok (.iload 5, 2) := by decide +kernel
theorem d_M_bindField_152 : decode b_M_bindField 152 = .ok (.iaload, 1) := by decide +kernel
theorem d_M_bindField_153 : decode b_M_bindField 153 = .ok (.iconst 1, 1) := by decide +kernel
theorem d_M_bindField_154 : decode b_M_bindField 154 = .ok (.if_icmp .ne 13, 3) := by decide +kernel
theorem d_M_bindField_157 : decode b_M_bindField 157 = .ok (.aload_n 0, 1) := by decide +kernel
theorem d_M_bindField_158 : decode b_M_bindField 158 = .ok (.getfield 29, 3) := by decide +kernel
theorem d_M_bindField_161 : decode b_M_bindField 161 = .ok (.iload 6, 2) := by decide +kernel
theorem d_M_bindField_163 : decode b_M_bindField 163 = .ok (.iaload, 1) := by decide +kernel
theorem d_M_bindField_164 : decode b_M_bindField 164 = .ok (.goto 4, 3) := by decide +kernel
theorem d_M_bindField_167 : decode b_M_bindField 167 = .ok (.iconst 0, 1) := by decide +kernel
theorem d_M_bindField_168 : decode b_M_bindField 168 = .ok (.iastore, 1) := by decide +kernel
theorem d_M_bindField_169 : decode b_M_bindField 169 = .ok (.iconst 0, 1) := by decide +kernel
theorem d_M_bindField_170 : decode b_M_bindField 170 = .ok (.ireturn, 1) := by decide +kernel
theorem d_M_bindMethod_0 : decode b_M_bindMethod 0 = .ok (.bipush 7, 2) := by decide +kernel
theorem d_M_bindMethod_2 : decode b_M_bindMethod 2 = .ok (.iload_n 1, 1) := by decide +kernel
theorem d_M_bindMethod_3 : decode b_M_bindMethod 3 = .ok (.imul, 1) := by decide +kernel
theorem d_M_bindMethod_4 : decode b_M_bindMethod 4 = .ok (.istore 4, 2) := by decide +kernel
theorem d_M_bindMethod_6 : decode b_M_bindMethod 6 = .ok (.aload_n 0, 1) := by decide +kernel
theorem d_M_bindMethod_7 : decode b_M_bindMethod 7 = .ok (.getfield 41, 3) := by decide +kernel
theorem d_M_bindMethod_10 : decode b_M_bindMethod 10 = .ok (.iload 4, 2) := by decide +kernel
theorem d_M_bindMethod_12 : decode b_M_bindMethod 12 = .ok (.iconst 1, 1) := by decide +kernel
theorem d_M_bindMethod_13 : decode b_M_bindMethod 13 = .ok (.iadd, 1) := by decide +kernel
theorem d_M_bindMethod_14 : decode b_M_bindMethod 14 = .ok (.iload_n 3, 1) := by decide +kernel
theorem d_M_bindMethod_15 : decode b_M_bindMethod 15 = .ok (.iastore, 1) := by decide +kernel
theorem d_M_bindMethod_16 : decode b_M_bindMethod 16 = .ok (.aload_n 0, 1) := by decide +kernel
theorem d_M_bindMethod_17 : decode b_M_bindMethod 17 = .ok (.getfield 41, 3) := by decide +kernel
theorem d_M_bindMethod_20 : decode b_M_bindMethod 20 = .ok (.iload 4, 2) := by decide +kernel
theorem d_M_bindMethod_22 : decode b_M_bindMethod 22 = .ok (.iconst 2, 1) := by decide +kernel
theorem d_M_bindMethod_23 : decode b_M_bindMethod 23 = .ok (.iadd, 1) := by decide +kernel
theorem d_M_bindMethod_24 : decode b_M_bindMethod 24 = .ok (.aload_n 0, 1) := by decide +kernel
theorem d_M_bindMethod_25 : decode b_M_bindMethod 25 = .ok (.getfield 32, 3) := by decide +kernel
theorem d_M_bindMethod_28 : decode b_M_bindMethod 28 = .ok (.iload_n 2, 1) := by decide +kernel
theorem d_M_bindMethod_29 : decode b_M_bindMethod 29 = .ok (.iaload, 1) := by decide +kernel
theorem d_M_bindMethod_30 : decode b_M_bindMethod 30 = .ok (.iastore, 1) := by decide +kernel
theorem d_M_bindMethod_31 : decode b_M_bindMethod 31 = .ok (.aload_n 0, 1) := by decide +kernel
theorem d_M_bindMethod_32 : decode b_M_bindMethod 32 = .ok (.getfield 41, 3) := by decide +kernel
theorem d_M_bindMethod_35 : decode b_M_bindMethod 35 = .ok (.iload 4, 2) := by decide +kernel
theorem d_M_bindMethod_37 : decode b_M_bindMethod 37 = .ok (.bipush 6, 2) := by decide +kernel
theorem d_M_bindMethod_39 : decode b_M_bindMethod 39 = .ok (.iadd, 1) := by decide +kernel
theorem d_M_bindMethod_40 : decode b_M_bindMethod 40 = .ok (.iload_n 2, 1) := by decide +kernel
theorem d_M_bindMethod_41 : decode b_M_bindMethod 41 = .ok (.bipush 12, 2) := by decide +kernel
theorem d_M_bindMethod_43 : decode b_M_bindMethod 43 = .ok (.idiv, 1) := by decide +kernel
theorem d_M_bindMethod_44 : decode b_M_bindMethod 44 = .ok (.bipush 6, 2) := by decide +kernel
theorem d_M_bindMethod_46 : decode b_M_bindMethod 46 = .ok (.irem, 1) := by decide +kernel
theorem d_M_bindMethod_47 : decode b_M_bindMethod 47 = .ok (.iastore, 1) := by decide +kernel
theorem d_M_bindMethod_48 : decode b_M_bindMethod 48 = .ok (.iconst 0, 1) := by decide +kernel
theorem d_M_bindMethod_49 : decode b_M_bindMethod 49 = .ok (.ireturn, 1) := by decide +kernel
theorem d_M_bindCall_0 : decode b_M_bindCall 0 = .ok (.iload 5, 2) := by decide +kernel
theorem d_M_bindCall_2 : decode b_M_bindCall 2 = .ok (.istore 6, 2) := by decide +kernel
theorem d_M_bindCall_4 : decode b_M_bindCall 4 = .ok (.iload 6, 2) := by decide +kernel
theorem d_M_bindCall_6 : decode b_M_bindCall 6 = .ok (.iconst 4, 1) := by decide +kernel
theorem d_M_bindCall_7 : decode b_M_bindCall 7 = .ok (.if_icmp .ge 134, 3) := by decide +kernel
theorem d_M_bindCall_10 : decode b_M_bindCall 10 = .ok (.iload 5, 2) := by decide +kernel
theorem d_M_bindCall_12 : decode b_M_bindCall 12 = .ok (.ifCond .ne 11, 3) := by decide +kernel
theorem d_M_bindCall_15 : decode b_M_bindCall 15 = .ok (.iload 6, 2) := by decide +kernel
theorem d_M_bindCall_17 : decode b_M_bindCall 17 = .ok (.ifCond .le 6, 3) := by decide +kernel
theorem d_M_bindCall_20 : decode b_M_bindCall 20 = .ok (.goto 115, 3) := by decide +kernel
theorem d_M_bindCall_23 : decode b_M_bindCall 23 = .ok (.aload_n 0, 1) := by decide +kernel
theorem d_M_bindCall_24 : decode b_M_bindCall 24 = .ok (.iload_n 1, 1) := by decide +kernel
theorem d_M_bindCall_25 : decode b_M_bindCall 25 = .ok (.iload_n 3, 1) := by decide +kernel
theorem d_M_bindCall_26 : decode b_M_bindCall 26 = .ok (.iload 4, 2) := by decide +kernel
theorem d_M_bindCall_28 : decode b_M_bindCall 28 = .ok (.iload 6, 2) := by decide +kernel
theorem d_M_bindCall_30 : decode b_M_bindCall 30 = .ok (.iconst (-1), 1) := by decide +kernel
theorem d_M_bindCall_31 : decode b_M_bindCall 31 = .ok (.invokevirtual 77, 3) := by decide +kernel
theorem d_M_bindCall_34 : decode b_M_bindCall 34 = .ok (.istore 7, 2) := by decide +kernel
theorem d_M_bindCall_36 : decode b_M_bindCall 36 = .ok (.iload 7, 2) := by decide +kernel
theorem d_M_bindCall_38 : decode b_M_bindCall 38 = .ok (.ifCond .lt 97, 3) := by decide +kernel
theorem d_M_bindCall_41 : decode b_M_bindCall 41 = .ok (.aload_n 0, 1) := by decide +kernel
theorem d_M_bindCall_42 : decode b_M_bindCall 42 = .ok (.getfield 35, 3) := by decide +kernel
theorem d_M_bindCall_45 : decode b_M_bindCall 45 = .ok (.iload 7, 2) := by decide +kernel
theorem d_M_bindCall_47 : decode b_M_bindCall 47 = .ok (.iaload, 1) := by decide +kernel
theorem d_M_bindCall_48 : decode b_M_bindCall 48 = .ok (.bipush 8, 2) := by decide +kernel
theorem d_M_bindCall_50 : decode b_M_bindCall 50 = .ok (.iand, 1) := by decide +kernel
theorem d_M_bindCall_51 : decode b_M_bindCall 51 = .ok (.ifCond .eq 6, 3) := by decide +kernel
theorem d_M_bindCall_54 : decode b_M_bindCall 54 = .ok (.goto 81, 3) := by decide +kernel
theorem d_M_bindCall_57 : decode b_M_bindCall 57 = .ok (.iload_n 2, 1) := by decide +kernel
theorem d_M_bindCall_58 : decode b_M_bindCall 58 = .ok (.iconst 3, 1) := by decide +kernel
theorem d_M_bindCall_59 : decode b_M_bindCall 59 = .ok (.if_icmp .ne 18, 3) := by decide +kernel
theorem d_M_bindCall_62 : decode b_M_bindCall 62 = .ok (.aload_n 0, 1) := by decide +kernel
theorem d_M_bindCall_63 : decode b_M_bindCall 63 = .ok (.getfield 35, 3) := by decide +kernel
theorem d_M_bindCall_66 : decode b_M_bindCall 66 = .ok (.iload 7, 2) := by decide +kernel
theorem d_M_bindCall_68 : decode b_M_bindCall 68 = .ok (.iaload, 1) := by decide +kernel
theorem d_M_bindCall_69 : decode b_M_bindCall 69 = .ok (.iconst 1, 1) := by decide +kernel
theorem d_M_bindCall_70 : decode b_M_bindCall 70 = .ok (.iand, 1) := by decide +kernel
theorem d_M_bindCall_71 : decode b_M_bindCall 71 = .ok (.ifCond .ne 6, 3) := by decide +kernel
theorem d_M_bindCall_74 : decode b_M_bindCall 74 = .ok (.bipush (-5), 2) := by decide +kernel
theorem d_M_bindCall_76 : decode b_M_bindCall 76 = .ok (.ireturn, 1) := by decide +kernel
theorem d_M_bindCall_77 : decode b_M_bindCall 77 = .ok (.aload_n 0, 1) := by decide +kernel
theorem d_M_bindCall_78 : decode b_M_bindCall 78 = .ok (.getfield 41, 3) := by decide +kernel
theorem d_M_bindCall_81 : decode b_M_bindCall 81 = .ok (.bipush 7, 2) := by decide +kernel
theorem d_M_bindCall_83 : decode b_M_bindCall 83 = .ok (.iload_n 1, 1) := by decide +kernel
theorem d_M_bindCall_84 : decode b_M_bindCall 84 = .ok (.imul, 1) := by decide +kernel
theorem d_M_bindCall_85 : decode b_M_bindCall 85 = .ok (.iconst 3, 1) := by decide +kernel
theorem d_M_bindCall_86 : decode b_M_bindCall 86 = .ok (.iadd, 1) := by decide +kernel
theorem d_M_bindCall_87 : decode b_M_bindCall 87 = .ok (.aload_n 0, 1) := by decide +kernel
theorem d_M_bindCall_88 : decode b_M_bindCall 88 = .ok (.getfield 35, 3) := by decide +kernel
theorem d_M_bindCall_91 : decode b_M_bindCall 91 = .ok (.iload 7, 2) := by decide +kernel
theorem d_M_bindCall_93 : decode b_M_bindCall 93 = .ok (.iaload, 1) := by decide +kernel
theorem d_M_bindCall_94 : decode b_M_bindCall 94 = .ok (.iconst 1, 1) := by decide +kernel
theorem d_M_bindCall_95 : decode b_M_bindCall 95 = .ok (.invokestatic 73, 3) := by decide +kernel
theorem d_M_bindCall_98 : decode b_M_bindCall 98 = .ok (.iastore, 1) := by decide +kernel
theorem d_M_bindCall_99 : decode b_M_bindCall 99 = .ok (.aload_n 0, 1) := by decide +kernel
theorem d_M_bindCall_100 : decode b_M_bindCall 100 = .ok (.getfield 41, 3) := by decide +kernel
theorem d_M_bindCall_103 : decode b_M_bindCall 103 = .ok (.bipush 7, 2) := by decide +kernel
theorem d_M_bindCall_105 : decode b_M_bindCall 105 = .ok (.iload_n 1, 1) := by decide +kernel
theorem d_M_bindCall_106 : decode b_M_bindCall 106 = .ok (.imul, 1) := by decide +kernel
theorem d_M_bindCall_107 : decode b_M_bindCall 107 = .ok (.iconst 4, 1) := by decide +kernel
theorem d_M_bindCall_108 : decode b_M_bindCall 108 = .ok (.iadd, 1) := by decide +kernel
theorem d_M_bindCall_109 : decode b_M_bindCall 109 = .ok (.aload_n 0, 1) := by decide +kernel
theorem d_M_bindCall_110 : decode b_M_bindCall 110 = .ok (.getfield 13, 3) := by decide +kernel
theorem d_M_bindCall_113 : decode b_M_bindCall 113 = .ok (.bipush 6, 2) := by decide +kernel
theorem d_M_bindCall_115 : decode b_M_bindCall 115 = .ok (.iload_n 1, 1) := by decide +kernel
theorem d_M_bindCall_116 : decode b_M_bindCall 116 = .ok (.imul, 1) := by decide +kernel
