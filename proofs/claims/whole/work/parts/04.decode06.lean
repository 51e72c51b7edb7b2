theorem d_M_count_68 : decode b_M_count 68 = .ok (.iload_n 2, 1) := by decide +kernel
theorem d_M_count_69 : decode b_M_count 69 = .ok (.iconst 1, 1) := by decide +kernel
theorem d_M_count_70 : decode b_M_count 70 = .ok (.if_icmp .ne 25, 3) := by decide +kernel
theorem d_M_count_73 : decode b_M_count 73 = .ok (.iload 4, 2) := by decide +kernel
theorem d_M_count_75 : decode b_M_count 75 = .ok (.iconst 3, 1) := by decide +kernel
theorem d_M_count_76 : decode b_M_count 76 = .ok (.irem, 1) := by decide +kernel
theorem d_M_count_77 : decode b_M_count 77 = .ok (.ifCond .ne 18, 3) := by decide +kernel
theorem d_M_count_80 : decode b_M_count 80 = .ok (.aload_n 0, 1) := by decide +kernel
theorem d_M_count_81 : decode b_M_count 81 = .ok (.getfield 23, 3) := by decide +kernel
theorem d_M_count_84 : decode b_M_count 84 = .ok (.iload 4, 2) := by decide +kernel
theorem d_M_count_86 : decode b_M_count 86 = .ok (.iconst 3, 1) := by decide +kernel
theorem d_M_count_87 : decode b_M_count 87 = .ok (.idiv, 1) := by decide +kernel
theorem d_M_count_88 : decode b_M_count 88 = .ok (.iaload, 1) := by decide +kernel
theorem d_M_count_89 : decode b_M_count 89 = .ok (.ifCond .lt 6, 3) := by decide +kernel
theorem d_M_count_92 : decode b_M_count 92 = .ok (.iinc 3 1, 3) := by decide +kernel
theorem d_M_count_95 : decode b_M_count 95 = .ok (.iload_n 2, 1) := by decide +kernel
theorem d_M_count_96 : decode b_M_count 96 = .ok (.iconst 2, 1) := by decide +kernel
theorem d_M_count_97 : decode b_M_count 97 = .ok (.if_icmp .ne 16, 3) := by decide +kernel
theorem d_M_count_100 : decode b_M_count 100 = .ok (.aload_n 0, 1) := by decide +kernel
theorem d_M_count_101 : decode b_M_count 101 = .ok (.getfield 32, 3) := by decide +kernel
theorem d_M_count_104 : decode b_M_count 104 = .ok (.iload 4, 2) := by decide +kernel
theorem d_M_count_106 : decode b_M_count 106 = .ok (.iaload, 1) := by decide +kernel
theorem d_M_count_107 : decode b_M_count 107 = .ok (.ifCond .lt 6, 3) := by decide +kernel
theorem d_M_count_110 : decode b_M_count 110 = .ok (.iinc 3 1, 3) := by decide +kernel
theorem d_M_count_113 : decode b_M_count 113 = .ok (.iinc 4 1, 3) := by decide +kernel
theorem d_M_count_116 : decode b_M_count 116 = .ok (.goto (-88), 3) := by decide +kernel
theorem d_M_count_119 : decode b_M_count 119 = .ok (.iload_n 2, 1) := by decide +kernel
theorem d_M_count_120 : decode b_M_count 120 = .ok (.iconst 3, 1) := by decide +kernel
theorem d_M_count_121 : decode b_M_count 121 = .ok (.if_icmp .ne 10, 3) := by decide +kernel
theorem d_M_count_124 : decode b_M_count 124 = .ok (.aload_n 0, 1) := by decide +kernel
theorem d_M_count_125 : decode b_M_count 125 = .ok (.getfield 59, 3) := by decide +kernel
theorem d_M_count_128 : decode b_M_count 128 = .ok (.goto 4, 3) := by decide +kernel
theorem d_M_count_131 : decode b_M_count 131 = .ok (.iload_n 3, 1) := by decide +kernel
theorem d_M_count_132 : decode b_M_count 132 = .ok (.ireturn, 1) := by decide +kernel
theorem d_B_init_0 : decode b_B_init 0 = .ok (.aload_n 0, 1) := by decide +kernel
theorem d_B_init_1 : decode b_B_init 1 = .ok (.invokespecial 3, 3) := by decide +kernel
theorem d_B_init_4 : decode b_B_init 4 = .ok (.return_, 1) := by decide +kernel
theorem d_B_bind_0 : decode b_B_bind 0 = .ok (.aload_n 0, 1) := by decide +kernel
theorem d_B_bind_1 : decode b_B_bind 1 = .ok (.iconst 0, 1) := by decide +kernel
theorem d_B_bind_2 : decode b_B_bind 2 = .ok (.putfield 9, 3) := by decide +kernel
theorem d_B_bind_5 : decode b_B_bind 5 = .ok (.aload_n 0, 1) := by decide +kernel
theorem d_B_bind_6 : decode b_B_bind 6 = .ok (.aload_n 2, 1) := by decide +kernel
theorem d_B_bind_7 : decode b_B_bind 7 = .ok (.aload_n 1, 1) := by decide +kernel
theorem d_B_bind_8 : decode b_B_bind 8 = .ok (.getfield 15, 3) := by decide +kernel
theorem d_B_bind_11 : decode b_B_bind 11 = .ok (.invokevirtual 21, 3) := by decide +kernel
theorem d_B_bind_14 : decode b_B_bind 14 = .ok (.putfield 27, 3) := by decide +kernel
theorem d_B_bind_17 : decode b_B_bind 17 = .ok (.aload_n 2, 1) := by decide +kernel
theorem d_B_bind_18 : decode b_B_bind 18 = .ok (.aload_n 1, 1) := by decide +kernel
theorem d_B_bind_19 : decode b_B_bind 19 = .ok (.getfield 15, 3) := by decide +kernel
theorem d_B_bind_22 : decode b_B_bind 22 = .ok (.invokevirtual 30, 3) := by decide +kernel
theorem d_B_bind_25 : decode b_B_bind 25 = .ok (.ifCond .eq 14, 3) := by decide +kernel
theorem d_B_bind_28 : decode b_B_bind 28 = .ok (.aload_n 2, 1) := by decide +kernel
theorem d_B_bind_29 : decode b_B_bind 29 = .ok (.aload_n 1, 1) := by decide +kernel
theorem d_B_bind_30 : decode b_B_bind 30 = .ok (.getfield 15, 3) := by decide +kernel
theorem d_B_bind_33 : decode b_B_bind 33 = .ok (.invokevirtual 33, 3) := by decide +kernel
theorem d_B_bind_36 : decode b_B_bind 36 = .ok (.ifCond .eq 10, 3) := by decide +kernel
theorem d_B_bind_39 : decode b_B_bind 39 = .ok (.aload_n 0, 1) := by decide +kernel
theorem d_B_bind_40 : decode b_B_bind 40 = .ok (.bipush (-3), 2) := by decide +kernel
theorem d_B_bind_42 : decode b_B_bind 42 = .ok (.putfield 36, 3) := by decide +kernel
theorem d_B_bind_45 : decode b_B_bind 45 = .ok (.return_, 1) := by decide +kernel
theorem d_B_bind_46 : decode b_B_bind 46 = .ok (.aload_n 1, 1) := by decide +kernel
theorem d_B_bind_47 : decode b_B_bind 47 = .ok (.getfield 39, 3) := by decide +kernel
theorem d_B_bind_50 : decode b_B_bind 50 = .ok (.tableswitch 112 0 5 #[38, 38, 51, 51, 64, 88], 38) := by decide +kernel
theorem d_B_bind_88 : decode b_B_bind 88 = .ok (.aload_n 0, 1) := by decide +kernel
theorem d_B_bind_89 : decode b_B_bind 89 = .ok (.aload_n 0, 1) := by decide +kernel
theorem d_B_bind_90 : decode b_B_bind 90 = .ok (.aload_n 1, 1) := by decide +kernel
theorem d_B_bind_91 : decode b_B_bind 91 = .ok (.aload_n 2, 1) := by decide +kernel
theorem d_B_bind_92 : decode b_B_bind 92 = .ok (.invokevirtual 42, 3) := by decide +kernel
theorem d_B_bind_95 : decode b_B_bind 95 = .ok (.putfield 36, 3) := by decide +kernel
theorem d_B_bind_98 : decode b_B_bind 98 = .ok (.goto 74, 3) := by decide +kernel
theorem d_B_bind_101 : decode b_B_bind 101 = .ok (.aload_n 0, 1) := by decide +kernel
theorem d_B_bind_102 : decode b_B_bind 102 = .ok (.aload_n 0, 1) := by decide +kernel
theorem d_B_bind_103 : decode b_B_bind 103 = .ok (.aload_n 1, 1) := by decide +kernel
theorem d_B_bind_104 : decode b_B_bind 104 = .ok (.aload_n 2, 1) := by decide +kernel
theorem d_B_bind_105 : decode b_B_bind 105 = .ok (.invokevirtual 46, 3) := by decide +kernel
theorem d_B_bind_108 : decode b_B_bind 108 = .ok (.putfield 36, 3) := by decide +kernel
theorem d_B_bind_111 : decode b_B_bind 111 = .ok (.goto 61, 3) := by decide +kernel
theorem d_B_bind_114 : decode b_B_bind 114 = .ok (.aload_n 0, 1) := by decide +kernel
theorem d_B_bind_115 : decode b_B_bind 115 = .ok (.aload_n 2, 1) := by decide +kernel
theorem d_B_bind_116 : decode b_B_bind 116 = .ok (.aload_n 1, 1) := by decide +kernel
theorem d_B_bind_117 : decode b_B_bind 117 = .ok (.getfield 15, 3) := by decide +kernel
theorem d_B_bind_120 : decode b_B_bind 120 = .ok (.invokevirtual 49, 3) := by decide +kernel
theorem d_B_bind_123 : decode b_B_bind 123 = .ok (.ifCond .eq 8, 3) := by decide +kernel
theorem d_B_bind_126 : decode b_B_bind 126 = .ok (.bipush (-5), 2) := by decide +kernel
theorem d_B_bind_128 : decode b_B_bind 128 = .ok (.goto 4, 3) := by decide +kernel
theorem d_B_bind_131 : decode b_B_bind 131 = .ok (.iconst 0, 1) := by decide +kernel
theorem d_B_bind_132 : decode b_B_bind 132 = .ok (.putfield 36, 3) := by decide +kernel
theorem d_B_bind_135 : decode b_B_bind 135 = .ok (.goto 37, 3) := by decide +kernel
theorem d_B_bind_138 : decode b_B_bind 138 = .ok (.aload_n 0, 1) := by decide +kernel
theorem d_B_bind_139 : decode b_B_bind 139 = .ok (.aload_n 2, 1) := by decide +kernel
theorem d_B_bind_140 : decode b_B_bind 140 = .ok (.aload_n 1, 1) := by decide +kernel
theorem d_B_bind_141 : decode b_B_bind 141 = .ok (.getfield 15, 3) := by decide +kernel
theorem d_B_bind_144 : decode b_B_bind 144 = .ok (.invokevirtual 52, 3) := by decide +kernel
theorem d_B_bind_147 : decode b_B_bind 147 = .ok (.ifCond .eq 8, 3) := by decide +kernel
theorem d_B_bind_150 : decode b_B_bind 150 = .ok (.bipush (-5), 2) := by decide +kernel
theorem d_B_bind_152 : decode b_B_bind 152 = .ok (.goto 4, 3) := by decide +kernel
theorem d_B_bind_155 : decode b_B_bind 155 = .ok (.iconst 0, 1) := by decide +kernel
theorem d_B_bind_156 : decode b_B_bind 156 = .ok (.putfield 36, 3) := by decide +kernel
theorem d_B_bind_159 : decode b_B_bind 159 = .ok (.goto 13, 3) := by decide +kernel
theorem d_B_bind_162 : decode b_B_bind 162 = .ok (.aload_n 0, 1) := by decide +kernel
theorem d_B_bind_163 : decode b_B_bind 163 = .ok (.aload_n 0, 1) := by decide +kernel
theorem d_B_bind_164 : decode b_B_bind 164 = .ok (.aload_n 1, 1) := by decide +kernel
theorem d_B_bind_165 : decode b_B_bind 165 = .ok (.aload_n 2, 1) := by decide +kernel
theorem d_B_bind_166 : decode b_B_bind 166 = .ok (.invokevirtual 55, 3) := by decide +kernel
theorem d_B_bind_169 : decode b_B_bind 169 = .ok (.putfield 36, 3) := by decide +kernel
theorem d_B_bind_172 : decode b_B_bind 172 = .ok (.return_, 1) := by decide +kernel
theorem d_B_bindField_0 : decode b_B_bindField 0 = .ok (.aload_n 2, 1) := by decide +kernel
theorem d_B_bindField_1 : decode b_B_bindField 1 = .ok (.aload_n 1, 1) := by decide +kernel
theorem d_B_bindField_2 : decode b_B_bindField 2 = .ok (.getfield 15, 3) := by decide +kernel
theorem d_B_bindField_5 : decode b_B_bindField 5 = .ok (.aload_n 1, 1) := by decide +kernel
theorem d_B_bindField_6 : decode b_B_bindField 6 = .ok (.getfield 58, 3) := by decide +kernel
theorem d_B_bindField_9 : decode b_B_bindField 9 = .ok (.iconst (-1), 1) := by decide +kernel
theorem d_B_bindField_10 : decode b_B_bindField 10 = .ok (.invokevirtual 61, 3) := by decide +kernel
theorem d_B_bindField_13 : decode b_B_bindField 13 = .ok (.istore_n 3, 1) := by decide +kernel
theorem d_B_bindField_14 : decode b_B_bindField 14 = .ok (.iload_n 3, 1) := by decide +kernel
theorem d_B_bindField_15 : decode b_B_bindField 15 = .ok (.iconst (-1), 1) := by decide +kernel
theorem d_B_bindField_16 : decode b_B_bindField 16 = .ok (.if_icmp .eq 15, 3) := by decide +kernel
theorem d_B_bindField_19 : decode b_B_bindField 19 = .ok (.aload_n 2, 1) := by decide +kernel
theorem d_B_bindField_20 : decode b_B_bindField 20 = .ok (.getfield 65, 3) := by decide +kernel
theorem d_B_bindField_23 : decode b_B_bindField 23 = .ok (.iload_n 3, 1) := by decide +kernel
theorem d_B_bindField_24 : decode b_B_bindField 24 = .ok (.iaload, 1) := by decide +kernel
theorem d_B_bindField_25 : decode b_B_bindField 25 = .ok (.bipush 8, 2) := by decide +kernel
theorem d_B_bindField_27 : decode b_B_bindField 27 = .ok (.iand, 1) := by decide +kernel
theorem d_B_bindField_28 : decode b_B_bindField 28 = .ok (.ifCond .eq 6, 3) := by decide +kernel
theorem d_B_bindField_31 : decode b_B_bindField 31 = .ok (.bipush (-4), 2) := by decide +kernel
theorem d_B_bindField_33 : decode b_B_bindField 33 = .ok (.ireturn, 1) := by decide +kernel
theorem d_B_bindField_34 : decode b_B_bindField 34 = .ok (.aload_n 2, 1) := by decide +kernel
theorem d_B_bindField_35 : decode b_B_bindField 35 = .ok (.getfield 65, 3) := by decide +kernel
theorem d_B_bindField_38 : decode b_B_bindField 38 = .ok (.iload_n 3, 1) := by decide +kernel
theorem d_B_bindField_39 : decode b_B_bindField 39 = .ok (.iaload, 1) := by decide +kernel
theorem d_B_bindField_40 : decode b_B_bindField 40 = .ok (.istore 4, 2) := by decide +kernel
theorem d_B_bindField_42 : decode b_B_bindField 42 = .ok (.aload_n 1, 1) := by decide +kernel
theorem d_B_bindField_43 : decode b_B_bindField 43 = .ok (.getfield 39, 3) := by decide +kernel
theorem d_B_bindField_46 : decode b_B_bindField 46 = .ok (.iconst 1, 1) := by decide +kernel
theorem d_B_bindField_47 : decode b_B_bindField 47 = .ok (.if_icmp .ne 13, 3) := by decide +kernel
theorem d_B_bindField_50 : decode b_B_bindField 50 = .ok (.iload 4, 2) := by decide +kernel
theorem d_B_bindField_52 : decode b_B_bindField 52 = .ok (.iconst 4, 1) := by decide +kernel
theorem d_B_bindField_53 : decode b_B_bindField 53 = .ok (.iand, 1) := by decide +kernel
theorem d_B_bindField_54 : decode b_B_bindField 54 = .ok (.ifCond .eq 6, 3) := by decide +kernel
theorem d_B_bindField_57 : decode b_B_bindField 57 = .ok (.bipush (-5), 2) := by decide +kernel
theorem d_B_bindField_59 : decode b_B_bindField 59 = .ok (.ireturn, 1) := by decide +kernel
theorem d_B_bindField_60 : decode b_B_bindField 60 = .ok (.aload_n 0, 1) := by decide +kernel
theorem d_B_bindField_61 : decode b_B_bindField 61 = .ok (.iload 4, 2) := by decide +kernel
theorem d_B_bindField_63 : decode b_B_bindField 63 = .ok (.bipush 16, 2) := by decide +kernel
theorem d_B_bindField_65 : decode b_B_bindField 65 = .ok (.iand, 1) := by decide +kernel
theorem d_B_bindField_66 : decode b_B_bindField 66 = .ok (.ifCond .eq 7, 3) := by decide +kernel
theorem d_B_bindField_69 : decode b_B_bindField 69 = .ok (.iconst 1, 1) := by decide +kernel
theorem d_B_bindField_70 : decode b_B_bindField 70 = .ok (.goto 4, 3) := by decide +kernel
theorem d_B_bindField_73 : decode b_B_bindField 73 = .ok (.iconst 0, 1) := by decide +kernel
theorem d_B_bindField_74 : decode b_B_bindField 74 = .ok (.putfield 9, 3) := by decide +kernel
theorem d_B_bindField_77 : decode b_B_bindField 77 = .ok (.aload_n 0, 1) := by decide +kernel
theorem d_B_bindField_78 : decode b_B_bindField 78 = .ok (.aload_n 2, 1) := by decide +kernel
theorem d_B_bindField_79 : decode b_B_bindField 79 = .ok (.getfield 69, 3) := by decide +kernel
theorem d_B_bindField_82 : decode b_B_bindField 82 = .ok (.iload_n 3, 1) := by decide +kernel
theorem d_B_bindField_83 : decode b_B_bindField 83 = .ok (.iaload, 1) := by decide +kernel
theorem d_B_bindField_84 : decode b_B_bindField 84 = .ok (.putfield 72, 3) := by decide +kernel
theorem d_B_bindField_87 : decode b_B_bindField 87 = .ok (.aload_n 0, 1) := by decide +kernel
theorem d_B_bindField_88 : decode b_B_bindField 88 = .ok (.aload_n 2, 1) := by decide +kernel
theorem d_B_bindField_89 : decode b_B_bindField 89 = .ok (.getfield 74, 3) := by decide +kernel
theorem d_B_bindField_92 : decode b_B_bindField 92 = .ok (.iload_n 3, 1) := by decide +kernel
theorem d_B_bindField_93 : decode b_B_bindField 93 = .ok (.iaload, 1) := by decide +kernel
theorem d_B_bindField_94 : decode b_B_bindField 94 = .ok (.putfield 77, 3) := by decide +kernel
theorem d_B_bindField_97 : decode b_B_bindField 97 = .ok (.aload_n 0, 1) := by decide +kernel
theorem d_B_bindField_98 : decode b_B_bindField 98 = .ok (.iload 4, 2) := by decide +kernel
theorem d_B_bindField_100 : decode b_B_bindField 100 = .ok (.iconst 1, 1) := by decide +kernel
theorem d_B_bindField_101 : decode b_B_bindField 101 = .ok (.iand, 1) := by decide +kernel
theorem d_B_bindField_102 : decode b_B_bindField 102 = .ok (.ifCond .eq 7, 3) := by decide +kernel
theorem d_B_bindField_105 : decode b_B_bindField 105 = .ok (.iconst 1, 1) := by decide +kernel
theorem d_B_bindField_106 : decode b_B_bindField 106 = .ok (.goto 4, 3) := by decide +kernel
theorem d_B_bindField_109 : decode b_B_bindField 109 = .ok (.iconst 0, 1) := by decide +kernel
theorem d_B_bindField_110 : decode b_B_bindField 110 = .ok (.putfield 80, 3) := by decide +kernel
theorem d_B_bindField_113 : decode b_B_bindField 113 = .ok (.iconst 0, 1) := by decide +kernel
theorem d_B_bindField_114 : decode b_B_bindField 114 = .ok (.ireturn, 1) := by decide +kernel
theorem d_B_bindCall_0 : decode b_B_bindCall 0 = .ok (.aload_n 1, 1) := by decide +kernel
theorem d_B_bindCall_1 : decode b_B_bindCall 1 = .ok (.getfield 83, 3) := by decide +kernel
theorem d_B_bindCall_4 : decode b_B_bindCall 4 = .ok (.ifCond .ne 7, 3) := by decide +kernel
theorem d_B_bindCall_7 : decode b_B_bindCall 7 = .ok (.iconst 0, 1) := by decide +kernel
theorem d_B_bindCall_8 : decode b_B_bindCall 8 = .ok (.goto 4, 3) := by decide +kernel
theorem d_B_bindCall_11 : decode b_B_bindCall 11 = .ok (.iconst 3, 1) := by decide +kernel
theorem d_B_bindCall_12 : decode b_B_bindCall 12 = .ok (.istore_n 3, 1) := by decide +kernel
theorem d_B_bindCall_13 : decode b_B_bindCall 13 = .ok (.aload_n 1, 1) := by decide +kernel
theorem d_B_bindCall_14 : decode b_B_bindCall 14 = .ok (.getfield 83, 3) := by decide +kernel
theorem d_B_bindCall_17 : decode b_B_bindCall 17 = .ok (.istore 4, 2) := by decide +kernel
theorem d_B_bindCall_19 : decode b_B_bindCall 19 = .ok (.iload 4, 2) := by decide +kernel
theorem d_B_bindCall_21 : decode b_B_bindCall 21 = .ok (.iload_n 3, 1) := by decide +kernel
theorem d_B_bindCall_22 : decode b_B_bindCall 22 = .ok (.if_icmp .gt 54, 3) := by decide +kernel
theorem d_B_bindCall_25 : decode b_B_bindCall 25 = .ok (.aload_n 2, 1) := by decide +kernel
theorem d_B_bindCall_26 : decode b_B_bindCall 26 = .ok (.aload_n 1, 1) := by decide +kernel
theorem d_B_bindCall_27 : decode b_B_bindCall 27 = .ok (.getfield 15, 3) := by decide +kernel
theorem d_B_bindCall_30 : decode b_B_bindCall 30 = .ok (.aload_n 1, 1) := by decide +kernel
theorem d_B_bindCall_31 : decode b_B_bindCall 31 = .ok (.getfield 58, 3) := by decide +kernel
theorem d_B_bindCall_34 : decode b_B_bindCall 34 = .ok (.iload 4, 2) := by decide +kernel
theorem d_B_bindCall_36 : decode b_B_bindCall 36 = .ok (.iconst (-1), 1) := by decide +kernel
theorem d_B_bindCall_37 : decode b_B_bindCall 37 = .ok (.invokevirtual 86, 3) := by decide +kernel
theorem d_B_bindCall_40 : decode b_B_bindCall 40 = .ok (.istore 5, 2) := by decide +kernel
theorem d_B_bindCall_42 : decode b_B_bindCall 42 = .ok (.iload 5, 2) := by decide +kernel
theorem d_B_bindCall_44 : decode b_B_bindCall 44 = .ok (.iconst (-1), 1) := by decide +kernel
theorem d_B_bindCall_45 : decode b_B_bindCall 45 = .ok (.if_icmp .eq 25, 3) := by decide +kernel
theorem d_B_bindCall_48 : decode b_B_bindCall 48 = .ok (.aload_n 2, 1) := by decide +kernel
theorem d_B_bindCall_49 : decode b_B_bindCall 49 = .ok (.getfield 90, 3) := by decide +kernel
theorem d_B_bindCall_52 : decode b_B_bindCall 52 = .ok (.iload 5, 2) := by decide +kernel
theorem d_B_bindCall_54 : decode b_B_bindCall 54 = .ok (.iaload, 1) := by decide +kernel
theorem d_B_bindCall_55 : decode b_B_bindCall 55 = .ok (.bipush 8, 2) := by decide +kernel
theorem d_B_bindCall_57 : decode b_B_bindCall 57 = .ok (.iand, 1) := by decide +kernel
theorem d_B_bindCall_58 : decode b_B_bindCall 58 = .ok (.ifCond .ne 12, 3) := by decide +kernel
theorem d_B_bindCall_61 : decode b_B_bindCall 61 = .ok (.aload_n 0, 1) := by decide +kernel
theorem d_B_bindCall_62 : decode b_B_bindCall 62 = .ok (.aload_n 1, 1) := by decide +kernel
theorem d_B_bindCall_63 : decode b_B_bindCall 63 = .ok (.aload_n 2, 1) := by decide +kernel
theorem d_B_bindCall_64 : decode b_B_bindCall 64 = .ok (.iload 5, 2) := by decide +kernel
theorem d_B_bindCall_66 : decode b_B_bindCall 66 = .ok (.invokevirtual 93, 3) := by decide +kernel
theorem d_B_bindCall_69 : decode b_B_bindCall 69 = .ok (.ireturn, 1) := by decide +kernel
theorem d_B_bindCall_70 : decode b_B_bindCall 70 = .ok (.iinc 4 1, 3) := by decide +kernel
theorem d_B_bindCall_73 : decode b_B_bindCall 73 = .ok (.goto (-54), 3) := by decide +kernel
theorem d_B_bindCall_76 : decode b_B_bindCall 76 = .ok (.bipush (-4), 2) := by decide +kernel
theorem d_B_bindCall_78 : decode b_B_bindCall 78 = .ok (.ireturn, 1) := by decide +kernel
theorem d_B_bindMethod_0 : decode b_B_bindMethod 0 = .ok (.aload_n 0, 1) := by decide +kernel
theorem d_B_bindMethod_1 : decode b_B_bindMethod 1 = .ok (.aload_n 2, 1) := by decide +kernel
theorem d_B_bindMethod_2 : decode b_B_bindMethod 2 = .ok (.getfield 90, 3) := by decide +kernel
theorem d_B_bindMethod_5 : decode b_B_bindMethod 5 = .ok (.iload_n 3, 1) := by decide +kernel
theorem d_B_bindMethod_6 : decode b_B_bindMethod 6 = .ok (.iaload, 1) := by decide +kernel
theorem d_B_bindMethod_7 : decode b_B_bindMethod 7 = .ok (.iconst 1, 1) := by decide +kernel
theorem d_B_bindMethod_8 : decode b_B_bindMethod 8 = .ok (.iand, 1) := by decide +kernel
theorem d_B_bindMethod_9 : decode b_B_bindMethod 9 = .ok (.ifCond .eq 7, 3) := by decide +kernel
theorem d_B_bindMethod_12 : decode b_B_bindMethod 12 = .ok (.iconst 1, 1) := by decide +kernel
theorem d_B_bindMethod_13 : decode b_B_bindMethod 13 = .ok (.goto 4, 3) := by decide +kernel
theorem d_B_bindMethod_16 : decode b_B_bindMethod 16 = .ok (.iconst 0, 1) := by decide +kernel
theorem d_B_bindMethod_17 : decode b_B_bindMethod 17 = .ok (.putfield 80, 3) := by decide +kernel
theorem d_B_bindMethod_20 : decode b_B_bindMethod 20 = .ok (.aload_n 1, 1) := by decide +kernel
theorem d_B_bindMethod_21 : decode b_B_bindMethod 21 = .ok (.getfield 39, 3) := by decide +kernel
theorem d_B_bindMethod_24 : decode b_B_bindMethod 24 = .ok (.iconst 3, 1) := by decide +kernel
theorem d_B_bindMethod_25 : decode b_B_bindMethod 25 = .ok (.if_icmp .ne 13, 3) := by decide +kernel
theorem d_B_bindMethod_28 : decode b_B_bindMethod 28 = .ok (.aload_n 0, 1) := by decide +kernel
theorem d_B_bindMethod_29 : decode b_B_bindMethod 29 = .ok (.getfield 80, 3) := by decide +kernel
theorem d_B_bindMethod_32 : decode b_B_bindMethod 32 = .ok (.ifCond .ne 6, 3) := by decide +kernel
theorem d_B_bindMethod_35 : decode b_B_bindMethod 35 = .ok (.bipush (-5), 2) := by decide +kernel
theorem d_B_bindMethod_37 : decode b_B_bindMethod 37 = .ok (.ireturn, 1) := by decide +kernel
theorem d_B_bindMethod_38 : decode b_B_bindMethod 38 = .ok (.aload_n 0, 1) := by decide +kernel
theorem d_B_bindMethod_39 : decode b_B_bindMethod 39 = .ok (.iload_n 3, 1) := by decide +kernel
theorem d_B_bindMethod_40 : decode b_B_bindMethod 40 = .ok (.iconst 4, 1) := by decide +kernel
theorem d_B_bindMethod_41 : decode b_B_bindMethod 41 = .ok (.irem, 1) := by decide +kernel
theorem d_B_bindMethod_42 : decode b_B_bindMethod 42 = .ok (.putfield 97, 3) := by decide +kernel
theorem d_B_bindMethod_45 : decode b_B_bindMethod 45 = .ok (.aload_n 0, 1) := by decide +kernel
theorem d_B_bindMethod_46 : decode b_B_bindMethod 46 = .ok (.aload_n 2, 1) := by decide +kernel
theorem d_B_bindMethod_47 : decode b_B_bindMethod 47 = .ok (.getfield 100, 3) := by decide +kernel
theorem d_B_bindMethod_50 : decode b_B_bindMethod 50 = .ok (.iload_n 3, 1) := by decide +kernel
theorem d_B_bindMethod_51 : decode b_B_bindMethod 51 = .ok (.iaload, 1) := by decide +kernel
theorem d_B_bindMethod_52 : decode b_B_bindMethod 52 = .ok (.putfield 103, 3) := by decide +kernel
theorem d_B_bindMethod_55 : decode b_B_bindMethod 55 = .ok (.aload_n 0, 1) := by decide +kernel
theorem d_B_bindMethod_56 : decode b_B_bindMethod 56 = .ok (.iload_n 3, 1) := by decide +kernel
theorem d_B_bindMethod_57 : decode b_B_bindMethod 57 = .ok (.bipush 12, 2) := by decide +kernel
theorem d_B_bindMethod_59 : decode b_B_bindMethod 59 = .ok (.idiv, 1) := by decide +kernel
theorem d_B_bindMethod_60 : decode b_B_bindMethod 60 = .ok (.putfield 106, 3) := by decide +kernel
theorem d_B_bindMethod_63 : decode b_B_bindMethod 63 = .ok (.iconst 0, 1) := by decide +kernel
theorem d_B_bindMethod_64 : decode b_B_bindMethod 64 = .ok (.ireturn, 1) := by decide +kernel
theorem d_B_bindOverride_0 : decode b_B_bindOverride 0 = .ok (.aload_n 2, 1) := by decide +kernel
theorem d_B_bindOverride_1 : decode b_B_bindOverride 1 = .ok (.aload_n 1, 1) := by decide +kernel
theorem d_B_bindOverride_2 : decode b_B_bindOverride 2 = .ok (.getfield 15, 3) := by decide +kernel
theorem d_B_bindOverride_5 : decode b_B_bindOverride 5 = .ok (.invokevirtual 52, 3) := by decide +kernel
theorem d_B_bindOverride_8 : decode b_B_bindOverride 8 = .ok (.ifCond .eq 6, 3) := by decide +kernel
theorem d_B_bindOverride_11 : decode b_B_bindOverride 11 = .ok (.bipush (-5), 2) := by decide +kernel
theorem d_B_bindOverride_13 : decode b_B_bindOverride 13 = .ok (.ireturn, 1) := by decide +kernel
theorem d_B_bindOverride_14 : decode b_B_bindOverride 14 = .ok (.aload_n 2, 1) := by decide +kernel
theorem d_B_bindOverride_15 : decode b_B_bindOverride 15 = .ok (.aload_n 1, 1) := by decide +kernel
theorem d_B_bindOverride_16 : decode b_B_bindOverride 16 = .ok (.getfield 15, 3) := by decide +kernel
theorem d_B_bindOverride_19 : decode b_B_bindOverride 19 = .ok (.aload_n 1, 1) := by decide +kernel
theorem d_B_bindOverride_20 : decode b_B_bindOverride 20 = .ok (.getfield 58, 3) := by decide +kernel
theorem d_B_bindOverride_23 : decode b_B_bindOverride 23 = .ok (.aload_n 1, 1) := by decide +kernel
theorem d_B_bindOverride_24 : decode b_B_bindOverride 24 = .ok (.getfield 83, 3) := by decide +kernel
theorem d_B_bindOverride_27 : decode b_B_bindOverride 27 = .ok (.iconst (-1), 1) := by decide +kernel
theorem d_B_bindOverride_28 : decode b_B_bindOverride 28 = .ok (.invokevirtual 86, 3) := by decide +kernel
theorem d_B_bindOverride_31 : decode b_B_bindOverride 31 = .ok (.istore_n 3, 1) := by decide +kernel
theorem d_B_bindOverride_32 : decode b_B_bindOverride 32 = .ok (.iload_n 3, 1) := by decide +kernel
theorem d_B_bindOverride_33 : decode b_B_bindOverride 33 = .ok (.iconst (-1), 1) := by decide +kernel
theorem d_B_bindOverride_34 : decode b_B_bindOverride 34 = .ok (.if_icmp .eq 15, 3) := by decide +kernel
theorem d_B_bindOverride_37 : decode b_B_bindOverride 37 = .ok (.aload_n 2, 1) := by decide +kernel
theorem d_B_bindOverride_38 : decode b_B_bindOverride 38 = .ok (.getfield 90, 3) := by decide +kernel
theorem d_B_bindOverride_41 : decode b_B_bindOverride 41 = .ok (.iload_n 3, 1) := by decide +kernel
theorem d_B_bindOverride_42 : decode b_B_bindOverride 42 = .ok (.iaload, 1) := by decide +kernel
theorem d_B_bindOverride_43 : decode b_B_bindOverride 43 = .ok (.bipush 8, 2) := by decide +kernel
theorem d_B_bindOverride_45 : decode b_B_bindOverride 45 = .ok (.iand, 1) := by decide +kernel
theorem d_B_bindOverride_46 : decode b_B_bindOverride 46 = .ok (.ifCond .eq 6, 3) := by decide +kernel
theorem d_B_bindOverride_49 : decode b_B_bindOverride 49 = .ok (.bipush (-4), 2) := by decide +kernel
theorem d_B_bindOverride_51 : decode b_B_bindOverride 51 = .ok (.ireturn, 1) := by decide +kernel
theorem d_B_bindOverride_52 : decode b_B_bindOverride 52 = .ok (.aload_n 2, 1) := by decide +kernel
theorem d_B_bindOverride_53 : decode b_B_bindOverride 53 = .ok (.getfield 90, 3) := by decide +kernel
theorem d_B_bindOverride_56 : decode b_B_bindOverride 56 = .ok (.iload_n 3, 1) := by decide +kernel
theorem d_B_bindOverride_57 : decode b_B_bindOverride 57 = .ok (.iaload, 1) := by decide +kernel
theorem d_B_bindOverride_58 : decode b_B_bindOverride 58 = .ok (.iconst 5, 1) := by decide +kernel
theorem d_B_bindOverride_59 : decode b_B_bindOverride 59 = .ok (.iand, 1) := by decide +kernel
theorem d_B_bindOverride_60 : decode b_B_bindOverride 60 = .ok (.ifCond .eq 6, 3) := by decide +kernel
theorem d_B_bindOverride_63 : decode b_B_bindOverride 63 = .ok (.bipush (-5), 2) := by decide +kernel
theorem d_B_bindOverride_65 : decode b_B_bindOverride 65 = .ok (.ireturn, 1) := by decide +kernel
theorem d_B_bindOverride_66 : decode b_B_bindOverride 66 = .ok (.aload_n 0, 1) := by decide +kernel
theorem d_B_bindOverride_67 : decode b_B_bindOverride 67 = .ok (.aload_n 2, 1) := by decide +kernel
theorem d_B_bindOverride_68 : decode b_B_bindOverride 68 = .ok (.getfield 100, 3) := by decide +kernel
theorem d_B_bindOverride_71 : decode b_B_bindOverride 71 = .ok (.iload_n 3, 1) := by decide +kernel
theorem d_B_bindOverride_72 : decode b_B_bindOverride 72 = .ok (.iaload, 1) := by decide +kernel
theorem d_B_bindOverride_73 : decode b_B_bindOverride 73 = .ok (.putfield 103, 3) := by decide +kernel
theorem d_B_bindOverride_76 : decode b_B_bindOverride 76 = .ok (.iconst 0, 1) := by decide +kernel
theorem d_B_bindOverride_77 : decode b_B_bindOverride 77 = .ok (.ireturn, 1) := by decide +kernel
theorem d_B_isSameAs_0 : decode b_B_isSameAs 0 = .ok (.iload_n 2, 1) := by decide +kernel
theorem d_B_isSameAs_1 : decode b_B_isSameAs 1 = .ok (.tableswitch 133 0 6 #[43, 43, 49, 49, 133, 99, 116], 43) := by decide +kernel
theorem d_B_isSameAs_44 : decode b_B_isSameAs 44 = .ok (.aload_n 0, 1) := by decide +kernel
theorem d_B_isSameAs_45 : decode b_B_isSameAs 45 = .ok (.aload_n 1, 1) := by decide +kernel
theorem d_B_isSameAs_46 : decode b_B_isSameAs 46 = .ok (.invokevirtual 109, 3) := by decide +kernel
theorem d_B_isSameAs_49 : decode b_B_isSameAs 49 = .ok (.ireturn, 1) := by decide +kernel
theorem d_B_isSameAs_50 : decode b_B_isSameAs 50 = .ok (.aload_n 0, 1) := by decide +kernel
theorem d_B_isSameAs_51 : decode b_B_isSameAs 51 = .ok (.getfield 97, 3) := by decide +kernel
theorem d_B_isSameAs_54 : decode b_B_isSameAs 54 = .ok (.aload_n 1, 1) := by decide +kernel
theorem d_B_isSameAs_55 : decode b_B_isSameAs 55 = .ok (.getfield 97, 3) := by decide +kernel
theorem d_B_isSameAs_58 : decode b_B_isSameAs 58 = .ok (.if_icmp .ne 40, 3) := by decide +kernel
theorem d_B_isSameAs_61 : decode b_B_isSameAs 61 = .ok (.aload_n 0, 1) := by decide +kernel
theorem d_B_isSameAs_62 : decode b_B_isSameAs 62 = .ok (.getfield 103, 3) := by decide +kernel
theorem d_B_isSameAs_65 : decode b_B_isSameAs 65 = .ok (.aload_n 1, 1) := by decide +kernel
theorem d_B_isSameAs_66 : decode b_B_isSameAs 66 = .ok (.getfield 103, 3) := by decide +kernel
theorem d_B_isSameAs_69 : decode b_B_isSameAs 69 = .ok (.if_icmp .ne 29, 3) := by decide +kernel
theorem d_B_isSameAs_72 : decode b_B_isSameAs 72 = .ok (.aload_n 0, 1) := by decide +kernel
theorem d_B_isSameAs_73 : decode b_B_isSameAs 73 = .ok (.getfield 80, 3) := by decide +kernel
theorem d_B_isSameAs_76 : decode b_B_isSameAs 76 = .ok (.aload_n 1, 1) := by decide +kernel
theorem d_B_isSameAs_77 : decode b_B_isSameAs 77 = .ok (.getfield 80, 3) := by decide +kernel
theorem d_B_isSameAs_80 : decode b_B_isSameAs 80 = .ok (.if_icmp .ne 18, 3) := by decide +kernel
theorem d_B_isSameAs_83 : decode b_B_isSameAs 83 = .ok (.aload_n 0, 1) := by decide +kernel
theorem d_B_isSameAs_84 : decode b_B_isSameAs 84 = .ok (.getfield 27, 3) := by decide +kernel
theorem d_B_isSameAs_87 : decode b_B_isSameAs 87 = .ok (.aload_n 1, 1) := by decide +kernel
theorem d_B_isSameAs_88 : decode b_B_isSameAs 88 = .ok (.getfield 27, 3) := by decide +kernel
theorem d_B_isSameAs_91 : decode b_B_isSameAs 91 = .ok (.if_icmp .ne 7, 3) := by decide +kernel
theorem d_B_isSameAs_94 : decode b_B_isSameAs 94 = .ok (.iconst 1, 1) := by decide +kernel
theorem d_B_isSameAs_95 : decode b_B_isSameAs 95 = .ok (.goto 4, 3) := by decide +kernel
theorem d_B_isSameAs_98 : decode b_B_isSameAs 98 = .ok (.iconst 0, 1) := by decide +kernel
theorem d_B_isSameAs_99 : decode b_B_isSameAs 99 = .ok (.ireturn, 1) := by decide +kernel
theorem d_B_isSameAs_100 : decode b_B_isSameAs 100 = .ok (.aload_n 0, 1) := by decide +kernel
theorem d_B_isSameAs_101 : decode b_B_isSameAs 101 = .ok (.getfield 27, 3) := by decide +kernel
theorem d_B_isSameAs_104 : decode b_B_isSameAs 104 = .ok (.aload_n 1, 1) := by decide +kernel
theorem d_B_isSameAs_105 : decode b_B_isSameAs 105 = .ok (.getfield 27, 3) := by decide +kernel
theorem d_B_isSameAs_108 : decode b_B_isSameAs 108 = .ok (.if_icmp .ne 7, 3) := by decide +kernel
theorem d_B_isSameAs_111 : decode b_B_isSameAs 111 = .ok (.iconst 1, 1) := by decide +kernel
theorem d_B_isSameAs_112 : decode b_B_isSameAs 112 = .ok (.goto 4, 3) := by decide +kernel
theorem d_B_isSameAs_115 : decode b_B_isSameAs 115 = .ok (.iconst 0, 1) := by decide +kernel
theorem d_B_isSameAs_116 : decode b_B_isSameAs 116 = .ok (.ireturn, 1) := by decide +kernel
theorem d_B_isSameAs_117 : decode b_B_isSameAs 117 = .ok (.aload_n 0, 1) := by decide +kernel
theorem d_B_isSameAs_118 : decode b_B_isSameAs 118 = .ok (.getfield 103, 3) := by decide +kernel
theorem d_B_isSameAs_121 : decode b_B_isSameAs 121 = .ok (.aload_n 1, 1) := by decide +kernel
theorem d_B_isSameAs_122 : decode b_B_isSameAs 122 = .ok (.getfield 103, 3) := by decide +kernel
theorem d_B_isSameAs_125 : decode b_B_isSameAs 125 = .ok (.if_icmp .ne 7, 3) := by decide +kernel
theorem d_B_isSameAs_128 : decode b_B_isSameAs 128 = .ok (.iconst 1, 1) := by decide +kernel
theorem d_B_isSameAs_129 : decode b_B_isSameAs 129 = .ok (.goto 4, 3) := by decide +kernel
theorem d_B_isSameAs_132 : decode b_B_isSameAs 132 = .ok (.iconst 0, 1) := by decide +kernel
theorem d_B_isSameAs_133 : decode b_B_isSameAs 133 = .ok (.ireturn, 1) := by decide +kernel
theorem d_B_isSameAs_134 : decode b_B_isSameAs 134 = .ok (.iconst 1, 1) := by decide +kernel
theorem d_B_isSameAs_135 : decode b_B_isSameAs 135 = .ok (.ireturn, 1) := by decide +kernel
theorem d_B_isSameField_0 : decode b_B_isSameField 0 = .ok (.aload_n 0, 1) := by decide +kernel
theorem d_B_isSameField_1 : decode b_B_isSameField 1 = .ok (.getfield 9, 3) := by decide +kernel
theorem d_B_isSameField_4 : decode b_B_isSameField 4 = .ok (.aload_n 1, 1) := by decide +kernel
theorem d_B_isSameField_5 : decode b_B_isSameField 5 = .ok (.getfield 9, 3) := by decide +kernel
theorem d_B_isSameField_8 : decode b_B_isSameField 8 = .ok (.if_icmp .ne 14, 3) := by decide +kernel
theorem d_B_isSameField_11 : decode b_B_isSameField 11 = .ok (.aload_n 0, 1) := by decide +kernel
theorem d_B_isSameField_12 : decode b_B_isSameField 12 = .ok (.getfield 72, 3) := by decide +kernel
theorem d_B_isSameField_15 : decode b_B_isSameField 15 = .ok (.aload_n 1, 1) := by decide +kernel
theorem d_B_isSameField_16 : decode b_B_isSameField 16 = .ok (.getfield 72, 3) := by decide +kernel
theorem d_B_isSameField_19 : decode b_B_isSameField 19 = .ok (.if_icmp .eq 5, 3) := by decide +kernel
theorem d_B_isSameField_22 : decode b_B_isSameField 22 = .ok (.iconst 0, 1) := by decide +kernel
theorem d_B_isSameField_23 : decode b_B_isSameField 23 = .ok (.ireturn, 1) := by decide +kernel
theorem d_B_isSameField_24 : decode b_B_isSameField 24 = .ok (.aload_n 0, 1) := by decide +kernel
theorem d_B_isSameField_25 : decode b_B_isSameField 25 = .ok (.getfield 9, 3) := by decide +kernel
theorem d_B_isSameField_28 : decode b_B_isSameField 28 = .ok (.ifCond .eq 22, 3) := by decide +kernel
theorem d_B_isSameField_31 : decode b_B_isSameField 31 = .ok (.aload_n 0, 1) := by decide +kernel
theorem d_B_isSameField_32 : decode b_B_isSameField 32 = .ok (.getfield 77, 3) := by decide +kernel
theorem d_B_isSameField_35 : decode b_B_isSameField 35 = .ok (.aload_n 1, 1) := by decide +kernel
theorem d_B_isSameField_36 : decode b_B_isSameField 36 = .ok (.getfield 77, 3) := by decide +kernel
theorem d_B_isSameField_39 : decode b_B_isSameField 39 = .ok (.if_icmp .ne 7, 3) := by decide +kernel
theorem d_B_isSameField_42 : decode b_B_isSameField 42 = .ok (.iconst 1, 1) := by decide +kernel
theorem d_B_isSameField_43 : decode b_B_isSameField 43 = .ok (.goto 23, 3) := by decide +kernel
theorem d_B_isSameField_46 : decode b_B_isSameField 46 = .ok (.iconst 0, 1) := by decide +kernel
theorem d_B_isSameField_47 : decode b_B_isSameField 47 = .ok (.goto 19, 3) := by decide +kernel
theorem d_B_isSameField_50 : decode b_B_isSameField 50 = .ok (.aload_n 0, 1) := by decide +kernel
theorem d_B_isSameField_51 : decode b_B_isSameField 51 = .ok (.getfield 80, 3) := by decide +kernel
theorem d_B_isSameField_54 : decode b_B_isSameField 54 = .ok (.aload_n 1, 1) := by decide +kernel
theorem d_B_isSameField_55 : decode b_B_isSameField 55 = .ok (.getfield 80, 3) := by decide +kernel
theorem d_B_isSameField_58 : decode b_B_isSameField 58 = .ok (.if_icmp .ne 7, 3) := by decide +kernel
theorem d_B_isSameField_61 : decode b_B_isSameField 61 = .ok (.iconst 1, 1) := by decide +kernel
theorem d_B_isSameField_62 : decode b_B_isSameField 62 = .ok (.goto 4, 3) := by decide +kernel
theorem d_B_isSameField_65 : decode b_B_isSameField 65 = .ok (.iconst 0, 1) := by decide +kernel
theorem d_B_isSameField_66 : decode b_B_isSameField 66 = .ok (.ireturn, 1) := by decide +kernel
theorem d_B_fateWith_0 : decode b_B_fateWith 0 = .ok (.aload_n 0, 1) := by decide +kernel
theorem d_B_fateWith_1 : decode b_B_fateWith 1 = .ok (.getfield 9, 3) := by decide +kernel
theorem d_B_fateWith_4 : decode b_B_fateWith 4 = .ok (.ifCond .eq 18, 3) := by decide +kernel
theorem d_B_fateWith_7 : decode b_B_fateWith 7 = .ok (.aload_n 0, 1) := by decide +kernel
theorem d_B_fateWith_8 : decode b_B_fateWith 8 = .ok (.aload_n 1, 1) := by decide +kernel
theorem d_B_fateWith_9 : decode b_B_fateWith 9 = .ok (.aload_n 2, 1) := by decide +kernel
theorem d_B_fateWith_10 : decode b_B_fateWith 10 = .ok (.invokevirtual 113, 3) := by decide +kernel
theorem d_B_fateWith_13 : decode b_B_fateWith 13 = .ok (.ifCond .eq 7, 3) := by decide +kernel
theorem d_B_fateWith_16 : decode b_B_fateWith 16 = .ok (.iconst 0, 1) := by decide +kernel
theorem d_B_fateWith_17 : decode b_B_fateWith 17 = .ok (.goto 4, 3) := by decide +kernel
theorem d_B_fateWith_20 : decode b_B_fateWith 20 = .ok (.iconst 2, 1) := by decide +kernel
theorem d_B_fateWith_21 : decode b_B_fateWith 21 = .ok (.ireturn, 1) := by decide +kernel
theorem d_B_fateWith_22 : decode b_B_fateWith 22 = .ok (.aload_n 2, 1) := by decide +kernel
theorem d_B_fateWith_23 : decode b_B_fateWith 23 = .ok (.aload_n 1, 1) := by decide +kernel
theorem d_B_fateWith_24 : decode b_B_fateWith 24 = .ok (.getfield 15, 3) := by decide +kernel
theorem d_B_fateWith_27 : decode b_B_fateWith 27 = .ok (.invokevirtual 30, 3) := by decide +kernel
theorem d_B_fateWith_30 : decode b_B_fateWith 30 = .ok (.ifCond .ne 6, 3) := by decide +kernel
theorem d_B_fateWith_33 : decode b_B_fateWith 33 = .ok (.bipush (-6), 2) := by decide +kernel
theorem d_B_fateWith_35 : decode b_B_fateWith 35 = .ok (.ireturn, 1) := by decide +kernel
theorem d_B_fateWith_36 : decode b_B_fateWith 36 = .ok (.aload_n 2, 1) := by decide +kernel
theorem d_B_fateWith_37 : decode b_B_fateWith 37 = .ok (.aload_n 1, 1) := by decide +kernel
theorem d_B_fateWith_38 : decode b_B_fateWith 38 = .ok (.getfield 15, 3) := by decide +kernel
theorem d_B_fateWith_41 : decode b_B_fateWith 41 = .ok (.invokevirtual 33, 3) := by decide +kernel
theorem d_B_fateWith_44 : decode b_B_fateWith 44 = .ok (.ifCond .eq 6, 3) := by decide +kernel
theorem d_B_fateWith_47 : decode b_B_fateWith 47 = .ok (.bipush (-8), 2) := by decide +kernel
theorem d_B_fateWith_49 : decode b_B_fateWith 49 = .ok (.ireturn, 1) := by decide +kernel
theorem d_B_fateWith_50 : decode b_B_fateWith 50 = .ok (.aload_n 1, 1) := by decide +kernel
theorem d_B_fateWith_51 : decode b_B_fateWith 51 = .ok (.getfield 39, 3) := by decide +kernel
theorem d_B_fateWith_54 : decode b_B_fateWith 54 = .ok (.tableswitch 86 0 5 #[38, 38, 45, 45, 52, 70], 38) := by decide +kernel
theorem d_B_fateWith_92 : decode b_B_fateWith 92 = .ok (.aload_n 0, 1) := by decide +kernel
theorem d_B_fateWith_93 : decode b_B_fateWith 93 = .ok (.aload_n 1, 1) := by decide +kernel
theorem d_B_fateWith_94 : decode b_B_fateWith 94 = .ok (.aload_n 2, 1) := by decide +kernel
theorem d_B_fateWith_95 : decode b_B_fateWith 95 = .ok (.invokevirtual 117, 3) := by decide +kernel
theorem d_B_fateWith_98 : decode b_B_fateWith 98 = .ok (.ireturn, 1) := by decide +kernel
theorem d_B_fateWith_99 : decode b_B_fateWith 99 = .ok (.aload_n 0, 1) := by decide +kernel
theorem d_B_fateWith_100 : decode b_B_fateWith 100 = .ok (.aload_n 1, 1) := by decide +kernel
theorem d_B_fateWith_101 : decode b_B_fateWith 101 = .ok (.aload_n 2, 1) := by decide +kernel
theorem d_B_fateWith_102 : decode b_B_fateWith 102 = .ok (.invokevirtual 120, 3) := by decide +kernel
theorem d_B_fateWith_105 : decode b_B_fateWith 105 = .ok (.ireturn, 1) := by decide +kernel
theorem d_B_fateWith_106 : decode b_B_fateWith 106 = .ok (.aload_n 2, 1) := by decide +kernel
theorem d_B_fateWith_107 : decode b_B_fateWith 107 = .ok (.aload_n 1, 1) := by decide +kernel
theorem d_B_fateWith_108 : decode b_B_fateWith 108 = .ok (.getfield 15, 3) := by decide +kernel
theorem d_B_fateWith_111 : decode b_B_fateWith 111 = .ok (.invokevirtual 49, 3) := by decide +kernel
theorem d_B_fateWith_114 : decode b_B_fateWith 114 = .ok (.ifCond .eq 8, 3) := by decide +kernel
theorem d_B_fateWith_117 : decode b_B_fateWith 117 = .ok (.bipush (-9), 2) := by decide +kernel
theorem d_B_fateWith_119 : decode b_B_fateWith 119 = .ok (.goto 4, 3) := by decide +kernel
theorem d_B_fateWith_122 : decode b_B_fateWith 122 = .ok (.iconst 0, 1) := by decide +kernel
theorem d_B_fateWith_123 : decode b_B_fateWith 123 = .ok (.ireturn, 1) := by decide +kernel
theorem d_B_fateWith_124 : decode b_B_fateWith 124 = .ok (.aload_n 0, 1) := by decide +kernel
theorem d_B_fateWith_125 : decode b_B_fateWith 125 = .ok (.aload_n 1, 1) := by decide +kernel
theorem d_B_fateWith_126 : decode b_B_fateWith 126 = .ok (.aload_n 2, 1) := by decide +kernel
theorem d_B_fateWith_127 : decode b_B_fateWith 127 = .ok (.invokevirtual 123, 3) := by decide +kernel
theorem d_B_fateWith_130 : decode b_B_fateWith 130 = .ok (.ifCond .eq 8, 3) := by decide +kernel
theorem d_B_fateWith_133 : decode b_B_fateWith 133 = .ok (.bipush (-9), 2) := by decide +kernel
theorem d_B_fateWith_135 : decode b_B_fateWith 135 = .ok (.goto 4, 3) := by decide +kernel
theorem d_B_fateWith_138 : decode b_B_fateWith 138 = .ok (.iconst 0, 1) := by decide +kernel
theorem d_B_fateWith_139 : decode b_B_fateWith 139 = .ok (.ireturn, 1) := by decide +kernel
theorem d_B_fateWith_140 : decode b_B_fateWith 140 = .ok (.aload_n 0, 1) := by decide +kernel
theorem d_B_fateWith_141 : decode b_B_fateWith 141 = .ok (.aload_n 1, 1) := by decide +kernel
theorem d_B_fateWith_142 : decode b_B_fateWith 142 = .ok (.aload_n 2, 1) := by decide +kernel
theorem d_B_fateWith_143 : decode b_B_fateWith 143 = .ok (.invokevirtual 126, 3) := by decide +kernel
theorem d_B_fateWith_146 : decode b_B_fateWith 146 = .ok (.ireturn, 1) := by decide +kernel
theorem d_B_isStillValue_0 : decode b_B_isStillValue 0 = .ok (.aload_n 2, 1) := by decide +kernel
theorem d_B_isStillValue_1 : decode b_B_isStillValue 1 = .ok (.aload_n 1, 1) := by decide +kernel
theorem d_B_isStillValue_2 : decode b_B_isStillValue 2 = .ok (.getfield 15, 3) := by decide +kernel
theorem d_B_isStillValue_5 : decode b_B_isStillValue 5 = .ok (.invokevirtual 30, 3) := by decide +kernel
theorem d_B_isStillValue_8 : decode b_B_isStillValue 8 = .ok (.ifCond .ne 5, 3) := by decide +kernel
theorem d_B_isStillValue_11 : decode b_B_isStillValue 11 = .ok (.iconst 0, 1) := by decide +kernel
theorem d_B_isStillValue_12 : decode b_B_isStillValue 12 = .ok (.ireturn, 1) := by decide +kernel
theorem d_B_isStillValue_13 : decode b_B_isStillValue 13 = .ok (.aload_n 2, 1) := by decide +kernel
theorem d_B_isStillValue_14 : decode b_B_isStillValue 14 = .ok (.aload_n 1, 1) := by decide +kernel
theorem d_B_isStillValue_15 : decode b_B_isStillValue 15 = .ok (.getfield 15, 3) := by decide +kernel
theorem d_B_isStillValue_18 : decode b_B_isStillValue 18 = .ok (.aload_n 1, 1) := by decide +kernel
theorem d_B_isStillValue_19 : decode b_B_isStillValue 19 = .ok (.getfield 58, 3) := by decide +kernel
theorem d_B_isStillValue_22 : decode b_B_isStillValue 22 = .ok (.iconst (-1), 1) := by decide +kernel
theorem d_B_isStillValue_23 : decode b_B_isStillValue 23 = .ok (.invokevirtual 61, 3) := by decide +kernel
theorem d_B_isStillValue_26 : decode b_B_isStillValue 26 = .ok (.istore_n 3, 1) := by decide +kernel
theorem d_B_isStillValue_27 : decode b_B_isStillValue 27 = .ok (.iload_n 3, 1) := by decide +kernel
theorem d_B_isStillValue_28 : decode b_B_isStillValue 28 = .ok (.iconst (-1), 1) := by decide +kernel
theorem d_B_isStillValue_29 : decode b_B_isStillValue 29 = .ok (.if_icmp .eq 15, 3) := by decide +kernel
theorem d_B_isStillValue_32 : decode b_B_isStillValue 32 = .ok (.aload_n 2, 1) := by decide +kernel
theorem d_B_isStillValue_33 : decode b_B_isStillValue 33 = .ok (.getfield 65, 3) := by decide +kernel
theorem d_B_isStillValue_36 : decode b_B_isStillValue 36 = .ok (.iload_n 3, 1) := by decide +kernel
theorem d_B_isStillValue_37 : decode b_B_isStillValue 37 = .ok (.iaload, 1) := by decide +kernel
theorem d_B_isStillValue_38 : decode b_B_isStillValue 38 = .ok (.bipush 16, 2) := by decide +kernel
theorem d_B_isStillValue_40 : decode b_B_isStillValue 40 = .ok (.iand, 1) := by decide +kernel
theorem d_B_isStillValue_41 : decode b_B_isStillValue 41 = .ok (.ifCond .ne 5, 3) := by decide +kernel
theorem d_B_isStillValue_44 : decode b_B_isStillValue 44 = .ok (.iconst 0, 1) := by decide +kernel
theorem d_B_isStillValue_45 : decode b_B_isStillValue 45 = .ok (.ireturn, 1) := by decide +kernel
theorem d_B_isStillValue_46 : decode b_B_isStillValue 46 = .ok (.aload_n 2, 1) := by decide +kernel
theorem d_B_isStillValue_47 : decode b_B_isStillValue 47 = .ok (.getfield 69, 3) := by decide +kernel
theorem d_B_isStillValue_50 : decode b_B_isStillValue 50 = .ok (.iload_n 3, 1) := by decide +kernel
theorem d_B_isStillValue_51 : decode b_B_isStillValue 51 = .ok (.iaload, 1) := by decide +kernel
theorem d_B_isStillValue_52 : decode b_B_isStillValue 52 = .ok (.aload_n 0, 1) := by decide +kernel
theorem d_B_isStillValue_53 : decode b_B_isStillValue 53 = .ok (.getfield 72, 3) := by decide +kernel
theorem d_B_isStillValue_56 : decode b_B_isStillValue 56 = .ok (.if_icmp .ne 20, 3) := by decide +kernel
theorem d_B_isStillValue_59 : decode b_B_isStillValue 59 = .ok (.aload_n 2, 1) := by decide +kernel
theorem d_B_isStillValue_60 : decode b_B_isStillValue 60 = .ok (.getfield 74, 3) := by decide +kernel
theorem d_B_isStillValue_63 : decode b_B_isStillValue 63 = .ok (.iload_n 3, 1) := by decide +kernel
theorem d_B_isStillValue_64 : decode b_B_isStillValue 64 = .ok (.iaload, 1) := by decide +kernel
theorem d_B_isStillValue_65 : decode b_B_isStillValue 65 = .ok (.aload_n 0, 1) := by decide +kernel
theorem d_B_isStillValue_66 : decode b_B_isStillValue 66 = .ok (.getfield 77, 3) := by decide +kernel
theorem d_B_isStillValue_69 : decode b_B_isStillValue 69 = .ok (.if_icmp .ne 7, 3) := by decide +kernel
theorem d_B_isStillValue_72 : decode b_B_isStillValue 72 = .ok (.iconst 1, 1) := by decide +kernel
theorem d_B_isStillValue_73 : decode b_B_isStillValue 73 = .ok (.goto 4, 3) := by decide +kernel
theorem d_B_isStillValue_76 : decode b_B_isStillValue 76 = .ok (.iconst 0, 1) := by decide +kernel
theorem d_B_isStillValue_77 : decode b_B_isStillValue 77 = .ok (.ireturn, 1) := by decide +kernel
theorem d_B_fateOfField_0 : decode b_B_fateOfField 0 = .ok (.aload_n 2, 1) := by decide +kernel
theorem d_B_fateOfField_1 : decode b_B_fateOfField 1 = .ok (.aload_n 1, 1) := by decide +kernel
theorem d_B_fateOfField_2 : decode b_B_fateOfField 2 = .ok (.getfield 15, 3) := by decide +kernel
theorem d_B_fateOfField_5 : decode b_B_fateOfField 5 = .ok (.aload_n 1, 1) := by decide +kernel
theorem d_B_fateOfField_6 : decode b_B_fateOfField 6 = .ok (.getfield 58, 3) := by decide +kernel
theorem d_B_fateOfField_9 : decode b_B_fateOfField 9 = .ok (.aload_n 0, 1) := by decide +kernel
theorem d_B_fateOfField_10 : decode b_B_fateOfField 10 = .ok (.getfield 72, 3) := by decide +kernel
theorem d_B_fateOfField_13 : decode b_B_fateOfField 13 = .ok (.invokevirtual 61, 3) := by decide +kernel
theorem d_B_fateOfField_16 : decode b_B_fateOfField 16 = .ok (.istore_n 3, 1) := by decide +kernel
theorem d_B_fateOfField_17 : decode b_B_fateOfField 17 = .ok (.iload_n 3, 1) := by decide +kernel
theorem d_B_fateOfField_18 : decode b_B_fateOfField 18 = .ok (.iconst (-1), 1) := by decide +kernel
theorem d_B_fateOfField_19 : decode b_B_fateOfField 19 = .ok (.if_icmp .ne 6, 3) := by decide +kernel
theorem d_B_fateOfField_22 : decode b_B_fateOfField 22 = .ok (.bipush (-7), 2) := by decide +kernel
theorem d_B_fateOfField_24 : decode b_B_fateOfField 24 = .ok (.ireturn, 1) := by decide +kernel
theorem d_B_fateOfField_25 : decode b_B_fateOfField 25 = .ok (.aload_n 2, 1) := by decide +kernel
theorem d_B_fateOfField_26 : decode b_B_fateOfField 26 = .ok (.getfield 65, 3) := by decide +kernel
theorem d_B_fateOfField_29 : decode b_B_fateOfField 29 = .ok (.iload_n 3, 1) := by decide +kernel
theorem d_B_fateOfField_30 : decode b_B_fateOfField 30 = .ok (.iaload, 1) := by decide +kernel
theorem d_B_fateOfField_31 : decode b_B_fateOfField 31 = .ok (.istore 4, 2) := by decide +kernel
theorem d_B_fateOfField_33 : decode b_B_fateOfField 33 = .ok (.iload 4, 2) := by decide +kernel
theorem d_B_fateOfField_35 : decode b_B_fateOfField 35 = .ok (.bipush 8, 2) := by decide +kernel
theorem d_B_fateOfField_37 : decode b_B_fateOfField 37 = .ok (.iand, 1) := by decide +kernel
theorem d_B_fateOfField_38 : decode b_B_fateOfField 38 = .ok (.ifCond .ne 18, 3) := by decide +kernel
theorem d_B_fateOfField_41 : decode b_B_fateOfField 41 = .ok (.aload_n 1, 1) := by decide +kernel
theorem d_B_fateOfField_42 : decode b_B_fateOfField 42 = .ok (.getfield 39, 3) := by decide +kernel
theorem d_B_fateOfField_45 : decode b_B_fateOfField 45 = .ok (.iconst 1, 1) := by decide +kernel
theorem d_B_fateOfField_46 : decode b_B_fateOfField 46 = .ok (.if_icmp .ne 13, 3) := by decide +kernel
theorem d_B_fateOfField_49 : decode b_B_fateOfField 49 = .ok (.iload 4, 2) := by decide +kernel
theorem d_B_fateOfField_51 : decode b_B_fateOfField 51 = .ok (.iconst 4, 1) := by decide +kernel
theorem d_B_fateOfField_52 : decode b_B_fateOfField 52 = .ok (.iand, 1) := by decide +kernel
