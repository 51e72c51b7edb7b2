theorem d_M_bindCall_117 : decode b_M_bindCall 117 = .ok (.iload_n 3, 1) := by decide +kernel
theorem d_M_bindCall_118 : decode b_M_bindCall 118 = .ok (.iadd, 1) := by decide +kernel
theorem d_M_bindCall_119 : decode b_M_bindCall 119 = .ok (.iaload, 1) := by decide +kernel
theorem d_M_bindCall_120 : decode b_M_bindCall 120 = .ok (.iconst 1, 1) := by decide +kernel
theorem d_M_bindCall_121 : decode b_M_bindCall 121 = .ok (.invokestatic 73, 3) := by decide +kernel
theorem d_M_bindCall_124 : decode b_M_bindCall 124 = .ok (.iastore, 1) := by decide +kernel
theorem d_M_bindCall_125 : decode b_M_bindCall 125 = .ok (.aload_n 0, 1) := by decide +kernel
theorem d_M_bindCall_126 : decode b_M_bindCall 126 = .ok (.iload_n 1, 1) := by decide +kernel
theorem d_M_bindCall_127 : decode b_M_bindCall 127 = .ok (.iload 7, 2) := by decide +kernel
theorem d_M_bindCall_129 : decode b_M_bindCall 129 = .ok (.iload 6, 2) := by decide +kernel
theorem d_M_bindCall_131 : decode b_M_bindCall 131 = .ok (.invokevirtual 81, 3) := by decide +kernel
theorem d_M_bindCall_134 : decode b_M_bindCall 134 = .ok (.ireturn, 1) := by decide +kernel
theorem d_M_bindCall_135 : decode b_M_bindCall 135 = .ok (.iinc 6 1, 3) := by decide +kernel
theorem d_M_bindCall_138 : decode b_M_bindCall 138 = .ok (.goto (-134), 3) := by decide +kernel
theorem d_M_bindCall_141 : decode b_M_bindCall 141 = .ok (.bipush (-4), 2) := by decide +kernel
theorem d_M_bindCall_143 : decode b_M_bindCall 143 = .ok (.ireturn, 1) := by decide +kernel
theorem d_M_bindOverride_0 : decode b_M_bindOverride 0 = .ok (.aload_n 0, 1) := by decide +kernel
theorem d_M_bindOverride_1 : decode b_M_bindOverride 1 = .ok (.iload_n 1, 1) := by decide +kernel
theorem d_M_bindOverride_2 : decode b_M_bindOverride 2 = .ok (.iload_n 2, 1) := by decide +kernel
theorem d_M_bindOverride_3 : decode b_M_bindOverride 3 = .ok (.iload_n 3, 1) := by decide +kernel
theorem d_M_bindOverride_4 : decode b_M_bindOverride 4 = .ok (.iload 4, 2) := by decide +kernel
theorem d_M_bindOverride_6 : decode b_M_bindOverride 6 = .ok (.iconst (-1), 1) := by decide +kernel
theorem d_M_bindOverride_7 : decode b_M_bindOverride 7 = .ok (.invokevirtual 77, 3) := by decide +kernel
theorem d_M_bindOverride_10 : decode b_M_bindOverride 10 = .ok (.istore 5, 2) := by decide +kernel
theorem d_M_bindOverride_12 : decode b_M_bindOverride 12 = .ok (.iload 5, 2) := by decide +kernel
theorem d_M_bindOverride_14 : decode b_M_bindOverride 14 = .ok (.ifCond .lt 16, 3) := by decide +kernel
theorem d_M_bindOverride_17 : decode b_M_bindOverride 17 = .ok (.aload_n 0, 1) := by decide +kernel
theorem d_M_bindOverride_18 : decode b_M_bindOverride 18 = .ok (.getfield 35, 3) := by decide +kernel
theorem d_M_bindOverride_21 : decode b_M_bindOverride 21 = .ok (.iload 5, 2) := by decide +kernel
theorem d_M_bindOverride_23 : decode b_M_bindOverride 23 = .ok (.iaload, 1) := by decide +kernel
theorem d_M_bindOverride_24 : decode b_M_bindOverride 24 = .ok (.bipush 8, 2) := by decide +kernel
theorem d_M_bindOverride_26 : decode b_M_bindOverride 26 = .ok (.iand, 1) := by decide +kernel
theorem d_M_bindOverride_27 : decode b_M_bindOverride 27 = .ok (.ifCond .eq 6, 3) := by decide +kernel
theorem d_M_bindOverride_30 : decode b_M_bindOverride 30 = .ok (.bipush (-4), 2) := by decide +kernel
theorem d_M_bindOverride_32 : decode b_M_bindOverride 32 = .ok (.ireturn, 1) := by decide +kernel
theorem d_M_bindOverride_33 : decode b_M_bindOverride 33 = .ok (.aload_n 0, 1) := by decide +kernel
theorem d_M_bindOverride_34 : decode b_M_bindOverride 34 = .ok (.getfield 35, 3) := by decide +kernel
theorem d_M_bindOverride_37 : decode b_M_bindOverride 37 = .ok (.iload 5, 2) := by decide +kernel
theorem d_M_bindOverride_39 : decode b_M_bindOverride 39 = .ok (.iaload, 1) := by decide +kernel
theorem d_M_bindOverride_40 : decode b_M_bindOverride 40 = .ok (.iconst 5, 1) := by decide +kernel
theorem d_M_bindOverride_41 : decode b_M_bindOverride 41 = .ok (.iand, 1) := by decide +kernel
theorem d_M_bindOverride_42 : decode b_M_bindOverride 42 = .ok (.ifCond .eq 8, 3) := by decide +kernel
theorem d_M_bindOverride_45 : decode b_M_bindOverride 45 = .ok (.bipush (-5), 2) := by decide +kernel
theorem d_M_bindOverride_47 : decode b_M_bindOverride 47 = .ok (.goto 12, 3) := by decide +kernel
theorem d_M_bindOverride_50 : decode b_M_bindOverride 50 = .ok (.aload_n 0, 1) := by decide +kernel
theorem d_M_bindOverride_51 : decode b_M_bindOverride 51 = .ok (.iload_n 1, 1) := by decide +kernel
theorem d_M_bindOverride_52 : decode b_M_bindOverride 52 = .ok (.iload 5, 2) := by decide +kernel
theorem d_M_bindOverride_54 : decode b_M_bindOverride 54 = .ok (.iload 4, 2) := by decide +kernel
theorem d_M_bindOverride_56 : decode b_M_bindOverride 56 = .ok (.invokevirtual 81, 3) := by decide +kernel
theorem d_M_bindOverride_59 : decode b_M_bindOverride 59 = .ok (.ireturn, 1) := by decide +kernel
theorem d_M_bind_0 : decode b_M_bind 0 = .ok (.aload_n 0, 1) := by decide +kernel
theorem d_M_bind_1 : decode b_M_bind 1 = .ok (.getfield 38, 3) := by decide +kernel
theorem d_M_bind_4 : decode b_M_bind 4 = .ok (.iconst 4, 1) := by decide +kernel
theorem d_M_bind_5 : decode b_M_bind 5 = .ok (.iload_n 1, 1) := by decide +kernel
theorem d_M_bind_6 : decode b_M_bind 6 = .ok (.imul, 1) := by decide +kernel
theorem d_M_bind_7 : decode b_M_bind 7 = .ok (.iaload, 1) := by decide +kernel
theorem d_M_bind_8 : decode b_M_bind 8 = .ok (.istore_n 3, 1) := by decide +kernel
theorem d_M_bind_9 : decode b_M_bind 9 = .ok (.aload_n 0, 1) := by decide +kernel
theorem d_M_bind_10 : decode b_M_bind 10 = .ok (.getfield 38, 3) := by decide +kernel
theorem d_M_bind_13 : decode b_M_bind 13 = .ok (.iconst 4, 1) := by decide +kernel
theorem d_M_bind_14 : decode b_M_bind 14 = .ok (.iload_n 1, 1) := by decide +kernel
theorem d_M_bind_15 : decode b_M_bind 15 = .ok (.imul, 1) := by decide +kernel
theorem d_M_bind_16 : decode b_M_bind 16 = .ok (.iconst 1, 1) := by decide +kernel
theorem d_M_bind_17 : decode b_M_bind 17 = .ok (.iadd, 1) := by decide +kernel
theorem d_M_bind_18 : decode b_M_bind 18 = .ok (.iaload, 1) := by decide +kernel
theorem d_M_bind_19 : decode b_M_bind 19 = .ok (.istore 4, 2) := by decide +kernel
theorem d_M_bind_21 : decode b_M_bind 21 = .ok (.aload_n 0, 1) := by decide +kernel
theorem d_M_bind_22 : decode b_M_bind 22 = .ok (.getfield 38, 3) := by decide +kernel
theorem d_M_bind_25 : decode b_M_bind 25 = .ok (.iconst 4, 1) := by decide +kernel
theorem d_M_bind_26 : decode b_M_bind 26 = .ok (.iload_n 1, 1) := by decide +kernel
theorem d_M_bind_27 : decode b_M_bind 27 = .ok (.imul, 1) := by decide +kernel
theorem d_M_bind_28 : decode b_M_bind 28 = .ok (.iconst 2, 1) := by decide +kernel
theorem d_M_bind_29 : decode b_M_bind 29 = .ok (.iadd, 1) := by decide +kernel
theorem d_M_bind_30 : decode b_M_bind 30 = .ok (.iaload, 1) := by decide +kernel
theorem d_M_bind_31 : decode b_M_bind 31 = .ok (.istore 5, 2) := by decide +kernel
theorem d_M_bind_33 : decode b_M_bind 33 = .ok (.bipush 6, 2) := by decide +kernel
theorem d_M_bind_35 : decode b_M_bind 35 = .ok (.iload_n 2, 1) := by decide +kernel
theorem d_M_bind_36 : decode b_M_bind 36 = .ok (.imul, 1) := by decide +kernel
theorem d_M_bind_37 : decode b_M_bind 37 = .ok (.iload 4, 2) := by decide +kernel
theorem d_M_bind_39 : decode b_M_bind 39 = .ok (.iadd, 1) := by decide +kernel
theorem d_M_bind_40 : decode b_M_bind 40 = .ok (.istore 6, 2) := by decide +kernel
theorem d_M_bind_42 : decode b_M_bind 42 = .ok (.bipush 7, 2) := by decide +kernel
theorem d_M_bind_44 : decode b_M_bind 44 = .ok (.iload_n 2, 1) := by decide +kernel
theorem d_M_bind_45 : decode b_M_bind 45 = .ok (.imul, 1) := by decide +kernel
theorem d_M_bind_46 : decode b_M_bind 46 = .ok (.istore 7, 2) := by decide +kernel
theorem d_M_bind_48 : decode b_M_bind 48 = .ok (.iload 7, 2) := by decide +kernel
theorem d_M_bind_50 : decode b_M_bind 50 = .ok (.bipush 7, 2) := by decide +kernel
theorem d_M_bind_52 : decode b_M_bind 52 = .ok (.iload_n 2, 1) := by decide +kernel
theorem d_M_bind_53 : decode b_M_bind 53 = .ok (.imul, 1) := by decide +kernel
theorem d_M_bind_54 : decode b_M_bind 54 = .ok (.bipush 7, 2) := by decide +kernel
theorem d_M_bind_56 : decode b_M_bind 56 = .ok (.iadd, 1) := by decide +kernel
theorem d_M_bind_57 : decode b_M_bind 57 = .ok (.if_icmp .ge 17, 3) := by decide +kernel
theorem d_M_bind_60 : decode b_M_bind 60 = .ok (.aload_n 0, 1) := by decide +kernel
theorem d_M_bind_61 : decode b_M_bind 61 = .ok (.getfield 41, 3) := by decide +kernel
theorem d_M_bind_64 : decode b_M_bind 64 = .ok (.iload 7, 2) := by decide +kernel
theorem d_M_bind_66 : decode b_M_bind 66 = .ok (.iconst 0, 1) := by decide +kernel
theorem d_M_bind_67 : decode b_M_bind 67 = .ok (.iastore, 1) := by decide +kernel
theorem d_M_bind_68 : decode b_M_bind 68 = .ok (.iinc 7 1, 3) := by decide +kernel
theorem d_M_bind_71 : decode b_M_bind 71 = .ok (.goto (-23), 3) := by decide +kernel
theorem d_M_bind_74 : decode b_M_bind 74 = .ok (.aload_n 0, 1) := by decide +kernel
theorem d_M_bind_75 : decode b_M_bind 75 = .ok (.getfield 7, 3) := by decide +kernel
theorem d_M_bind_78 : decode b_M_bind 78 = .ok (.iload 6, 2) := by decide +kernel
theorem d_M_bind_80 : decode b_M_bind 80 = .ok (.baload, 1) := by decide +kernel
theorem d_M_bind_81 : decode b_M_bind 81 = .ok (.ifCond .eq 16, 3) := by decide +kernel
theorem d_M_bind_84 : decode b_M_bind 84 = .ok (.aload_n 0, 1) := by decide +kernel
theorem d_M_bind_85 : decode b_M_bind 85 = .ok (.getfield 13, 3) := by decide +kernel
theorem d_M_bind_88 : decode b_M_bind 88 = .ok (.iload 6, 2) := by decide +kernel
theorem d_M_bind_90 : decode b_M_bind 90 = .ok (.iaload, 1) := by decide +kernel
theorem d_M_bind_91 : decode b_M_bind 91 = .ok (.bipush 8, 2) := by decide +kernel
theorem d_M_bind_93 : decode b_M_bind 93 = .ok (.iand, 1) := by decide +kernel
theorem d_M_bind_94 : decode b_M_bind 94 = .ok (.ifCond .eq 6, 3) := by decide +kernel
theorem d_M_bind_97 : decode b_M_bind 97 = .ok (.bipush (-3), 2) := by decide +kernel
theorem d_M_bind_99 : decode b_M_bind 99 = .ok (.ireturn, 1) := by decide +kernel
theorem d_M_bind_100 : decode b_M_bind 100 = .ok (.iload_n 3, 1) := by decide +kernel
theorem d_M_bind_101 : decode b_M_bind 101 = .ok (.iconst 2, 1) := by decide +kernel
theorem d_M_bind_102 : decode b_M_bind 102 = .ok (.if_icmp .ge 14, 3) := by decide +kernel
theorem d_M_bind_105 : decode b_M_bind 105 = .ok (.aload_n 0, 1) := by decide +kernel
theorem d_M_bind_106 : decode b_M_bind 106 = .ok (.iload_n 2, 1) := by decide +kernel
theorem d_M_bind_107 : decode b_M_bind 107 = .ok (.iload_n 3, 1) := by decide +kernel
theorem d_M_bind_108 : decode b_M_bind 108 = .ok (.iload 4, 2) := by decide +kernel
theorem d_M_bind_110 : decode b_M_bind 110 = .ok (.iload 5, 2) := by decide +kernel
theorem d_M_bind_112 : decode b_M_bind 112 = .ok (.invokevirtual 85, 3) := by decide +kernel
theorem d_M_bind_115 : decode b_M_bind 115 = .ok (.ireturn, 1) := by decide +kernel
theorem d_M_bind_116 : decode b_M_bind 116 = .ok (.iload_n 3, 1) := by decide +kernel
theorem d_M_bind_117 : decode b_M_bind 117 = .ok (.iconst 4, 1) := by decide +kernel
theorem d_M_bind_118 : decode b_M_bind 118 = .ok (.if_icmp .ge 24, 3) := by decide +kernel
theorem d_M_bind_121 : decode b_M_bind 121 = .ok (.aload_n 0, 1) := by decide +kernel
theorem d_M_bind_122 : decode b_M_bind 122 = .ok (.iload_n 2, 1) := by decide +kernel
theorem d_M_bind_123 : decode b_M_bind 123 = .ok (.iload_n 3, 1) := by decide +kernel
theorem d_M_bind_124 : decode b_M_bind 124 = .ok (.iload 4, 2) := by decide +kernel
theorem d_M_bind_126 : decode b_M_bind 126 = .ok (.iload 5, 2) := by decide +kernel
theorem d_M_bind_128 : decode b_M_bind 128 = .ok (.aload_n 0, 1) := by decide +kernel
theorem d_M_bind_129 : decode b_M_bind 129 = .ok (.getfield 38, 3) := by decide +kernel
theorem d_M_bind_132 : decode b_M_bind 132 = .ok (.iconst 4, 1) := by decide +kernel
theorem d_M_bind_133 : decode b_M_bind 133 = .ok (.iload_n 1, 1) := by decide +kernel
theorem d_M_bind_134 : decode b_M_bind 134 = .ok (.imul, 1) := by decide +kernel
theorem d_M_bind_135 : decode b_M_bind 135 = .ok (.iconst 3, 1) := by decide +kernel
theorem d_M_bind_136 : decode b_M_bind 136 = .ok (.iadd, 1) := by decide +kernel
theorem d_M_bind_137 : decode b_M_bind 137 = .ok (.iaload, 1) := by decide +kernel
theorem d_M_bind_138 : decode b_M_bind 138 = .ok (.invokevirtual 88, 3) := by decide +kernel
theorem d_M_bind_141 : decode b_M_bind 141 = .ok (.ireturn, 1) := by decide +kernel
theorem d_M_bind_142 : decode b_M_bind 142 = .ok (.iload_n 3, 1) := by decide +kernel
theorem d_M_bind_143 : decode b_M_bind 143 = .ok (.iconst 4, 1) := by decide +kernel
theorem d_M_bind_144 : decode b_M_bind 144 = .ok (.if_icmp .ne 22, 3) := by decide +kernel
theorem d_M_bind_147 : decode b_M_bind 147 = .ok (.aload_n 0, 1) := by decide +kernel
theorem d_M_bind_148 : decode b_M_bind 148 = .ok (.getfield 13, 3) := by decide +kernel
theorem d_M_bind_151 : decode b_M_bind 151 = .ok (.iload 6, 2) := by decide +kernel
theorem d_M_bind_153 : decode b_M_bind 153 = .ok (.iaload, 1) := by decide +kernel
theorem d_M_bind_154 : decode b_M_bind 154 = .ok (.iconst 3, 1) := by decide +kernel
theorem d_M_bind_155 : decode b_M_bind 155 = .ok (.iand, 1) := by decide +kernel
theorem d_M_bind_156 : decode b_M_bind 156 = .ok (.ifCond .eq 8, 3) := by decide +kernel
theorem d_M_bind_159 : decode b_M_bind 159 = .ok (.bipush (-5), 2) := by decide +kernel
theorem d_M_bind_161 : decode b_M_bind 161 = .ok (.goto 4, 3) := by decide +kernel
theorem d_M_bind_164 : decode b_M_bind 164 = .ok (.iconst 0, 1) := by decide +kernel
theorem d_M_bind_165 : decode b_M_bind 165 = .ok (.ireturn, 1) := by decide +kernel
theorem d_M_bind_166 : decode b_M_bind 166 = .ok (.aload_n 0, 1) := by decide +kernel
theorem d_M_bind_167 : decode b_M_bind 167 = .ok (.getfield 13, 3) := by decide +kernel
theorem d_M_bind_170 : decode b_M_bind 170 = .ok (.iload 6, 2) := by decide +kernel
theorem d_M_bind_172 : decode b_M_bind 172 = .ok (.iaload, 1) := by decide +kernel
theorem d_M_bind_173 : decode b_M_bind 173 = .ok (.iconst 4, 1) := by decide +kernel
theorem d_M_bind_174 : decode b_M_bind 174 = .ok (.iand, 1) := by decide +kernel
theorem d_M_bind_175 : decode b_M_bind 175 = .ok (.ifCond .eq 6, 3) := by decide +kernel
theorem d_M_bind_178 : decode b_M_bind 178 = .ok (.bipush (-5), 2) := by decide +kernel
theorem d_M_bind_180 : decode b_M_bind 180 = .ok (.ireturn, 1) := by decide +kernel
theorem d_M_bind_181 : decode b_M_bind 181 = .ok (.iload_n 3, 1) := by decide +kernel
theorem d_M_bind_182 : decode b_M_bind 182 = .ok (.iconst 5, 1) := by decide +kernel
theorem d_M_bind_183 : decode b_M_bind 183 = .ok (.if_icmp .ne 25, 3) := by decide +kernel
theorem d_M_bind_186 : decode b_M_bind 186 = .ok (.aload_n 0, 1) := by decide +kernel
theorem d_M_bind_187 : decode b_M_bind 187 = .ok (.getfield 41, 3) := by decide +kernel
theorem d_M_bind_190 : decode b_M_bind 190 = .ok (.bipush 7, 2) := by decide +kernel
theorem d_M_bind_192 : decode b_M_bind 192 = .ok (.iload_n 2, 1) := by decide +kernel
theorem d_M_bind_193 : decode b_M_bind 193 = .ok (.imul, 1) := by decide +kernel
theorem d_M_bind_194 : decode b_M_bind 194 = .ok (.iconst 4, 1) := by decide +kernel
theorem d_M_bind_195 : decode b_M_bind 195 = .ok (.iadd, 1) := by decide +kernel
theorem d_M_bind_196 : decode b_M_bind 196 = .ok (.aload_n 0, 1) := by decide +kernel
theorem d_M_bind_197 : decode b_M_bind 197 = .ok (.getfield 13, 3) := by decide +kernel
theorem d_M_bind_200 : decode b_M_bind 200 = .ok (.iload 6, 2) := by decide +kernel
theorem d_M_bind_202 : decode b_M_bind 202 = .ok (.iaload, 1) := by decide +kernel
theorem d_M_bind_203 : decode b_M_bind 203 = .ok (.iconst 1, 1) := by decide +kernel
theorem d_M_bind_204 : decode b_M_bind 204 = .ok (.invokestatic 73, 3) := by decide +kernel
theorem d_M_bind_207 : decode b_M_bind 207 = .ok (.iastore, 1) := by decide +kernel
theorem d_M_bind_208 : decode b_M_bind 208 = .ok (.iload_n 3, 1) := by decide +kernel
theorem d_M_bind_209 : decode b_M_bind 209 = .ok (.iconst 5, 1) := by decide +kernel
theorem d_M_bind_210 : decode b_M_bind 210 = .ok (.if_icmp .ne 7, 3) := by decide +kernel
theorem d_M_bind_213 : decode b_M_bind 213 = .ok (.iconst 0, 1) := by decide +kernel
theorem d_M_bind_214 : decode b_M_bind 214 = .ok (.goto 22, 3) := by decide +kernel
theorem d_M_bind_217 : decode b_M_bind 217 = .ok (.aload_n 0, 1) := by decide +kernel
theorem d_M_bind_218 : decode b_M_bind 218 = .ok (.iload_n 2, 1) := by decide +kernel
theorem d_M_bind_219 : decode b_M_bind 219 = .ok (.iload 4, 2) := by decide +kernel
theorem d_M_bind_221 : decode b_M_bind 221 = .ok (.iload 5, 2) := by decide +kernel
theorem d_M_bind_223 : decode b_M_bind 223 = .ok (.aload_n 0, 1) := by decide +kernel
theorem d_M_bind_224 : decode b_M_bind 224 = .ok (.getfield 38, 3) := by decide +kernel
theorem d_M_bind_227 : decode b_M_bind 227 = .ok (.iconst 4, 1) := by decide +kernel
theorem d_M_bind_228 : decode b_M_bind 228 = .ok (.iload_n 1, 1) := by decide +kernel
theorem d_M_bind_229 : decode b_M_bind 229 = .ok (.imul, 1) := by decide +kernel
theorem d_M_bind_230 : decode b_M_bind 230 = .ok (.iconst 3, 1) := by decide +kernel
theorem d_M_bind_231 : decode b_M_bind 231 = .ok (.iadd, 1) := by decide +kernel
theorem d_M_bind_232 : decode b_M_bind 232 = .ok (.iaload, 1) := by decide +kernel
theorem d_M_bind_233 : decode b_M_bind 233 = .ok (.invokevirtual 91, 3) := by decide +kernel
theorem d_M_bind_236 : decode b_M_bind 236 = .ok (.ireturn, 1) := by decide +kernel
theorem d_M_compile_0 : decode b_M_compile 0 = .ok (.iload_n 1, 1) := by decide +kernel
theorem d_M_compile_1 : decode b_M_compile 1 = .ok (.iconst 0, 1) := by decide +kernel
theorem d_M_compile_2 : decode b_M_compile 2 = .ok (.aload_n 0, 1) := by decide +kernel
theorem d_M_compile_3 : decode b_M_compile 3 = .ok (.getfield 59, 3) := by decide +kernel
theorem d_M_compile_6 : decode b_M_compile 6 = .ok (.iconst 1, 1) := by decide +kernel
theorem d_M_compile_7 : decode b_M_compile 7 = .ok (.isub, 1) := by decide +kernel
theorem d_M_compile_8 : decode b_M_compile 8 = .ok (.invokestatic 47, 3) := by decide +kernel
theorem d_M_compile_11 : decode b_M_compile 11 = .ok (.ifCond .eq 21, 3) := by decide +kernel
theorem d_M_compile_14 : decode b_M_compile 14 = .ok (.iload_n 2, 1) := by decide +kernel
theorem d_M_compile_15 : decode b_M_compile 15 = .ok (.iconst 0, 1) := by decide +kernel
theorem d_M_compile_16 : decode b_M_compile 16 = .ok (.iconst 1, 1) := by decide +kernel
theorem d_M_compile_17 : decode b_M_compile 17 = .ok (.invokestatic 47, 3) := by decide +kernel
theorem d_M_compile_20 : decode b_M_compile 20 = .ok (.ifCond .eq 12, 3) := by decide +kernel
theorem d_M_compile_23 : decode b_M_compile 23 = .ok (.aload_n 0, 1) := by decide +kernel
theorem d_M_compile_24 : decode b_M_compile 24 = .ok (.iload_n 1, 1) := by decide +kernel
theorem d_M_compile_25 : decode b_M_compile 25 = .ok (.iload_n 2, 1) := by decide +kernel
theorem d_M_compile_26 : decode b_M_compile 26 = .ok (.invokevirtual 94, 3) := by decide +kernel
theorem d_M_compile_29 : decode b_M_compile 29 = .ok (.goto 4, 3) := by decide +kernel
theorem d_M_compile_32 : decode b_M_compile 32 = .ok (.iconst (-1), 1) := by decide +kernel
theorem d_M_compile_33 : decode b_M_compile 33 = .ok (.ireturn, 1) := by decide +kernel
theorem d_M_linkValue_0 : decode b_M_linkValue 0 = .ok (.aload_n 0, 1) := by decide +kernel
theorem d_M_linkValue_1 : decode b_M_linkValue 1 = .ok (.getfield 7, 3) := by decide +kernel
theorem d_M_linkValue_4 : decode b_M_linkValue 4 = .ok (.bipush 6, 2) := by decide +kernel
theorem d_M_linkValue_6 : decode b_M_linkValue 6 = .ok (.iload_n 1, 1) := by decide +kernel
theorem d_M_linkValue_7 : decode b_M_linkValue 7 = .ok (.iadd, 1) := by decide +kernel
theorem d_M_linkValue_8 : decode b_M_linkValue 8 = .ok (.baload, 1) := by decide +kernel
theorem d_M_linkValue_9 : decode b_M_linkValue 9 = .ok (.ifCond .eq 14, 3) := by decide +kernel
theorem d_M_linkValue_12 : decode b_M_linkValue 12 = .ok (.aload_n 0, 1) := by decide +kernel
theorem d_M_linkValue_13 : decode b_M_linkValue 13 = .ok (.iconst 1, 1) := by decide +kernel
theorem d_M_linkValue_14 : decode b_M_linkValue 14 = .ok (.iload_n 1, 1) := by decide +kernel
theorem d_M_linkValue_15 : decode b_M_linkValue 15 = .ok (.iload_n 2, 1) := by decide +kernel
theorem d_M_linkValue_16 : decode b_M_linkValue 16 = .ok (.iconst (-1), 1) := by decide +kernel
theorem d_M_linkValue_17 : decode b_M_linkValue 17 = .ok (.invokevirtual 69, 3) := by decide +kernel
theorem d_M_linkValue_20 : decode b_M_linkValue 20 = .ok (.goto 4, 3) := by decide +kernel
theorem d_M_linkValue_23 : decode b_M_linkValue 23 = .ok (.iconst (-1), 1) := by decide +kernel
theorem d_M_linkValue_24 : decode b_M_linkValue 24 = .ok (.istore_n 3, 1) := by decide +kernel
theorem d_M_linkValue_25 : decode b_M_linkValue 25 = .ok (.iload_n 3, 1) := by decide +kernel
theorem d_M_linkValue_26 : decode b_M_linkValue 26 = .ok (.ifCond .lt 49, 3) := by decide +kernel
theorem d_M_linkValue_29 : decode b_M_linkValue 29 = .ok (.aload_n 0, 1) := by decide +kernel
theorem d_M_linkValue_30 : decode b_M_linkValue 30 = .ok (.getfield 26, 3) := by decide +kernel
theorem d_M_linkValue_33 : decode b_M_linkValue 33 = .ok (.iload_n 3, 1) := by decide +kernel
theorem d_M_linkValue_34 : decode b_M_linkValue 34 = .ok (.iaload, 1) := by decide +kernel
theorem d_M_linkValue_35 : decode b_M_linkValue 35 = .ok (.bipush 16, 2) := by decide +kernel
theorem d_M_linkValue_37 : decode b_M_linkValue 37 = .ok (.iand, 1) := by decide +kernel
theorem d_M_linkValue_38 : decode b_M_linkValue 38 = .ok (.ifCond .eq 37, 3) := by decide +kernel
theorem d_M_linkValue_41 : decode b_M_linkValue 41 = .ok (.aload_n 0, 1) := by decide +kernel
theorem d_M_linkValue_42 : decode b_M_linkValue 42 = .ok (.getfield 23, 3) := by decide +kernel
theorem d_M_linkValue_45 : decode b_M_linkValue 45 = .ok (.iload_n 3, 1) := by decide +kernel
theorem d_M_linkValue_46 : decode b_M_linkValue 46 = .ok (.iaload, 1) := by decide +kernel
theorem d_M_linkValue_47 : decode b_M_linkValue 47 = .ok (.aload_n 0, 1) := by decide +kernel
theorem d_M_linkValue_48 : decode b_M_linkValue 48 = .ok (.getfield 41, 3) := by decide +kernel
theorem d_M_linkValue_51 : decode b_M_linkValue 51 = .ok (.iconst 1, 1) := by decide +kernel
theorem d_M_linkValue_52 : decode b_M_linkValue 52 = .ok (.iaload, 1) := by decide +kernel
theorem d_M_linkValue_53 : decode b_M_linkValue 53 = .ok (.if_icmp .ne 22, 3) := by decide +kernel
theorem d_M_linkValue_56 : decode b_M_linkValue 56 = .ok (.aload_n 0, 1) := by decide +kernel
theorem d_M_linkValue_57 : decode b_M_linkValue 57 = .ok (.getfield 29, 3) := by decide +kernel
theorem d_M_linkValue_60 : decode b_M_linkValue 60 = .ok (.iload_n 3, 1) := by decide +kernel
theorem d_M_linkValue_61 : decode b_M_linkValue 61 = .ok (.iaload, 1) := by decide +kernel
theorem d_M_linkValue_62 : decode b_M_linkValue 62 = .ok (.aload_n 0, 1) := by decide +kernel
theorem d_M_linkValue_63 : decode b_M_linkValue 63 = .ok (.getfield 41, 3) := by decide +kernel
theorem d_M_linkValue_66 : decode b_M_linkValue 66 = .ok (.iconst 5, 1) := by decide +kernel
theorem d_M_linkValue_67 : decode b_M_linkValue 67 = .ok (.iaload, 1) := by decide +kernel
theorem d_M_linkValue_68 : decode b_M_linkValue 68 = .ok (.if_icmp .ne 7, 3) := by decide +kernel
theorem d_M_linkValue_71 : decode b_M_linkValue 71 = .ok (.iconst 1, 1) := by decide +kernel
theorem d_M_linkValue_72 : decode b_M_linkValue 72 = .ok (.goto 4, 3) := by decide +kernel
theorem d_M_linkValue_75 : decode b_M_linkValue 75 = .ok (.iconst 0, 1) := by decide +kernel
theorem d_M_linkValue_76 : decode b_M_linkValue 76 = .ok (.istore 4, 2) := by decide +kernel
theorem d_M_linkValue_78 : decode b_M_linkValue 78 = .ok (.iload 4, 2) := by decide +kernel
theorem d_M_linkValue_80 : decode b_M_linkValue 80 = .ok (.ifCond .eq 7, 3) := by decide +kernel
theorem d_M_linkValue_83 : decode b_M_linkValue 83 = .ok (.iconst 0, 1) := by decide +kernel
theorem d_M_linkValue_84 : decode b_M_linkValue 84 = .ok (.goto 4, 3) := by decide +kernel
theorem d_M_linkValue_87 : decode b_M_linkValue 87 = .ok (.iconst 2, 1) := by decide +kernel
theorem d_M_linkValue_88 : decode b_M_linkValue 88 = .ok (.ireturn, 1) := by decide +kernel
theorem d_M_linkField_0 : decode b_M_linkField 0 = .ok (.aload_n 0, 1) := by decide +kernel
theorem d_M_linkField_1 : decode b_M_linkField 1 = .ok (.iconst 1, 1) := by decide +kernel
theorem d_M_linkField_2 : decode b_M_linkField 2 = .ok (.iload_n 2, 1) := by decide +kernel
theorem d_M_linkField_3 : decode b_M_linkField 3 = .ok (.iload_n 3, 1) := by decide +kernel
theorem d_M_linkField_4 : decode b_M_linkField 4 = .ok (.aload_n 0, 1) := by decide +kernel
theorem d_M_linkField_5 : decode b_M_linkField 5 = .ok (.getfield 41, 3) := by decide +kernel
theorem d_M_linkField_8 : decode b_M_linkField 8 = .ok (.iconst 1, 1) := by decide +kernel
theorem d_M_linkField_9 : decode b_M_linkField 9 = .ok (.iaload, 1) := by decide +kernel
theorem d_M_linkField_10 : decode b_M_linkField 10 = .ok (.invokevirtual 69, 3) := by decide +kernel
theorem d_M_linkField_13 : decode b_M_linkField 13 = .ok (.istore 4, 2) := by decide +kernel
theorem d_M_linkField_15 : decode b_M_linkField 15 = .ok (.iload 4, 2) := by decide +kernel
theorem d_M_linkField_17 : decode b_M_linkField 17 = .ok (.ifCond .ge 6, 3) := by decide +kernel
theorem d_M_linkField_20 : decode b_M_linkField 20 = .ok (.bipush (-7), 2) := by decide +kernel
theorem d_M_linkField_22 : decode b_M_linkField 22 = .ok (.ireturn, 1) := by decide +kernel
theorem d_M_linkField_23 : decode b_M_linkField 23 = .ok (.aload_n 0, 1) := by decide +kernel
theorem d_M_linkField_24 : decode b_M_linkField 24 = .ok (.getfield 26, 3) := by decide +kernel
theorem d_M_linkField_27 : decode b_M_linkField 27 = .ok (.iload 4, 2) := by decide +kernel
theorem d_M_linkField_29 : decode b_M_linkField 29 = .ok (.iaload, 1) := by decide +kernel
theorem d_M_linkField_30 : decode b_M_linkField 30 = .ok (.bipush 8, 2) := by decide +kernel
theorem d_M_linkField_32 : decode b_M_linkField 32 = .ok (.iand, 1) := by decide +kernel
theorem d_M_linkField_33 : decode b_M_linkField 33 = .ok (.ifCond .ne 20, 3) := by decide +kernel
theorem d_M_linkField_36 : decode b_M_linkField 36 = .ok (.iload_n 1, 1) := by decide +kernel
theorem d_M_linkField_37 : decode b_M_linkField 37 = .ok (.iconst 1, 1) := by decide +kernel
theorem d_M_linkField_38 : decode b_M_linkField 38 = .ok (.if_icmp .ne 18, 3) := by decide +kernel
theorem d_M_linkField_41 : decode b_M_linkField 41 = .ok (.aload_n 0, 1) := by decide +kernel
theorem d_M_linkField_42 : decode b_M_linkField 42 = .ok (.getfield 26, 3) := by decide +kernel
theorem d_M_linkField_45 : decode b_M_linkField 45 = .ok (.iload 4, 2) := by decide +kernel
theorem d_M_linkField_47 : decode b_M_linkField 47 = .ok (.iaload, 1) := by decide +kernel
theorem d_M_linkField_48 : decode b_M_linkField 48 = .ok (.iconst 4, 1) := by decide +kernel
theorem d_M_linkField_49 : decode b_M_linkField 49 = .ok (.iand, 1) := by decide +kernel
theorem d_M_linkField_50 : decode b_M_linkField 50 = .ok (.ifCond .eq 6, 3) := by decide +kernel
theorem d_M_linkField_53 : decode b_M_linkField 53 = .ok (.bipush (-8), 2) := by decide +kernel
theorem d_M_linkField_55 : decode b_M_linkField 55 = .ok (.ireturn, 1) := by decide +kernel
theorem d_M_linkField_56 : decode b_M_linkField 56 = .ok (.aload_n 0, 1) := by decide +kernel
theorem d_M_linkField_57 : decode b_M_linkField 57 = .ok (.getfield 26, 3) := by decide +kernel
theorem d_M_linkField_60 : decode b_M_linkField 60 = .ok (.iload 4, 2) := by decide +kernel
theorem d_M_linkField_62 : decode b_M_linkField 62 = .ok (.iaload, 1) := by decide +kernel
theorem d_M_linkField_63 : decode b_M_linkField 63 = .ok (.iconst 1, 1) := by decide +kernel
theorem d_M_linkField_64 : decode b_M_linkField 64 = .ok (.invokestatic 73, 3) := by decide +kernel
theorem d_M_linkField_67 : decode b_M_linkField 67 = .ok (.aload_n 0, 1) := by decide +kernel
theorem d_M_linkField_68 : decode b_M_linkField 68 = .ok (.getfield 41, 3) := by decide +kernel
theorem d_M_linkField_71 : decode b_M_linkField 71 = .ok (.iconst 3, 1) := by decide +kernel
theorem d_M_linkField_72 : decode b_M_linkField 72 = .ok (.iaload, 1) := by decide +kernel
theorem d_M_linkField_73 : decode b_M_linkField 73 = .ok (.if_icmp .ne 7, 3) := by decide +kernel
theorem d_M_linkField_76 : decode b_M_linkField 76 = .ok (.iconst 0, 1) := by decide +kernel
theorem d_M_linkField_77 : decode b_M_linkField 77 = .ok (.goto 5, 3) := by decide +kernel
theorem d_M_linkField_80 : decode b_M_linkField 80 = .ok (.bipush (-9), 2) := by decide +kernel
theorem d_M_linkField_82 : decode b_M_linkField 82 = .ok (.ireturn, 1) := by decide +kernel
theorem d_M_linkCall_0 : decode b_M_linkCall 0 = .ok (.aload_n 0, 1) := by decide +kernel
theorem d_M_linkCall_1 : decode b_M_linkCall 1 = .ok (.getfield 13, 3) := by decide +kernel
theorem d_M_linkCall_4 : decode b_M_linkCall 4 = .ok (.bipush 6, 2) := by decide +kernel
theorem d_M_linkCall_6 : decode b_M_linkCall 6 = .ok (.iload_n 1, 1) := by decide +kernel
theorem d_M_linkCall_7 : decode b_M_linkCall 7 = .ok (.iadd, 1) := by decide +kernel
theorem d_M_linkCall_8 : decode b_M_linkCall 8 = .ok (.iaload, 1) := by decide +kernel
theorem d_M_linkCall_9 : decode b_M_linkCall 9 = .ok (.iconst 1, 1) := by decide +kernel
theorem d_M_linkCall_10 : decode b_M_linkCall 10 = .ok (.invokestatic 73, 3) := by decide +kernel
theorem d_M_linkCall_13 : decode b_M_linkCall 13 = .ok (.aload_n 0, 1) := by decide +kernel
theorem d_M_linkCall_14 : decode b_M_linkCall 14 = .ok (.getfield 41, 3) := by decide +kernel
theorem d_M_linkCall_17 : decode b_M_linkCall 17 = .ok (.iconst 4, 1) := by decide +kernel
theorem d_M_linkCall_18 : decode b_M_linkCall 18 = .ok (.iaload, 1) := by decide +kernel
theorem d_M_linkCall_19 : decode b_M_linkCall 19 = .ok (.if_icmp .eq 6, 3) := by decide +kernel
theorem d_M_linkCall_22 : decode b_M_linkCall 22 = .ok (.bipush (-9), 2) := by decide +kernel
theorem d_M_linkCall_24 : decode b_M_linkCall 24 = .ok (.ireturn, 1) := by decide +kernel
theorem d_M_linkCall_25 : decode b_M_linkCall 25 = .ok (.aload_n 0, 1) := by decide +kernel
theorem d_M_linkCall_26 : decode b_M_linkCall 26 = .ok (.iconst 1, 1) := by decide +kernel
theorem d_M_linkCall_27 : decode b_M_linkCall 27 = .ok (.iload_n 1, 1) := by decide +kernel
theorem d_M_linkCall_28 : decode b_M_linkCall 28 = .ok (.iload_n 2, 1) := by decide +kernel
theorem d_M_linkCall_29 : decode b_M_linkCall 29 = .ok (.aload_n 0, 1) := by decide +kernel
theorem d_M_linkCall_30 : decode b_M_linkCall 30 = .ok (.getfield 41, 3) := by decide +kernel
theorem d_M_linkCall_33 : decode b_M_linkCall 33 = .ok (.iconst 1, 1) := by decide +kernel
theorem d_M_linkCall_34 : decode b_M_linkCall 34 = .ok (.iaload, 1) := by decide +kernel
theorem d_M_linkCall_35 : decode b_M_linkCall 35 = .ok (.aload_n 0, 1) := by decide +kernel
theorem d_M_linkCall_36 : decode b_M_linkCall 36 = .ok (.getfield 41, 3) := by decide +kernel
theorem d_M_linkCall_39 : decode b_M_linkCall 39 = .ok (.iconst 2, 1) := by decide +kernel
theorem d_M_linkCall_40 : decode b_M_linkCall 40 = .ok (.iaload, 1) := by decide +kernel
theorem d_M_linkCall_41 : decode b_M_linkCall 41 = .ok (.invokevirtual 77, 3) := by decide +kernel
theorem d_M_linkCall_44 : decode b_M_linkCall 44 = .ok (.istore_n 3, 1) := by decide +kernel
theorem d_M_linkCall_45 : decode b_M_linkCall 45 = .ok (.iload_n 3, 1) := by decide +kernel
theorem d_M_linkCall_46 : decode b_M_linkCall 46 = .ok (.ifCond .ge 6, 3) := by decide +kernel
theorem d_M_linkCall_49 : decode b_M_linkCall 49 = .ok (.bipush (-7), 2) := by decide +kernel
theorem d_M_linkCall_51 : decode b_M_linkCall 51 = .ok (.ireturn, 1) := by decide +kernel
theorem d_M_linkCall_52 : decode b_M_linkCall 52 = .ok (.aload_n 0, 1) := by decide +kernel
theorem d_M_linkCall_53 : decode b_M_linkCall 53 = .ok (.getfield 35, 3) := by decide +kernel
theorem d_M_linkCall_56 : decode b_M_linkCall 56 = .ok (.iload_n 3, 1) := by decide +kernel
theorem d_M_linkCall_57 : decode b_M_linkCall 57 = .ok (.iaload, 1) := by decide +kernel
theorem d_M_linkCall_58 : decode b_M_linkCall 58 = .ok (.bipush 8, 2) := by decide +kernel
theorem d_M_linkCall_60 : decode b_M_linkCall 60 = .ok (.iand, 1) := by decide +kernel
theorem d_M_linkCall_61 : decode b_M_linkCall 61 = .ok (.ifCond .eq 6, 3) := by decide +kernel
theorem d_M_linkCall_64 : decode b_M_linkCall 64 = .ok (.bipush (-8), 2) := by decide +kernel
theorem d_M_linkCall_66 : decode b_M_linkCall 66 = .ok (.ireturn, 1) := by decide +kernel
theorem d_M_linkCall_67 : decode b_M_linkCall 67 = .ok (.aload_n 0, 1) := by decide +kernel
theorem d_M_linkCall_68 : decode b_M_linkCall 68 = .ok (.getfield 35, 3) := by decide +kernel
theorem d_M_linkCall_71 : decode b_M_linkCall 71 = .ok (.iload_n 3, 1) := by decide +kernel
theorem d_M_linkCall_72 : decode b_M_linkCall 72 = .ok (.iaload, 1) := by decide +kernel
theorem d_M_linkCall_73 : decode b_M_linkCall 73 = .ok (.iconst 1, 1) := by decide +kernel
theorem d_M_linkCall_74 : decode b_M_linkCall 74 = .ok (.invokestatic 73, 3) := by decide +kernel
theorem d_M_linkCall_77 : decode b_M_linkCall 77 = .ok (.aload_n 0, 1) := by decide +kernel
theorem d_M_linkCall_78 : decode b_M_linkCall 78 = .ok (.getfield 41, 3) := by decide +kernel
theorem d_M_linkCall_81 : decode b_M_linkCall 81 = .ok (.iconst 3, 1) := by decide +kernel
theorem d_M_linkCall_82 : decode b_M_linkCall 82 = .ok (.iaload, 1) := by decide +kernel
theorem d_M_linkCall_83 : decode b_M_linkCall 83 = .ok (.if_icmp .eq 6, 3) := by decide +kernel
theorem d_M_linkCall_86 : decode b_M_linkCall 86 = .ok (.bipush (-9), 2) := by decide +kernel
theorem d_M_linkCall_88 : decode b_M_linkCall 88 = .ok (.ireturn, 1) := by decide +kernel
theorem d_M_linkCall_89 : decode b_M_linkCall 89 = .ok (.iload_n 3, 1) := by decide +kernel
theorem d_M_linkCall_90 : decode b_M_linkCall 90 = .ok (.bipush 12, 2) := by decide +kernel
theorem d_M_linkCall_92 : decode b_M_linkCall 92 = .ok (.idiv, 1) := by decide +kernel
theorem d_M_linkCall_93 : decode b_M_linkCall 93 = .ok (.bipush 6, 2) := by decide +kernel
theorem d_M_linkCall_95 : decode b_M_linkCall 95 = .ok (.irem, 1) := by decide +kernel
theorem d_M_linkCall_96 : decode b_M_linkCall 96 = .ok (.aload_n 0, 1) := by decide +kernel
theorem d_M_linkCall_97 : decode b_M_linkCall 97 = .ok (.getfield 41, 3) := by decide +kernel
theorem d_M_linkCall_100 : decode b_M_linkCall 100 = .ok (.bipush 6, 2) := by decide +kernel
theorem d_M_linkCall_102 : decode b_M_linkCall 102 = .ok (.iaload, 1) := by decide +kernel
theorem d_M_linkCall_103 : decode b_M_linkCall 103 = .ok (.if_icmp .ne 7, 3) := by decide +kernel
theorem d_M_linkCall_106 : decode b_M_linkCall 106 = .ok (.iconst 0, 1) := by decide +kernel
theorem d_M_linkCall_107 : decode b_M_linkCall 107 = .ok (.goto 4, 3) := by decide +kernel
theorem d_M_linkCall_110 : decode b_M_linkCall 110 = .ok (.iconst 1, 1) := by decide +kernel
theorem d_M_linkCall_111 : decode b_M_linkCall 111 = .ok (.ireturn, 1) := by decide +kernel
theorem d_M_linkOverride_0 : decode b_M_linkOverride 0 = .ok (.aload_n 0, 1) := by decide +kernel
theorem d_M_linkOverride_1 : decode b_M_linkOverride 1 = .ok (.iconst 1, 1) := by decide +kernel
theorem d_M_linkOverride_2 : decode b_M_linkOverride 2 = .ok (.iload_n 1, 1) := by decide +kernel
theorem d_M_linkOverride_3 : decode b_M_linkOverride 3 = .ok (.iload_n 2, 1) := by decide +kernel
theorem d_M_linkOverride_4 : decode b_M_linkOverride 4 = .ok (.aload_n 0, 1) := by decide +kernel
theorem d_M_linkOverride_5 : decode b_M_linkOverride 5 = .ok (.getfield 41, 3) := by decide +kernel
theorem d_M_linkOverride_8 : decode b_M_linkOverride 8 = .ok (.iconst 1, 1) := by decide +kernel
theorem d_M_linkOverride_9 : decode b_M_linkOverride 9 = .ok (.iaload, 1) := by decide +kernel
theorem d_M_linkOverride_10 : decode b_M_linkOverride 10 = .ok (.iconst (-1), 1) := by decide +kernel
theorem d_M_linkOverride_11 : decode b_M_linkOverride 11 = .ok (.invokevirtual 77, 3) := by decide +kernel
theorem d_M_linkOverride_14 : decode b_M_linkOverride 14 = .ok (.istore_n 3, 1) := by decide +kernel
theorem d_M_linkOverride_15 : decode b_M_linkOverride 15 = .ok (.iload_n 3, 1) := by decide +kernel
theorem d_M_linkOverride_16 : decode b_M_linkOverride 16 = .ok (.ifCond .lt 19, 3) := by decide +kernel
theorem d_M_linkOverride_19 : decode b_M_linkOverride 19 = .ok (.aload_n 0, 1) := by decide +kernel
theorem d_M_linkOverride_20 : decode b_M_linkOverride 20 = .ok (.getfield 35, 3) := by decide +kernel
theorem d_M_linkOverride_23 : decode b_M_linkOverride 23 = .ok (.iload_n 3, 1) := by decide +kernel
theorem d_M_linkOverride_24 : decode b_M_linkOverride 24 = .ok (.iaload, 1) := by decide +kernel
theorem d_M_linkOverride_25 : decode b_M_linkOverride 25 = .ok (.bipush 8, 2) := by decide +kernel
theorem d_M_linkOverride_27 : decode b_M_linkOverride 27 = .ok (.iand, 1) := by decide +kernel
theorem d_M_linkOverride_28 : decode b_M_linkOverride 28 = .ok (.ifCond .ne 7, 3) := by decide +kernel
theorem d_M_linkOverride_31 : decode b_M_linkOverride 31 = .ok (.iconst 1, 1) := by decide +kernel
theorem d_M_linkOverride_32 : decode b_M_linkOverride 32 = .ok (.goto 4, 3) := by decide +kernel
theorem d_M_linkOverride_35 : decode b_M_linkOverride 35 = .ok (.iconst 0, 1) := by decide +kernel
theorem d_M_linkOverride_36 : decode b_M_linkOverride 36 = .ok (.istore 4, 2) := by decide +kernel
theorem d_M_linkOverride_38 : decode b_M_linkOverride 38 = .ok (.iload 4, 2) := by decide +kernel
theorem d_M_linkOverride_40 : decode b_M_linkOverride 40 = .ok (.ifCond .eq 17, 3) := by decide +kernel
theorem d_M_linkOverride_43 : decode b_M_linkOverride 43 = .ok (.aload_n 0, 1) := by decide +kernel
theorem d_M_linkOverride_44 : decode b_M_linkOverride 44 = .ok (.getfield 35, 3) := by decide +kernel
theorem d_M_linkOverride_47 : decode b_M_linkOverride 47 = .ok (.iload_n 3, 1) := by decide +kernel
theorem d_M_linkOverride_48 : decode b_M_linkOverride 48 = .ok (.iaload, 1) := by decide +kernel
theorem d_M_linkOverride_49 : decode b_M_linkOverride 49 = .ok (.iconst 5, 1) := by decide +kernel
theorem d_M_linkOverride_50 : decode b_M_linkOverride 50 = .ok (.iand, 1) := by decide +kernel
theorem d_M_linkOverride_51 : decode b_M_linkOverride 51 = .ok (.ifCond .eq 6, 3) := by decide +kernel
theorem d_M_linkOverride_54 : decode b_M_linkOverride 54 = .ok (.bipush (-9), 2) := by decide +kernel
theorem d_M_linkOverride_56 : decode b_M_linkOverride 56 = .ok (.ireturn, 1) := by decide +kernel
theorem d_M_linkOverride_57 : decode b_M_linkOverride 57 = .ok (.iload 4, 2) := by decide +kernel
theorem d_M_linkOverride_59 : decode b_M_linkOverride 59 = .ok (.ifCond .eq 22, 3) := by decide +kernel
theorem d_M_linkOverride_62 : decode b_M_linkOverride 62 = .ok (.aload_n 0, 1) := by decide +kernel
theorem d_M_linkOverride_63 : decode b_M_linkOverride 63 = .ok (.getfield 32, 3) := by decide +kernel
theorem d_M_linkOverride_66 : decode b_M_linkOverride 66 = .ok (.iload_n 3, 1) := by decide +kernel
theorem d_M_linkOverride_67 : decode b_M_linkOverride 67 = .ok (.iaload, 1) := by decide +kernel
theorem d_M_linkOverride_68 : decode b_M_linkOverride 68 = .ok (.aload_n 0, 1) := by decide +kernel
theorem d_M_linkOverride_69 : decode b_M_linkOverride 69 = .ok (.getfield 41, 3) := by decide +kernel
theorem d_M_linkOverride_72 : decode b_M_linkOverride 72 = .ok (.iconst 2, 1) := by decide +kernel
theorem d_M_linkOverride_73 : decode b_M_linkOverride 73 = .ok (.iaload, 1) := by decide +kernel
theorem d_M_linkOverride_74 : decode b_M_linkOverride 74 = .ok (.if_icmp .ne 7, 3) := by decide +kernel
theorem d_M_linkOverride_77 : decode b_M_linkOverride 77 = .ok (.iconst 0, 1) := by decide +kernel
theorem d_M_linkOverride_78 : decode b_M_linkOverride 78 = .ok (.goto 4, 3) := by decide +kernel
theorem d_M_linkOverride_81 : decode b_M_linkOverride 81 = .ok (.iconst 3, 1) := by decide +kernel
theorem d_M_linkOverride_82 : decode b_M_linkOverride 82 = .ok (.ireturn, 1) := by decide +kernel
theorem d_M_linked_0 : decode b_M_linked 0 = .ok (.aload_n 0, 1) := by decide +kernel
theorem d_M_linked_1 : decode b_M_linked 1 = .ok (.iload_n 1, 1) := by decide +kernel
theorem d_M_linked_2 : decode b_M_linked 2 = .ok (.iconst 0, 1) := by decide +kernel
theorem d_M_linked_3 : decode b_M_linked 3 = .ok (.invokevirtual 94, 3) := by decide +kernel
theorem d_M_linked_6 : decode b_M_linked 6 = .ok (.istore_n 2, 1) := by decide +kernel
theorem d_M_linked_7 : decode b_M_linked 7 = .ok (.aload_n 0, 1) := by decide +kernel
theorem d_M_linked_8 : decode b_M_linked 8 = .ok (.getfield 38, 3) := by decide +kernel
theorem d_M_linked_11 : decode b_M_linked 11 = .ok (.iconst 4, 1) := by decide +kernel
theorem d_M_linked_12 : decode b_M_linked 12 = .ok (.iload_n 1, 1) := by decide +kernel
theorem d_M_linked_13 : decode b_M_linked 13 = .ok (.imul, 1) := by decide +kernel
theorem d_M_linked_14 : decode b_M_linked 14 = .ok (.iaload, 1) := by decide +kernel
theorem d_M_linked_15 : decode b_M_linked 15 = .ok (.istore_n 3, 1) := by decide +kernel
theorem d_M_linked_16 : decode b_M_linked 16 = .ok (.aload_n 0, 1) := by decide +kernel
theorem d_M_linked_17 : decode b_M_linked 17 = .ok (.getfield 38, 3) := by decide +kernel
theorem d_M_linked_20 : decode b_M_linked 20 = .ok (.iconst 4, 1) := by decide +kernel
theorem d_M_linked_21 : decode b_M_linked 21 = .ok (.iload_n 1, 1) := by decide +kernel
theorem d_M_linked_22 : decode b_M_linked 22 = .ok (.imul, 1) := by decide +kernel
theorem d_M_linked_23 : decode b_M_linked 23 = .ok (.iconst 1, 1) := by decide +kernel
theorem d_M_linked_24 : decode b_M_linked 24 = .ok (.iadd, 1) := by decide +kernel
theorem d_M_linked_25 : decode b_M_linked 25 = .ok (.iaload, 1) := by decide +kernel
theorem d_M_linked_26 : decode b_M_linked 26 = .ok (.istore 4, 2) := by decide +kernel
theorem d_M_linked_28 : decode b_M_linked 28 = .ok (.aload_n 0, 1) := by decide +kernel
theorem d_M_linked_29 : decode b_M_linked 29 = .ok (.getfield 38, 3) := by decide +kernel
theorem d_M_linked_32 : decode b_M_linked 32 = .ok (.iconst 4, 1) := by decide +kernel
theorem d_M_linked_33 : decode b_M_linked 33 = .ok (.iload_n 1, 1) := by decide +kernel
theorem d_M_linked_34 : decode b_M_linked 34 = .ok (.imul, 1) := by decide +kernel
theorem d_M_linked_35 : decode b_M_linked 35 = .ok (.iconst 2, 1) := by decide +kernel
theorem d_M_linked_36 : decode b_M_linked 36 = .ok (.iadd, 1) := by decide +kernel
theorem d_M_linked_37 : decode b_M_linked 37 = .ok (.iaload, 1) := by decide +kernel
theorem d_M_linked_38 : decode b_M_linked 38 = .ok (.istore 5, 2) := by decide +kernel
theorem d_M_linked_40 : decode b_M_linked 40 = .ok (.iload_n 2, 1) := by decide +kernel
theorem d_M_linked_41 : decode b_M_linked 41 = .ok (.ifCond .eq 5, 3) := by decide +kernel
theorem d_M_linked_44 : decode b_M_linked 44 = .ok (.iload_n 2, 1) := by decide +kernel
theorem d_M_linked_45 : decode b_M_linked 45 = .ok (.ireturn, 1) := by decide +kernel
theorem d_M_linked_46 : decode b_M_linked 46 = .ok (.aload_n 0, 1) := by decide +kernel
theorem d_M_linked_47 : decode b_M_linked 47 = .ok (.getfield 41, 3) := by decide +kernel
theorem d_M_linked_50 : decode b_M_linked 50 = .ok (.iconst 0, 1) := by decide +kernel
theorem d_M_linked_51 : decode b_M_linked 51 = .ok (.iaload, 1) := by decide +kernel
theorem d_M_linked_52 : decode b_M_linked 52 = .ok (.iconst 1, 1) := by decide +kernel
theorem d_M_linked_53 : decode b_M_linked 53 = .ok (.if_icmp .ne 12, 3) := by decide +kernel
theorem d_M_linked_56 : decode b_M_linked 56 = .ok (.aload_n 0, 1) := by decide +kernel
theorem d_M_linked_57 : decode b_M_linked 57 = .ok (.iload 4, 2) := by decide +kernel
theorem d_M_linked_59 : decode b_M_linked 59 = .ok (.iload 5, 2) := by decide +kernel
theorem d_M_linked_61 : decode b_M_linked 61 = .ok (.invokevirtual 97, 3) := by decide +kernel
theorem d_M_linked_64 : decode b_M_linked 64 = .ok (.ireturn, 1) := by decide +kernel
theorem d_M_linked_65 : decode b_M_linked 65 = .ok (.aload_n 0, 1) := by decide +kernel
theorem d_M_linked_66 : decode b_M_linked 66 = .ok (.getfield 7, 3) := by decide +kernel
theorem d_M_linked_69 : decode b_M_linked 69 = .ok (.bipush 6, 2) := by decide +kernel
theorem d_M_linked_71 : decode b_M_linked 71 = .ok (.iload 4, 2) := by decide +kernel
theorem d_M_linked_73 : decode b_M_linked 73 = .ok (.iadd, 1) := by decide +kernel
theorem d_M_linked_74 : decode b_M_linked 74 = .ok (.baload, 1) := by decide +kernel
theorem d_M_linked_75 : decode b_M_linked 75 = .ok (.ifCond .ne 6, 3) := by decide +kernel
theorem d_M_linked_78 : decode b_M_linked 78 = .ok (.bipush (-6), 2) := by decide +kernel
theorem d_M_linked_80 : decode b_M_linked 80 = .ok (.ireturn, 1) := by decide +kernel
theorem d_M_linked_81 : decode b_M_linked 81 = .ok (.aload_n 0, 1) := by decide +kernel
theorem d_M_linked_82 : decode b_M_linked 82 = .ok (.getfield 13, 3) := by decide +kernel
theorem d_M_linked_85 : decode b_M_linked 85 = .ok (.bipush 6, 2) := by decide +kernel
theorem d_M_linked_87 : decode b_M_linked 87 = .ok (.iload 4, 2) := by decide +kernel
theorem d_M_linked_89 : decode b_M_linked 89 = .ok (.iadd, 1) := by decide +kernel
theorem d_M_linked_90 : decode b_M_linked 90 = .ok (.iaload, 1) := by decide +kernel
theorem d_M_linked_91 : decode b_M_linked 91 = .ok (.istore 6, 2) := by decide +kernel
theorem d_M_linked_93 : decode b_M_linked 93 = .ok (.iload 6, 2) := by decide +kernel
theorem d_M_linked_95 : decode b_M_linked 95 = .ok (.bipush 8, 2) := by decide +kernel
theorem d_M_linked_97 : decode b_M_linked 97 = .ok (.iand, 1) := by decide +kernel
theorem d_M_linked_98 : decode b_M_linked 98 = .ok (.ifCond .eq 6, 3) := by decide +kernel
theorem d_M_linked_101 : decode b_M_linked 101 = .ok (.bipush (-8), 2) := by decide +kernel
theorem d_M_linked_103 : decode b_M_linked 103 = .ok (.ireturn, 1) := by decide +kernel
theorem d_M_linked_104 : decode b_M_linked 104 = .ok (.iload_n 3, 1) := by decide +kernel
theorem d_M_linked_105 : decode b_M_linked 105 = .ok (.iconst 2, 1) := by decide +kernel
theorem d_M_linked_106 : decode b_M_linked 106 = .ok (.if_icmp .ge 13, 3) := by decide +kernel
theorem d_M_linked_109 : decode b_M_linked 109 = .ok (.aload_n 0, 1) := by decide +kernel
theorem d_M_linked_110 : decode b_M_linked 110 = .ok (.iload_n 3, 1) := by decide +kernel
theorem d_M_linked_111 : decode b_M_linked 111 = .ok (.iload 4, 2) := by decide +kernel
theorem d_M_linked_113 : decode b_M_linked 113 = .ok (.iload 5, 2) := by decide +kernel
theorem d_M_linked_115 : decode b_M_linked 115 = .ok (.invokevirtual 100, 3) := by decide +kernel
theorem d_M_linked_118 : decode b_M_linked 118 = .ok (.ireturn, 1) := by decide +kernel
theorem d_M_linked_119 : decode b_M_linked 119 = .ok (.iload_n 3, 1) := by decide +kernel
theorem d_M_linked_120 : decode b_M_linked 120 = .ok (.iconst 4, 1) := by decide +kernel
theorem d_M_linked_121 : decode b_M_linked 121 = .ok (.if_icmp .ge 12, 3) := by decide +kernel
theorem d_M_linked_124 : decode b_M_linked 124 = .ok (.aload_n 0, 1) := by decide +kernel
