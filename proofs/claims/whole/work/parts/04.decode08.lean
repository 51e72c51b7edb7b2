theorem d_O_supertypesOf_0 : decode b_O_supertypesOf 0 = .ok (.iconst 1, 1) := by decide +kernel
theorem d_O_supertypesOf_1 : decode b_O_supertypesOf 1 = .ok (.iload_n 1, 1) := by decide +kernel
theorem d_O_supertypesOf_2 : decode b_O_supertypesOf 2 = .ok (.ishl, 1) := by decide +kernel
theorem d_O_supertypesOf_3 : decode b_O_supertypesOf 3 = .ok (.istore_n 2, 1) := by decide +kernel
theorem d_O_supertypesOf_4 : decode b_O_supertypesOf 4 = .ok (.iload_n 1, 1) := by decide +kernel
theorem d_O_supertypesOf_5 : decode b_O_supertypesOf 5 = .ok (.istore_n 3, 1) := by decide +kernel
theorem d_O_supertypesOf_6 : decode b_O_supertypesOf 6 = .ok (.iload_n 3, 1) := by decide +kernel
theorem d_O_supertypesOf_7 : decode b_O_supertypesOf 7 = .ok (.ifCond .lt 48, 3) := by decide +kernel
theorem d_O_supertypesOf_10 : decode b_O_supertypesOf 10 = .ok (.iload_n 2, 1) := by decide +kernel
theorem d_O_supertypesOf_11 : decode b_O_supertypesOf 11 = .ok (.iload_n 3, 1) := by decide +kernel
theorem d_O_supertypesOf_12 : decode b_O_supertypesOf 12 = .ok (.invokestatic 47, 3) := by decide +kernel
theorem d_O_supertypesOf_15 : decode b_O_supertypesOf 15 = .ok (.ifCond .eq 34, 3) := by decide +kernel
theorem d_O_supertypesOf_18 : decode b_O_supertypesOf 18 = .ok (.iload_n 2, 1) := by decide +kernel
theorem d_O_supertypesOf_19 : decode b_O_supertypesOf 19 = .ok (.aload_n 0, 1) := by decide +kernel
theorem d_O_supertypesOf_20 : decode b_O_supertypesOf 20 = .ok (.getfield 18, 3) := by decide +kernel
theorem d_O_supertypesOf_23 : decode b_O_supertypesOf 23 = .ok (.iload_n 3, 1) := by decide +kernel
theorem d_O_supertypesOf_24 : decode b_O_supertypesOf 24 = .ok (.iaload, 1) := by decide +kernel
theorem d_O_supertypesOf_25 : decode b_O_supertypesOf 25 = .ok (.ior, 1) := by decide +kernel
theorem d_O_supertypesOf_26 : decode b_O_supertypesOf 26 = .ok (.istore_n 2, 1) := by decide +kernel
theorem d_O_supertypesOf_27 : decode b_O_supertypesOf 27 = .ok (.aload_n 0, 1) := by decide +kernel
theorem d_O_supertypesOf_28 : decode b_O_supertypesOf 28 = .ok (.getfield 15, 3) := by decide +kernel
theorem d_O_supertypesOf_31 : decode b_O_supertypesOf 31 = .ok (.iload_n 3, 1) := by decide +kernel
theorem d_O_supertypesOf_32 : decode b_O_supertypesOf 32 = .ok (.iaload, 1) := by decide +kernel
theorem d_O_supertypesOf_33 : decode b_O_supertypesOf 33 = .ok (.bipush 6, 2) := by decide +kernel
theorem d_O_supertypesOf_35 : decode b_O_supertypesOf 35 = .ok (.if_icmp .eq 14, 3) := by decide +kernel
theorem d_O_supertypesOf_38 : decode b_O_supertypesOf 38 = .ok (.iload_n 2, 1) := by decide +kernel
theorem d_O_supertypesOf_39 : decode b_O_supertypesOf 39 = .ok (.iconst 1, 1) := by decide +kernel
theorem d_O_supertypesOf_40 : decode b_O_supertypesOf 40 = .ok (.aload_n 0, 1) := by decide +kernel
theorem d_O_supertypesOf_41 : decode b_O_supertypesOf 41 = .ok (.getfield 15, 3) := by decide +kernel
theorem d_O_supertypesOf_44 : decode b_O_supertypesOf 44 = .ok (.iload_n 3, 1) := by decide +kernel
theorem d_O_supertypesOf_45 : decode b_O_supertypesOf 45 = .ok (.iaload, 1) := by decide +kernel
theorem d_O_supertypesOf_46 : decode b_O_supertypesOf 46 = .ok (.ishl, 1) := by decide +kernel
theorem d_O_supertypesOf_47 : decode b_O_supertypesOf 47 = .ok (.ior, 1) := by decide +kernel
theorem d_O_supertypesOf_48 : decode b_O_supertypesOf 48 = .ok (.istore_n 2, 1) := by decide +kernel
theorem d_O_supertypesOf_49 : decode b_O_supertypesOf 49 = .ok (.iinc 3 (-1), 3) := by decide +kernel
theorem d_O_supertypesOf_52 : decode b_O_supertypesOf 52 = .ok (.goto (-46), 3) := by decide +kernel
theorem d_O_supertypesOf_55 : decode b_O_supertypesOf 55 = .ok (.iload_n 2, 1) := by decide +kernel
theorem d_O_supertypesOf_56 : decode b_O_supertypesOf 56 = .ok (.ireturn, 1) := by decide +kernel
theorem d_O_findField_0 : decode b_O_findField 0 = .ok (.aload_n 0, 1) := by decide +kernel
theorem d_O_findField_1 : decode b_O_findField 1 = .ok (.iload_n 1, 1) := by decide +kernel
theorem d_O_findField_2 : decode b_O_findField 2 = .ok (.iload_n 2, 1) := by decide +kernel
theorem d_O_findField_3 : decode b_O_findField 3 = .ok (.iload_n 3, 1) := by decide +kernel
theorem d_O_findField_4 : decode b_O_findField 4 = .ok (.iconst 0, 1) := by decide +kernel
theorem d_O_findField_5 : decode b_O_findField 5 = .ok (.invokevirtual 60, 3) := by decide +kernel
theorem d_O_findField_8 : decode b_O_findField 8 = .ok (.ireturn, 1) := by decide +kernel
theorem d_O_findFieldFrom_0 : decode b_O_findFieldFrom 0 = .ok (.iload 4, 2) := by decide +kernel
theorem d_O_findFieldFrom_2 : decode b_O_findFieldFrom 2 = .ok (.bipush 6, 2) := by decide +kernel
theorem d_O_findFieldFrom_4 : decode b_O_findFieldFrom 4 = .ok (.if_icmp .lt 5, 3) := by decide +kernel
theorem d_O_findFieldFrom_7 : decode b_O_findFieldFrom 7 = .ok (.iconst (-1), 1) := by decide +kernel
theorem d_O_findFieldFrom_8 : decode b_O_findFieldFrom 8 = .ok (.ireturn, 1) := by decide +kernel
theorem d_O_findFieldFrom_9 : decode b_O_findFieldFrom 9 = .ok (.iload_n 1, 1) := by decide +kernel
theorem d_O_findFieldFrom_10 : decode b_O_findFieldFrom 10 = .ok (.iconst 4, 1) := by decide +kernel
theorem d_O_findFieldFrom_11 : decode b_O_findFieldFrom 11 = .ok (.imul, 1) := by decide +kernel
theorem d_O_findFieldFrom_12 : decode b_O_findFieldFrom 12 = .ok (.iload_n 2, 1) := by decide +kernel
theorem d_O_findFieldFrom_13 : decode b_O_findFieldFrom 13 = .ok (.iadd, 1) := by decide +kernel
theorem d_O_findFieldFrom_14 : decode b_O_findFieldFrom 14 = .ok (.istore 5, 2) := by decide +kernel
theorem d_O_findFieldFrom_16 : decode b_O_findFieldFrom 16 = .ok (.aload_n 0, 1) := by decide +kernel
theorem d_O_findFieldFrom_17 : decode b_O_findFieldFrom 17 = .ok (.getfield 21, 3) := by decide +kernel
theorem d_O_findFieldFrom_20 : decode b_O_findFieldFrom 20 = .ok (.iload 5, 2) := by decide +kernel
theorem d_O_findFieldFrom_22 : decode b_O_findFieldFrom 22 = .ok (.iaload, 1) := by decide +kernel
theorem d_O_findFieldFrom_23 : decode b_O_findFieldFrom 23 = .ok (.iconst (-1), 1) := by decide +kernel
theorem d_O_findFieldFrom_24 : decode b_O_findFieldFrom 24 = .ok (.if_icmp .eq 22, 3) := by decide +kernel
theorem d_O_findFieldFrom_27 : decode b_O_findFieldFrom 27 = .ok (.iload_n 3, 1) := by decide +kernel
theorem d_O_findFieldFrom_28 : decode b_O_findFieldFrom 28 = .ok (.iconst (-1), 1) := by decide +kernel
theorem d_O_findFieldFrom_29 : decode b_O_findFieldFrom 29 = .ok (.if_icmp .eq 14, 3) := by decide +kernel
theorem d_O_findFieldFrom_32 : decode b_O_findFieldFrom 32 = .ok (.aload_n 0, 1) := by decide +kernel
theorem d_O_findFieldFrom_33 : decode b_O_findFieldFrom 33 = .ok (.getfield 24, 3) := by decide +kernel
theorem d_O_findFieldFrom_36 : decode b_O_findFieldFrom 36 = .ok (.iload 5, 2) := by decide +kernel
theorem d_O_findFieldFrom_38 : decode b_O_findFieldFrom 38 = .ok (.iaload, 1) := by decide +kernel
theorem d_O_findFieldFrom_39 : decode b_O_findFieldFrom 39 = .ok (.iload_n 3, 1) := by decide +kernel
theorem d_O_findFieldFrom_40 : decode b_O_findFieldFrom 40 = .ok (.if_icmp .ne 6, 3) := by decide +kernel
theorem d_O_findFieldFrom_43 : decode b_O_findFieldFrom 43 = .ok (.iload 5, 2) := by decide +kernel
theorem d_O_findFieldFrom_45 : decode b_O_findFieldFrom 45 = .ok (.ireturn, 1) := by decide +kernel
theorem d_O_findFieldFrom_46 : decode b_O_findFieldFrom 46 = .ok (.iconst 0, 1) := by decide +kernel
theorem d_O_findFieldFrom_47 : decode b_O_findFieldFrom 47 = .ok (.istore 6, 2) := by decide +kernel
theorem d_O_findFieldFrom_49 : decode b_O_findFieldFrom 49 = .ok (.iload 6, 2) := by decide +kernel
theorem d_O_findFieldFrom_51 : decode b_O_findFieldFrom 51 = .ok (.iload_n 1, 1) := by decide +kernel
theorem d_O_findFieldFrom_52 : decode b_O_findFieldFrom 52 = .ok (.if_icmp .ge 46, 3) := by decide +kernel
theorem d_O_findFieldFrom_55 : decode b_O_findFieldFrom 55 = .ok (.aload_n 0, 1) := by decide +kernel
theorem d_O_findFieldFrom_56 : decode b_O_findFieldFrom 56 = .ok (.getfield 18, 3) := by decide +kernel
theorem d_O_findFieldFrom_59 : decode b_O_findFieldFrom 59 = .ok (.iload_n 1, 1) := by decide +kernel
theorem d_O_findFieldFrom_60 : decode b_O_findFieldFrom 60 = .ok (.iaload, 1) := by decide +kernel
theorem d_O_findFieldFrom_61 : decode b_O_findFieldFrom 61 = .ok (.iload 6, 2) := by decide +kernel
theorem d_O_findFieldFrom_63 : decode b_O_findFieldFrom 63 = .ok (.invokestatic 47, 3) := by decide +kernel
theorem d_O_findFieldFrom_66 : decode b_O_findFieldFrom 66 = .ok (.ifCond .eq 26, 3) := by decide +kernel
theorem d_O_findFieldFrom_69 : decode b_O_findFieldFrom 69 = .ok (.aload_n 0, 1) := by decide +kernel
theorem d_O_findFieldFrom_70 : decode b_O_findFieldFrom 70 = .ok (.iload 6, 2) := by decide +kernel
theorem d_O_findFieldFrom_72 : decode b_O_findFieldFrom 72 = .ok (.iload_n 2, 1) := by decide +kernel
theorem d_O_findFieldFrom_73 : decode b_O_findFieldFrom 73 = .ok (.iload_n 3, 1) := by decide +kernel
theorem d_O_findFieldFrom_74 : decode b_O_findFieldFrom 74 = .ok (.iload 4, 2) := by decide +kernel
theorem d_O_findFieldFrom_76 : decode b_O_findFieldFrom 76 = .ok (.iconst 1, 1) := by decide +kernel
theorem d_O_findFieldFrom_77 : decode b_O_findFieldFrom 77 = .ok (.iadd, 1) := by decide +kernel
theorem d_O_findFieldFrom_78 : decode b_O_findFieldFrom 78 = .ok (.invokevirtual 60, 3) := by decide +kernel
theorem d_O_findFieldFrom_81 : decode b_O_findFieldFrom 81 = .ok (.istore 7, 2) := by decide +kernel
theorem d_O_findFieldFrom_83 : decode b_O_findFieldFrom 83 = .ok (.iload 7, 2) := by decide +kernel
theorem d_O_findFieldFrom_85 : decode b_O_findFieldFrom 85 = .ok (.iconst (-1), 1) := by decide +kernel
theorem d_O_findFieldFrom_86 : decode b_O_findFieldFrom 86 = .ok (.if_icmp .eq 6, 3) := by decide +kernel
theorem d_O_findFieldFrom_89 : decode b_O_findFieldFrom 89 = .ok (.iload 7, 2) := by decide +kernel
theorem d_O_findFieldFrom_91 : decode b_O_findFieldFrom 91 = .ok (.ireturn, 1) := by decide +kernel
theorem d_O_findFieldFrom_92 : decode b_O_findFieldFrom 92 = .ok (.iinc 6 1, 3) := by decide +kernel
theorem d_O_findFieldFrom_95 : decode b_O_findFieldFrom 95 = .ok (.goto (-46), 3) := by decide +kernel
theorem d_O_findFieldFrom_98 : decode b_O_findFieldFrom 98 = .ok (.aload_n 0, 1) := by decide +kernel
theorem d_O_findFieldFrom_99 : decode b_O_findFieldFrom 99 = .ok (.getfield 15, 3) := by decide +kernel
theorem d_O_findFieldFrom_102 : decode b_O_findFieldFrom 102 = .ok (.iload_n 1, 1) := by decide +kernel
theorem d_O_findFieldFrom_103 : decode b_O_findFieldFrom 103 = .ok (.iaload, 1) := by decide +kernel
theorem d_O_findFieldFrom_104 : decode b_O_findFieldFrom 104 = .ok (.bipush 6, 2) := by decide +kernel
theorem d_O_findFieldFrom_106 : decode b_O_findFieldFrom 106 = .ok (.if_icmp .ne 5, 3) := by decide +kernel
theorem d_O_findFieldFrom_109 : decode b_O_findFieldFrom 109 = .ok (.iconst (-1), 1) := by decide +kernel
theorem d_O_findFieldFrom_110 : decode b_O_findFieldFrom 110 = .ok (.ireturn, 1) := by decide +kernel
theorem d_O_findFieldFrom_111 : decode b_O_findFieldFrom 111 = .ok (.aload_n 0, 1) := by decide +kernel
theorem d_O_findFieldFrom_112 : decode b_O_findFieldFrom 112 = .ok (.aload_n 0, 1) := by decide +kernel
theorem d_O_findFieldFrom_113 : decode b_O_findFieldFrom 113 = .ok (.getfield 15, 3) := by decide +kernel
theorem d_O_findFieldFrom_116 : decode b_O_findFieldFrom 116 = .ok (.iload_n 1, 1) := by decide +kernel
theorem d_O_findFieldFrom_117 : decode b_O_findFieldFrom 117 = .ok (.iaload, 1) := by decide +kernel
theorem d_O_findFieldFrom_118 : decode b_O_findFieldFrom 118 = .ok (.iload_n 2, 1) := by decide +kernel
theorem d_O_findFieldFrom_119 : decode b_O_findFieldFrom 119 = .ok (.iload_n 3, 1) := by decide +kernel
theorem d_O_findFieldFrom_120 : decode b_O_findFieldFrom 120 = .ok (.iload 4, 2) := by decide +kernel
theorem d_O_findFieldFrom_122 : decode b_O_findFieldFrom 122 = .ok (.iconst 1, 1) := by decide +kernel
theorem d_O_findFieldFrom_123 : decode b_O_findFieldFrom 123 = .ok (.iadd, 1) := by decide +kernel
theorem d_O_findFieldFrom_124 : decode b_O_findFieldFrom 124 = .ok (.invokevirtual 60, 3) := by decide +kernel
theorem d_O_findFieldFrom_127 : decode b_O_findFieldFrom 127 = .ok (.ireturn, 1) := by decide +kernel
theorem d_O_findMethod_0 : decode b_O_findMethod 0 = .ok (.iload_n 1, 1) := by decide +kernel
theorem d_O_findMethod_1 : decode b_O_findMethod 1 = .ok (.istore 5, 2) := by decide +kernel
theorem d_O_findMethod_3 : decode b_O_findMethod 3 = .ok (.iconst 0, 1) := by decide +kernel
theorem d_O_findMethod_4 : decode b_O_findMethod 4 = .ok (.istore 6, 2) := by decide +kernel
theorem d_O_findMethod_6 : decode b_O_findMethod 6 = .ok (.iload 6, 2) := by decide +kernel
theorem d_O_findMethod_8 : decode b_O_findMethod 8 = .ok (.bipush 6, 2) := by decide +kernel
theorem d_O_findMethod_10 : decode b_O_findMethod 10 = .ok (.if_icmp .ge 48, 3) := by decide +kernel
theorem d_O_findMethod_13 : decode b_O_findMethod 13 = .ok (.iload 5, 2) := by decide +kernel
theorem d_O_findMethod_15 : decode b_O_findMethod 15 = .ok (.bipush 6, 2) := by decide +kernel
theorem d_O_findMethod_17 : decode b_O_findMethod 17 = .ok (.if_icmp .eq 41, 3) := by decide +kernel
theorem d_O_findMethod_20 : decode b_O_findMethod 20 = .ok (.iload 5, 2) := by decide +kernel
theorem d_O_findMethod_22 : decode b_O_findMethod 22 = .ok (.iload_n 2, 1) := by decide +kernel
theorem d_O_findMethod_23 : decode b_O_findMethod 23 = .ok (.iload_n 3, 1) := by decide +kernel
theorem d_O_findMethod_24 : decode b_O_findMethod 24 = .ok (.invokestatic 64, 3) := by decide +kernel
theorem d_O_findMethod_27 : decode b_O_findMethod 27 = .ok (.istore 7, 2) := by decide +kernel
theorem d_O_findMethod_29 : decode b_O_findMethod 29 = .ok (.aload_n 0, 1) := by decide +kernel
theorem d_O_findMethod_30 : decode b_O_findMethod 30 = .ok (.iload 7, 2) := by decide +kernel
theorem d_O_findMethod_32 : decode b_O_findMethod 32 = .ok (.iload 4, 2) := by decide +kernel
theorem d_O_findMethod_34 : decode b_O_findMethod 34 = .ok (.invokevirtual 68, 3) := by decide +kernel
theorem d_O_findMethod_37 : decode b_O_findMethod 37 = .ok (.ifCond .eq 6, 3) := by decide +kernel
theorem d_O_findMethod_40 : decode b_O_findMethod 40 = .ok (.iload 7, 2) := by decide +kernel
theorem d_O_findMethod_42 : decode b_O_findMethod 42 = .ok (.ireturn, 1) := by decide +kernel
theorem d_O_findMethod_43 : decode b_O_findMethod 43 = .ok (.aload_n 0, 1) := by decide +kernel
theorem d_O_findMethod_44 : decode b_O_findMethod 44 = .ok (.getfield 15, 3) := by decide +kernel
theorem d_O_findMethod_47 : decode b_O_findMethod 47 = .ok (.iload 5, 2) := by decide +kernel
theorem d_O_findMethod_49 : decode b_O_findMethod 49 = .ok (.iaload, 1) := by decide +kernel
theorem d_O_findMethod_50 : decode b_O_findMethod 50 = .ok (.istore 5, 2) := by decide +kernel
theorem d_O_findMethod_52 : decode b_O_findMethod 52 = .ok (.iinc 6 1, 3) := by decide +kernel
theorem d_O_findMethod_55 : decode b_O_findMethod 55 = .ok (.goto (-49), 3) := by decide +kernel
theorem d_O_findMethod_58 : decode b_O_findMethod 58 = .ok (.aload_n 0, 1) := by decide +kernel
theorem d_O_findMethod_59 : decode b_O_findMethod 59 = .ok (.iload_n 1, 1) := by decide +kernel
theorem d_O_findMethod_60 : decode b_O_findMethod 60 = .ok (.invokevirtual 71, 3) := by decide +kernel
theorem d_O_findMethod_63 : decode b_O_findMethod 63 = .ok (.istore 6, 2) := by decide +kernel
theorem d_O_findMethod_65 : decode b_O_findMethod 65 = .ok (.iconst 5, 1) := by decide +kernel
theorem d_O_findMethod_66 : decode b_O_findMethod 66 = .ok (.istore 7, 2) := by decide +kernel
theorem d_O_findMethod_68 : decode b_O_findMethod 68 = .ok (.iload 7, 2) := by decide +kernel
theorem d_O_findMethod_70 : decode b_O_findMethod 70 = .ok (.ifCond .lt 51, 3) := by decide +kernel
theorem d_O_findMethod_73 : decode b_O_findMethod 73 = .ok (.iload 7, 2) := by decide +kernel
theorem d_O_findMethod_75 : decode b_O_findMethod 75 = .ok (.iload_n 2, 1) := by decide +kernel
theorem d_O_findMethod_76 : decode b_O_findMethod 76 = .ok (.iload_n 3, 1) := by decide +kernel
theorem d_O_findMethod_77 : decode b_O_findMethod 77 = .ok (.invokestatic 64, 3) := by decide +kernel
theorem d_O_findMethod_80 : decode b_O_findMethod 80 = .ok (.istore 8, 2) := by decide +kernel
theorem d_O_findMethod_82 : decode b_O_findMethod 82 = .ok (.iload 6, 2) := by decide +kernel
theorem d_O_findMethod_84 : decode b_O_findMethod 84 = .ok (.iload 7, 2) := by decide +kernel
theorem d_O_findMethod_86 : decode b_O_findMethod 86 = .ok (.invokestatic 47, 3) := by decide +kernel
theorem d_O_findMethod_89 : decode b_O_findMethod 89 = .ok (.ifCond .eq 26, 3) := by decide +kernel
theorem d_O_findMethod_92 : decode b_O_findMethod 92 = .ok (.aload_n 0, 1) := by decide +kernel
theorem d_O_findMethod_93 : decode b_O_findMethod 93 = .ok (.iload 7, 2) := by decide +kernel
theorem d_O_findMethod_95 : decode b_O_findMethod 95 = .ok (.invokevirtual 44, 3) := by decide +kernel
theorem d_O_findMethod_98 : decode b_O_findMethod 98 = .ok (.ifCond .eq 17, 3) := by decide +kernel
theorem d_O_findMethod_101 : decode b_O_findMethod 101 = .ok (.aload_n 0, 1) := by decide +kernel
theorem d_O_findMethod_102 : decode b_O_findMethod 102 = .ok (.iload 8, 2) := by decide +kernel
theorem d_O_findMethod_104 : decode b_O_findMethod 104 = .ok (.iload 4, 2) := by decide +kernel
theorem d_O_findMethod_106 : decode b_O_findMethod 106 = .ok (.invokevirtual 68, 3) := by decide +kernel
theorem d_O_findMethod_109 : decode b_O_findMethod 109 = .ok (.ifCond .eq 6, 3) := by decide +kernel
theorem d_O_findMethod_112 : decode b_O_findMethod 112 = .ok (.iload 8, 2) := by decide +kernel
theorem d_O_findMethod_114 : decode b_O_findMethod 114 = .ok (.ireturn, 1) := by decide +kernel
theorem d_O_findMethod_115 : decode b_O_findMethod 115 = .ok (.iinc 7 (-1), 3) := by decide +kernel
theorem d_O_findMethod_118 : decode b_O_findMethod 118 = .ok (.goto (-50), 3) := by decide +kernel
theorem d_O_findMethod_121 : decode b_O_findMethod 121 = .ok (.iconst (-1), 1) := by decide +kernel
theorem d_O_findMethod_122 : decode b_O_findMethod 122 = .ok (.ireturn, 1) := by decide +kernel
theorem d_O_isMethodAt_0 : decode b_O_isMethodAt 0 = .ok (.aload_n 0, 1) := by decide +kernel
theorem d_O_isMethodAt_1 : decode b_O_isMethodAt 1 = .ok (.getfield 30, 3) := by decide +kernel
theorem d_O_isMethodAt_4 : decode b_O_isMethodAt 4 = .ok (.iload_n 1, 1) := by decide +kernel
theorem d_O_isMethodAt_5 : decode b_O_isMethodAt 5 = .ok (.iaload, 1) := by decide +kernel
theorem d_O_isMethodAt_6 : decode b_O_isMethodAt 6 = .ok (.iconst (-1), 1) := by decide +kernel
theorem d_O_isMethodAt_7 : decode b_O_isMethodAt 7 = .ok (.if_icmp .eq 22, 3) := by decide +kernel
theorem d_O_isMethodAt_10 : decode b_O_isMethodAt 10 = .ok (.iload_n 2, 1) := by decide +kernel
theorem d_O_isMethodAt_11 : decode b_O_isMethodAt 11 = .ok (.iconst (-1), 1) := by decide +kernel
theorem d_O_isMethodAt_12 : decode b_O_isMethodAt 12 = .ok (.if_icmp .eq 13, 3) := by decide +kernel
theorem d_O_isMethodAt_15 : decode b_O_isMethodAt 15 = .ok (.aload_n 0, 1) := by decide +kernel
theorem d_O_isMethodAt_16 : decode b_O_isMethodAt 16 = .ok (.getfield 33, 3) := by decide +kernel
theorem d_O_isMethodAt_19 : decode b_O_isMethodAt 19 = .ok (.iload_n 1, 1) := by decide +kernel
theorem d_O_isMethodAt_20 : decode b_O_isMethodAt 20 = .ok (.iaload, 1) := by decide +kernel
theorem d_O_isMethodAt_21 : decode b_O_isMethodAt 21 = .ok (.iload_n 2, 1) := by decide +kernel
theorem d_O_isMethodAt_22 : decode b_O_isMethodAt 22 = .ok (.if_icmp .ne 7, 3) := by decide +kernel
theorem d_O_isMethodAt_25 : decode b_O_isMethodAt 25 = .ok (.iconst 1, 1) := by decide +kernel
theorem d_O_isMethodAt_26 : decode b_O_isMethodAt 26 = .ok (.goto 4, 3) := by decide +kernel
theorem d_O_isMethodAt_29 : decode b_O_isMethodAt 29 = .ok (.iconst 0, 1) := by decide +kernel
theorem d_O_isMethodAt_30 : decode b_O_isMethodAt 30 = .ok (.ireturn, 1) := by decide +kernel
theorem d_O_differencesFrom_0 : decode b_O_differencesFrom 0 = .ok (.iconst 0, 1) := by decide +kernel
theorem d_O_differencesFrom_1 : decode b_O_differencesFrom 1 = .ok (.istore_n 3, 1) := by decide +kernel
theorem d_O_differencesFrom_2 : decode b_O_differencesFrom 2 = .ok (.aload_n 0, 1) := by decide +kernel
theorem d_O_differencesFrom_3 : decode b_O_differencesFrom 3 = .ok (.getfield 9, 3) := by decide +kernel
theorem d_O_differencesFrom_6 : decode b_O_differencesFrom 6 = .ok (.iload_n 2, 1) := by decide +kernel
theorem d_O_differencesFrom_7 : decode b_O_differencesFrom 7 = .ok (.iaload, 1) := by decide +kernel
theorem d_O_differencesFrom_8 : decode b_O_differencesFrom 8 = .ok (.aload_n 1, 1) := by decide +kernel
theorem d_O_differencesFrom_9 : decode b_O_differencesFrom 9 = .ok (.getfield 9, 3) := by decide +kernel
theorem d_O_differencesFrom_12 : decode b_O_differencesFrom 12 = .ok (.iload_n 2, 1) := by decide +kernel
theorem d_O_differencesFrom_13 : decode b_O_differencesFrom 13 = .ok (.iaload, 1) := by decide +kernel
theorem d_O_differencesFrom_14 : decode b_O_differencesFrom 14 = .ok (.if_icmp .eq 6, 3) := by decide +kernel
theorem d_O_differencesFrom_17 : decode b_O_differencesFrom 17 = .ok (.iinc 3 1, 3) := by decide +kernel
theorem d_O_differencesFrom_20 : decode b_O_differencesFrom 20 = .ok (.aload_n 0, 1) := by decide +kernel
theorem d_O_differencesFrom_21 : decode b_O_differencesFrom 21 = .ok (.getfield 15, 3) := by decide +kernel
theorem d_O_differencesFrom_24 : decode b_O_differencesFrom 24 = .ok (.iload_n 2, 1) := by decide +kernel
theorem d_O_differencesFrom_25 : decode b_O_differencesFrom 25 = .ok (.iaload, 1) := by decide +kernel
theorem d_O_differencesFrom_26 : decode b_O_differencesFrom 26 = .ok (.aload_n 1, 1) := by decide +kernel
theorem d_O_differencesFrom_27 : decode b_O_differencesFrom 27 = .ok (.getfield 15, 3) := by decide +kernel
theorem d_O_differencesFrom_30 : decode b_O_differencesFrom 30 = .ok (.iload_n 2, 1) := by decide +kernel
theorem d_O_differencesFrom_31 : decode b_O_differencesFrom 31 = .ok (.iaload, 1) := by decide +kernel
theorem d_O_differencesFrom_32 : decode b_O_differencesFrom 32 = .ok (.if_icmp .eq 6, 3) := by decide +kernel
theorem d_O_differencesFrom_35 : decode b_O_differencesFrom 35 = .ok (.iinc 3 1, 3) := by decide +kernel
theorem d_O_differencesFrom_38 : decode b_O_differencesFrom 38 = .ok (.aload_n 0, 1) := by decide +kernel
theorem d_O_differencesFrom_39 : decode b_O_differencesFrom 39 = .ok (.getfield 18, 3) := by decide +kernel
theorem d_O_differencesFrom_42 : decode b_O_differencesFrom 42 = .ok (.iload_n 2, 1) := by decide +kernel
theorem d_O_differencesFrom_43 : decode b_O_differencesFrom 43 = .ok (.iaload, 1) := by decide +kernel
theorem d_O_differencesFrom_44 : decode b_O_differencesFrom 44 = .ok (.aload_n 1, 1) := by decide +kernel
theorem d_O_differencesFrom_45 : decode b_O_differencesFrom 45 = .ok (.getfield 18, 3) := by decide +kernel
theorem d_O_differencesFrom_48 : decode b_O_differencesFrom 48 = .ok (.iload_n 2, 1) := by decide +kernel
theorem d_O_differencesFrom_49 : decode b_O_differencesFrom 49 = .ok (.iaload, 1) := by decide +kernel
theorem d_O_differencesFrom_50 : decode b_O_differencesFrom 50 = .ok (.if_icmp .eq 6, 3) := by decide +kernel
theorem d_O_differencesFrom_53 : decode b_O_differencesFrom 53 = .ok (.iinc 3 1, 3) := by decide +kernel
theorem d_O_differencesFrom_56 : decode b_O_differencesFrom 56 = .ok (.iconst 0, 1) := by decide +kernel
theorem d_O_differencesFrom_57 : decode b_O_differencesFrom 57 = .ok (.istore 4, 2) := by decide +kernel
theorem d_O_differencesFrom_59 : decode b_O_differencesFrom 59 = .ok (.iload 4, 2) := by decide +kernel
theorem d_O_differencesFrom_61 : decode b_O_differencesFrom 61 = .ok (.iconst 4, 1) := by decide +kernel
theorem d_O_differencesFrom_62 : decode b_O_differencesFrom 62 = .ok (.if_icmp .ge 26, 3) := by decide +kernel
theorem d_O_differencesFrom_65 : decode b_O_differencesFrom 65 = .ok (.aload_n 0, 1) := by decide +kernel
theorem d_O_differencesFrom_66 : decode b_O_differencesFrom 66 = .ok (.aload_n 1, 1) := by decide +kernel
theorem d_O_differencesFrom_67 : decode b_O_differencesFrom 67 = .ok (.iload_n 2, 1) := by decide +kernel
theorem d_O_differencesFrom_68 : decode b_O_differencesFrom 68 = .ok (.iconst 4, 1) := by decide +kernel
theorem d_O_differencesFrom_69 : decode b_O_differencesFrom 69 = .ok (.imul, 1) := by decide +kernel
theorem d_O_differencesFrom_70 : decode b_O_differencesFrom 70 = .ok (.iload 4, 2) := by decide +kernel
theorem d_O_differencesFrom_72 : decode b_O_differencesFrom 72 = .ok (.iadd, 1) := by decide +kernel
theorem d_O_differencesFrom_73 : decode b_O_differencesFrom 73 = .ok (.invokevirtual 75, 3) := by decide +kernel
theorem d_O_differencesFrom_76 : decode b_O_differencesFrom 76 = .ok (.ifCond .ne 6, 3) := by decide +kernel
theorem d_O_differencesFrom_79 : decode b_O_differencesFrom 79 = .ok (.iinc 3 1, 3) := by decide +kernel
theorem d_O_differencesFrom_82 : decode b_O_differencesFrom 82 = .ok (.iinc 4 1, 3) := by decide +kernel
theorem d_O_differencesFrom_85 : decode b_O_differencesFrom 85 = .ok (.goto (-26), 3) := by decide +kernel
theorem d_O_differencesFrom_88 : decode b_O_differencesFrom 88 = .ok (.iconst 0, 1) := by decide +kernel
theorem d_O_differencesFrom_89 : decode b_O_differencesFrom 89 = .ok (.istore 4, 2) := by decide +kernel
theorem d_O_differencesFrom_91 : decode b_O_differencesFrom 91 = .ok (.iload 4, 2) := by decide +kernel
theorem d_O_differencesFrom_93 : decode b_O_differencesFrom 93 = .ok (.bipush 12, 2) := by decide +kernel
theorem d_O_differencesFrom_95 : decode b_O_differencesFrom 95 = .ok (.if_icmp .ge 27, 3) := by decide +kernel
theorem d_O_differencesFrom_98 : decode b_O_differencesFrom 98 = .ok (.aload_n 0, 1) := by decide +kernel
theorem d_O_differencesFrom_99 : decode b_O_differencesFrom 99 = .ok (.aload_n 1, 1) := by decide +kernel
theorem d_O_differencesFrom_100 : decode b_O_differencesFrom 100 = .ok (.iload_n 2, 1) := by decide +kernel
theorem d_O_differencesFrom_101 : decode b_O_differencesFrom 101 = .ok (.bipush 12, 2) := by decide +kernel
theorem d_O_differencesFrom_103 : decode b_O_differencesFrom 103 = .ok (.imul, 1) := by decide +kernel
theorem d_O_differencesFrom_104 : decode b_O_differencesFrom 104 = .ok (.iload 4, 2) := by decide +kernel
theorem d_O_differencesFrom_106 : decode b_O_differencesFrom 106 = .ok (.iadd, 1) := by decide +kernel
theorem d_O_differencesFrom_107 : decode b_O_differencesFrom 107 = .ok (.invokevirtual 79, 3) := by decide +kernel
theorem d_O_differencesFrom_110 : decode b_O_differencesFrom 110 = .ok (.ifCond .ne 6, 3) := by decide +kernel
theorem d_O_differencesFrom_113 : decode b_O_differencesFrom 113 = .ok (.iinc 3 1, 3) := by decide +kernel
theorem d_O_differencesFrom_116 : decode b_O_differencesFrom 116 = .ok (.iinc 4 1, 3) := by decide +kernel
theorem d_O_differencesFrom_119 : decode b_O_differencesFrom 119 = .ok (.goto (-28), 3) := by decide +kernel
theorem d_O_differencesFrom_122 : decode b_O_differencesFrom 122 = .ok (.iload_n 3, 1) := by decide +kernel
theorem d_O_differencesFrom_123 : decode b_O_differencesFrom 123 = .ok (.ireturn, 1) := by decide +kernel
theorem d_O_isSameField_0 : decode b_O_isSameField 0 = .ok (.aload_n 0, 1) := by decide +kernel
theorem d_O_isSameField_1 : decode b_O_isSameField 1 = .ok (.getfield 21, 3) := by decide +kernel
theorem d_O_isSameField_4 : decode b_O_isSameField 4 = .ok (.iload_n 2, 1) := by decide +kernel
theorem d_O_isSameField_5 : decode b_O_isSameField 5 = .ok (.iaload, 1) := by decide +kernel
theorem d_O_isSameField_6 : decode b_O_isSameField 6 = .ok (.aload_n 1, 1) := by decide +kernel
theorem d_O_isSameField_7 : decode b_O_isSameField 7 = .ok (.getfield 21, 3) := by decide +kernel
theorem d_O_isSameField_10 : decode b_O_isSameField 10 = .ok (.iload_n 2, 1) := by decide +kernel
theorem d_O_isSameField_11 : decode b_O_isSameField 11 = .ok (.iaload, 1) := by decide +kernel
theorem d_O_isSameField_12 : decode b_O_isSameField 12 = .ok (.if_icmp .eq 5, 3) := by decide +kernel
theorem d_O_isSameField_15 : decode b_O_isSameField 15 = .ok (.iconst 0, 1) := by decide +kernel
theorem d_O_isSameField_16 : decode b_O_isSameField 16 = .ok (.ireturn, 1) := by decide +kernel
theorem d_O_isSameField_17 : decode b_O_isSameField 17 = .ok (.aload_n 0, 1) := by decide +kernel
theorem d_O_isSameField_18 : decode b_O_isSameField 18 = .ok (.getfield 21, 3) := by decide +kernel
theorem d_O_isSameField_21 : decode b_O_isSameField 21 = .ok (.iload_n 2, 1) := by decide +kernel
theorem d_O_isSameField_22 : decode b_O_isSameField 22 = .ok (.iaload, 1) := by decide +kernel
theorem d_O_isSameField_23 : decode b_O_isSameField 23 = .ok (.iconst (-1), 1) := by decide +kernel
theorem d_O_isSameField_24 : decode b_O_isSameField 24 = .ok (.if_icmp .ne 5, 3) := by decide +kernel
theorem d_O_isSameField_27 : decode b_O_isSameField 27 = .ok (.iconst 1, 1) := by decide +kernel
theorem d_O_isSameField_28 : decode b_O_isSameField 28 = .ok (.ireturn, 1) := by decide +kernel
theorem d_O_isSameField_29 : decode b_O_isSameField 29 = .ok (.aload_n 0, 1) := by decide +kernel
theorem d_O_isSameField_30 : decode b_O_isSameField 30 = .ok (.getfield 24, 3) := by decide +kernel
theorem d_O_isSameField_33 : decode b_O_isSameField 33 = .ok (.iload_n 2, 1) := by decide +kernel
theorem d_O_isSameField_34 : decode b_O_isSameField 34 = .ok (.iaload, 1) := by decide +kernel
theorem d_O_isSameField_35 : decode b_O_isSameField 35 = .ok (.aload_n 1, 1) := by decide +kernel
theorem d_O_isSameField_36 : decode b_O_isSameField 36 = .ok (.getfield 24, 3) := by decide +kernel
theorem d_O_isSameField_39 : decode b_O_isSameField 39 = .ok (.iload_n 2, 1) := by decide +kernel
theorem d_O_isSameField_40 : decode b_O_isSameField 40 = .ok (.iaload, 1) := by decide +kernel
theorem d_O_isSameField_41 : decode b_O_isSameField 41 = .ok (.if_icmp .ne 22, 3) := by decide +kernel
theorem d_O_isSameField_44 : decode b_O_isSameField 44 = .ok (.aload_n 0, 1) := by decide +kernel
theorem d_O_isSameField_45 : decode b_O_isSameField 45 = .ok (.getfield 27, 3) := by decide +kernel
theorem d_O_isSameField_48 : decode b_O_isSameField 48 = .ok (.iload_n 2, 1) := by decide +kernel
theorem d_O_isSameField_49 : decode b_O_isSameField 49 = .ok (.iaload, 1) := by decide +kernel
theorem d_O_isSameField_50 : decode b_O_isSameField 50 = .ok (.aload_n 1, 1) := by decide +kernel
theorem d_O_isSameField_51 : decode b_O_isSameField 51 = .ok (.getfield 27, 3) := by decide +kernel
theorem d_O_isSameField_54 : decode b_O_isSameField 54 = .ok (.iload_n 2, 1) := by decide +kernel
theorem d_O_isSameField_55 : decode b_O_isSameField 55 = .ok (.iaload, 1) := by decide +kernel
theorem d_O_isSameField_56 : decode b_O_isSameField 56 = .ok (.if_icmp .ne 7, 3) := by decide +kernel
theorem d_O_isSameField_59 : decode b_O_isSameField 59 = .ok (.iconst 1, 1) := by decide +kernel
theorem d_O_isSameField_60 : decode b_O_isSameField 60 = .ok (.goto 4, 3) := by decide +kernel
theorem d_O_isSameField_63 : decode b_O_isSameField 63 = .ok (.iconst 0, 1) := by decide +kernel
theorem d_O_isSameField_64 : decode b_O_isSameField 64 = .ok (.ireturn, 1) := by decide +kernel
theorem d_O_isSameMethod_0 : decode b_O_isSameMethod 0 = .ok (.aload_n 0, 1) := by decide +kernel
theorem d_O_isSameMethod_1 : decode b_O_isSameMethod 1 = .ok (.getfield 30, 3) := by decide +kernel
theorem d_O_isSameMethod_4 : decode b_O_isSameMethod 4 = .ok (.iload_n 2, 1) := by decide +kernel
theorem d_O_isSameMethod_5 : decode b_O_isSameMethod 5 = .ok (.iaload, 1) := by decide +kernel
theorem d_O_isSameMethod_6 : decode b_O_isSameMethod 6 = .ok (.aload_n 1, 1) := by decide +kernel
theorem d_O_isSameMethod_7 : decode b_O_isSameMethod 7 = .ok (.getfield 30, 3) := by decide +kernel
theorem d_O_isSameMethod_10 : decode b_O_isSameMethod 10 = .ok (.iload_n 2, 1) := by decide +kernel
theorem d_O_isSameMethod_11 : decode b_O_isSameMethod 11 = .ok (.iaload, 1) := by decide +kernel
theorem d_O_isSameMethod_12 : decode b_O_isSameMethod 12 = .ok (.if_icmp .eq 5, 3) := by decide +kernel
theorem d_O_isSameMethod_15 : decode b_O_isSameMethod 15 = .ok (.iconst 0, 1) := by decide +kernel
theorem d_O_isSameMethod_16 : decode b_O_isSameMethod 16 = .ok (.ireturn, 1) := by decide +kernel
theorem d_O_isSameMethod_17 : decode b_O_isSameMethod 17 = .ok (.aload_n 0, 1) := by decide +kernel
theorem d_O_isSameMethod_18 : decode b_O_isSameMethod 18 = .ok (.getfield 30, 3) := by decide +kernel
theorem d_O_isSameMethod_21 : decode b_O_isSameMethod 21 = .ok (.iload_n 2, 1) := by decide +kernel
theorem d_O_isSameMethod_22 : decode b_O_isSameMethod 22 = .ok (.iaload, 1) := by decide +kernel
theorem d_O_isSameMethod_23 : decode b_O_isSameMethod 23 = .ok (.iconst (-1), 1) := by decide +kernel
theorem d_O_isSameMethod_24 : decode b_O_isSameMethod 24 = .ok (.if_icmp .eq 18, 3) := by decide +kernel
theorem d_O_isSameMethod_27 : decode b_O_isSameMethod 27 = .ok (.aload_n 0, 1) := by decide +kernel
theorem d_O_isSameMethod_28 : decode b_O_isSameMethod 28 = .ok (.getfield 33, 3) := by decide +kernel
theorem d_O_isSameMethod_31 : decode b_O_isSameMethod 31 = .ok (.iload_n 2, 1) := by decide +kernel
theorem d_O_isSameMethod_32 : decode b_O_isSameMethod 32 = .ok (.iaload, 1) := by decide +kernel
theorem d_O_isSameMethod_33 : decode b_O_isSameMethod 33 = .ok (.aload_n 1, 1) := by decide +kernel
theorem d_O_isSameMethod_34 : decode b_O_isSameMethod 34 = .ok (.getfield 33, 3) := by decide +kernel
theorem d_O_isSameMethod_37 : decode b_O_isSameMethod 37 = .ok (.iload_n 2, 1) := by decide +kernel
theorem d_O_isSameMethod_38 : decode b_O_isSameMethod 38 = .ok (.iaload, 1) := by decide +kernel
theorem d_O_isSameMethod_39 : decode b_O_isSameMethod 39 = .ok (.if_icmp .ne 7, 3) := by decide +kernel
theorem d_O_isSameMethod_42 : decode b_O_isSameMethod 42 = .ok (.iconst 1, 1) := by decide +kernel
theorem d_O_isSameMethod_43 : decode b_O_isSameMethod 43 = .ok (.goto 4, 3) := by decide +kernel
theorem d_O_isSameMethod_46 : decode b_O_isSameMethod 46 = .ok (.iconst 0, 1) := by decide +kernel
theorem d_O_isSameMethod_47 : decode b_O_isSameMethod 47 = .ok (.ireturn, 1) := by decide +kernel
theorem d_U_init_0 : decode b_U_init 0 = .ok (.aload_n 0, 1) := by decide +kernel
theorem d_U_init_1 : decode b_U_init 1 = .ok (.invokespecial 1, 3) := by decide +kernel
theorem d_U_init_4 : decode b_U_init 4 = .ok (.return_, 1) := by decide +kernel
theorem d_U_tell_0 : decode b_U_tell 0 = .ok (.aload_n 0, 1) := by decide +kernel
theorem d_U_tell_1 : decode b_U_tell 1 = .ok (.iload_n 1, 1) := by decide +kernel
theorem d_U_tell_2 : decode b_U_tell 2 = .ok (.putfield 7, 3) := by decide +kernel
theorem d_U_tell_5 : decode b_U_tell 5 = .ok (.aload_n 0, 1) := by decide +kernel
theorem d_U_tell_6 : decode b_U_tell 6 = .ok (.iload_n 2, 1) := by decide +kernel
theorem d_U_tell_7 : decode b_U_tell 7 = .ok (.putfield 13, 3) := by decide +kernel
theorem d_U_tell_10 : decode b_U_tell 10 = .ok (.aload_n 0, 1) := by decide +kernel
theorem d_U_tell_11 : decode b_U_tell 11 = .ok (.iload_n 3, 1) := by decide +kernel
theorem d_U_tell_12 : decode b_U_tell 12 = .ok (.putfield 16, 3) := by decide +kernel
theorem d_U_tell_15 : decode b_U_tell 15 = .ok (.aload_n 0, 1) := by decide +kernel
theorem d_U_tell_16 : decode b_U_tell 16 = .ok (.iload 4, 2) := by decide +kernel
theorem d_U_tell_18 : decode b_U_tell 18 = .ok (.putfield 19, 3) := by decide +kernel
theorem d_U_tell_21 : decode b_U_tell 21 = .ok (.return_, 1) := by decide +kernel
theorem d_L_law_0 : decode code 0 = .ok (.new 7, 3) := by decide +kernel
theorem d_L_law_3 : decode code 3 = .ok (.dup, 1) := by decide +kernel
theorem d_L_law_4 : decode code 4 = .ok (.invokespecial 9, 3) := by decide +kernel
theorem d_L_law_7 : decode code 7 = .ok (.astore_n 1, 1) := by decide +kernel
theorem d_L_law_8 : decode code 8 = .ok (.new 10, 3) := by decide +kernel
theorem d_L_law_11 : decode code 11 = .ok (.dup, 1) := by decide +kernel
theorem d_L_law_12 : decode code 12 = .ok (.invokespecial 12, 3) := by decide +kernel
theorem d_L_law_15 : decode code 15 = .ok (.astore_n 2, 1) := by decide +kernel
theorem d_L_law_16 : decode code 16 = .ok (.iconst 0, 1) := by decide +kernel
theorem d_L_law_17 : decode code 17 = .ok (.istore_n 3, 1) := by decide +kernel
theorem d_L_law_18 : decode code 18 = .ok (.iload_n 3, 1) := by decide +kernel
theorem d_L_law_19 : decode code 19 = .ok (.aload_n 0, 1) := by decide +kernel
theorem d_L_law_20 : decode code 20 = .ok (.arraylength, 1) := by decide +kernel
theorem d_L_law_21 : decode code 21 = .ok (.bipush 6, 2) := by decide +kernel
theorem d_L_law_23 : decode code 23 = .ok (.isub, 1) := by decide +kernel
theorem d_L_law_24 : decode code 24 = .ok (.if_icmp .gt 735, 3) := by decide +kernel
theorem d_L_law_27 : decode code 27 = .ok (.aload_n 0, 1) := by decide +kernel
theorem d_L_law_28 : decode code 28 = .ok (.iload_n 3, 1) := by decide +kernel
theorem d_L_law_29 : decode code 29 = .ok (.iaload, 1) := by decide +kernel
theorem d_L_law_30 : decode code 30 = .ok (.bipush 31, 2) := by decide +kernel
theorem d_L_law_32 : decode code 32 = .ok (.iand, 1) := by decide +kernel
theorem d_L_law_33 : decode code 33 = .ok (.tableswitch 720 0 16 #[83, 146, 179, 232, 285, 338, 351, 404, 437, 460, 483, 544, 585, 598, 621, 644, 687], 83) := by decide +kernel
theorem d_L_law_116 : decode code 116 = .ok (.aload_n 1, 1) := by decide +kernel
theorem d_L_law_117 : decode code 117 = .ok (.aload_n 0, 1) := by decide +kernel
theorem d_L_law_118 : decode code 118 = .ok (.iload_n 3, 1) := by decide +kernel
theorem d_L_law_119 : decode code 119 = .ok (.iconst 1, 1) := by decide +kernel
theorem d_L_law_120 : decode code 120 = .ok (.iadd, 1) := by decide +kernel
theorem d_L_law_121 : decode code 121 = .ok (.iaload, 1) := by decide +kernel
theorem d_L_law_122 : decode code 122 = .ok (.aload_n 0, 1) := by decide +kernel
theorem d_L_law_123 : decode code 123 = .ok (.iload_n 3, 1) := by decide +kernel
theorem d_L_law_124 : decode code 124 = .ok (.iconst 2, 1) := by decide +kernel
theorem d_L_law_125 : decode code 125 = .ok (.iadd, 1) := by decide +kernel
theorem d_L_law_126 : decode code 126 = .ok (.iaload, 1) := by decide +kernel
theorem d_L_law_127 : decode code 127 = .ok (.aload_n 0, 1) := by decide +kernel
theorem d_L_law_128 : decode code 128 = .ok (.iload_n 3, 1) := by decide +kernel
theorem d_L_law_129 : decode code 129 = .ok (.iconst 3, 1) := by decide +kernel
theorem d_L_law_130 : decode code 130 = .ok (.iadd, 1) := by decide +kernel
theorem d_L_law_131 : decode code 131 = .ok (.iaload, 1) := by decide +kernel
theorem d_L_law_132 : decode code 132 = .ok (.aload_n 0, 1) := by decide +kernel
theorem d_L_law_133 : decode code 133 = .ok (.iload_n 3, 1) := by decide +kernel
theorem d_L_law_134 : decode code 134 = .ok (.iconst 4, 1) := by decide +kernel
theorem d_L_law_135 : decode code 135 = .ok (.iadd, 1) := by decide +kernel
theorem d_L_law_136 : decode code 136 = .ok (.iaload, 1) := by decide +kernel
theorem d_L_law_137 : decode code 137 = .ok (.aload_n 0, 1) := by decide +kernel
theorem d_L_law_138 : decode code 138 = .ok (.iload_n 3, 1) := by decide +kernel
theorem d_L_law_139 : decode code 139 = .ok (.iconst 5, 1) := by decide +kernel
theorem d_L_law_140 : decode code 140 = .ok (.iadd, 1) := by decide +kernel
theorem d_L_law_141 : decode code 141 = .ok (.iaload, 1) := by decide +kernel
theorem d_L_law_142 : decode code 142 = .ok (.invokevirtual 13, 3) := by decide +kernel
theorem d_L_law_145 : decode code 145 = .ok (.aload_n 2, 1) := by decide +kernel
theorem d_L_law_146 : decode code 146 = .ok (.aload_n 0, 1) := by decide +kernel
theorem d_L_law_147 : decode code 147 = .ok (.iload_n 3, 1) := by decide +kernel
theorem d_L_law_148 : decode code 148 = .ok (.iconst 1, 1) := by decide +kernel
theorem d_L_law_149 : decode code 149 = .ok (.iadd, 1) := by decide +kernel
theorem d_L_law_150 : decode code 150 = .ok (.iaload, 1) := by decide +kernel
theorem d_L_law_151 : decode code 151 = .ok (.aload_n 0, 1) := by decide +kernel
theorem d_L_law_152 : decode code 152 = .ok (.iload_n 3, 1) := by decide +kernel
theorem d_L_law_153 : decode code 153 = .ok (.iconst 2, 1) := by decide +kernel
theorem d_L_law_154 : decode code 154 = .ok (.iadd, 1) := by decide +kernel
theorem d_L_law_155 : decode code 155 = .ok (.iaload, 1) := by decide +kernel
theorem d_L_law_156 : decode code 156 = .ok (.aload_n 0, 1) := by decide +kernel
theorem d_L_law_157 : decode code 157 = .ok (.iload_n 3, 1) := by decide +kernel
theorem d_L_law_158 : decode code 158 = .ok (.iconst 3, 1) := by decide +kernel
theorem d_L_law_159 : decode code 159 = .ok (.iadd, 1) := by decide +kernel
theorem d_L_law_160 : decode code 160 = .ok (.iaload, 1) := by decide +kernel
theorem d_L_law_161 : decode code 161 = .ok (.aload_n 0, 1) := by decide +kernel
theorem d_L_law_162 : decode code 162 = .ok (.iload_n 3, 1) := by decide +kernel
theorem d_L_law_163 : decode code 163 = .ok (.iconst 4, 1) := by decide +kernel
theorem d_L_law_164 : decode code 164 = .ok (.iadd, 1) := by decide +kernel
theorem d_L_law_165 : decode code 165 = .ok (.iaload, 1) := by decide +kernel
theorem d_L_law_166 : decode code 166 = .ok (.aload_n 0, 1) := by decide +kernel
theorem d_L_law_167 : decode code 167 = .ok (.iload_n 3, 1) := by decide +kernel
theorem d_L_law_168 : decode code 168 = .ok (.iconst 5, 1) := by decide +kernel
theorem d_L_law_169 : decode code 169 = .ok (.iadd, 1) := by decide +kernel
theorem d_L_law_170 : decode code 170 = .ok (.iaload, 1) := by decide +kernel
theorem d_L_law_171 : decode code 171 = .ok (.invokevirtual 17, 3) := by decide +kernel
theorem d_L_law_174 : decode code 174 = .ok (.if_icmp .eq 579, 3) := by decide +kernel
theorem d_L_law_177 : decode code 177 = .ok (.iconst 0, 1) := by decide +kernel
theorem d_L_law_178 : decode code 178 = .ok (.ireturn, 1) := by decide +kernel
theorem d_L_law_179 : decode code 179 = .ok (.aload_n 1, 1) := by decide +kernel
theorem d_L_law_180 : decode code 180 = .ok (.aload_n 0, 1) := by decide +kernel
theorem d_L_law_181 : decode code 181 = .ok (.iload_n 3, 1) := by decide +kernel
theorem d_L_law_182 : decode code 182 = .ok (.iconst 1, 1) := by decide +kernel
theorem d_L_law_183 : decode code 183 = .ok (.iadd, 1) := by decide +kernel
theorem d_L_law_184 : decode code 184 = .ok (.iaload, 1) := by decide +kernel
theorem d_L_law_185 : decode code 185 = .ok (.aload_n 0, 1) := by decide +kernel
theorem d_L_law_186 : decode code 186 = .ok (.iload_n 3, 1) := by decide +kernel
theorem d_L_law_187 : decode code 187 = .ok (.iconst 2, 1) := by decide +kernel
theorem d_L_law_188 : decode code 188 = .ok (.iadd, 1) := by decide +kernel
theorem d_L_law_189 : decode code 189 = .ok (.iaload, 1) := by decide +kernel
theorem d_L_law_190 : decode code 190 = .ok (.invokevirtual 18, 3) := by decide +kernel
theorem d_L_law_193 : decode code 193 = .ok (.aload_n 2, 1) := by decide +kernel
theorem d_L_law_194 : decode code 194 = .ok (.aload_n 0, 1) := by decide +kernel
theorem d_L_law_195 : decode code 195 = .ok (.iload_n 3, 1) := by decide +kernel
theorem d_L_law_196 : decode code 196 = .ok (.iconst 1, 1) := by decide +kernel
theorem d_L_law_197 : decode code 197 = .ok (.iadd, 1) := by decide +kernel
theorem d_L_law_198 : decode code 198 = .ok (.iaload, 1) := by decide +kernel
theorem d_L_law_199 : decode code 199 = .ok (.aload_n 0, 1) := by decide +kernel
theorem d_L_law_200 : decode code 200 = .ok (.iload_n 3, 1) := by decide +kernel
theorem d_L_law_201 : decode code 201 = .ok (.iconst 2, 1) := by decide +kernel
theorem d_L_law_202 : decode code 202 = .ok (.iadd, 1) := by decide +kernel
theorem d_L_law_203 : decode code 203 = .ok (.iaload, 1) := by decide +kernel
theorem d_L_law_204 : decode code 204 = .ok (.invokevirtual 22, 3) := by decide +kernel
theorem d_L_law_207 : decode code 207 = .ok (.if_icmp .eq 546, 3) := by decide +kernel
theorem d_L_law_210 : decode code 210 = .ok (.iconst 0, 1) := by decide +kernel
theorem d_L_law_211 : decode code 211 = .ok (.ireturn, 1) := by decide +kernel
theorem d_L_law_212 : decode code 212 = .ok (.aload_n 1, 1) := by decide +kernel
theorem d_L_law_213 : decode code 213 = .ok (.aload_n 0, 1) := by decide +kernel
theorem d_L_law_214 : decode code 214 = .ok (.iload_n 3, 1) := by decide +kernel
theorem d_L_law_215 : decode code 215 = .ok (.iconst 1, 1) := by decide +kernel
theorem d_L_law_216 : decode code 216 = .ok (.iadd, 1) := by decide +kernel
theorem d_L_law_217 : decode code 217 = .ok (.iaload, 1) := by decide +kernel
theorem d_L_law_218 : decode code 218 = .ok (.aload_n 0, 1) := by decide +kernel
theorem d_L_law_219 : decode code 219 = .ok (.iload_n 3, 1) := by decide +kernel
theorem d_L_law_220 : decode code 220 = .ok (.iconst 2, 1) := by decide +kernel
theorem d_L_law_221 : decode code 221 = .ok (.iadd, 1) := by decide +kernel
theorem d_L_law_222 : decode code 222 = .ok (.iaload, 1) := by decide +kernel
theorem d_L_law_223 : decode code 223 = .ok (.aload_n 0, 1) := by decide +kernel
theorem d_L_law_224 : decode code 224 = .ok (.iload_n 3, 1) := by decide +kernel
theorem d_L_law_225 : decode code 225 = .ok (.iconst 3, 1) := by decide +kernel
theorem d_L_law_226 : decode code 226 = .ok (.iadd, 1) := by decide +kernel
theorem d_L_law_227 : decode code 227 = .ok (.iaload, 1) := by decide +kernel
theorem d_L_law_228 : decode code 228 = .ok (.aload_n 0, 1) := by decide +kernel
theorem d_L_law_229 : decode code 229 = .ok (.iload_n 3, 1) := by decide +kernel
theorem d_L_law_230 : decode code 230 = .ok (.iconst 4, 1) := by decide +kernel
theorem d_L_law_231 : decode code 231 = .ok (.iadd, 1) := by decide +kernel
theorem d_L_law_232 : decode code 232 = .ok (.iaload, 1) := by decide +kernel
theorem d_L_law_233 : decode code 233 = .ok (.invokevirtual 23, 3) := by decide +kernel
theorem d_L_law_236 : decode code 236 = .ok (.aload_n 2, 1) := by decide +kernel
theorem d_L_law_237 : decode code 237 = .ok (.aload_n 0, 1) := by decide +kernel
theorem d_L_law_238 : decode code 238 = .ok (.iload_n 3, 1) := by decide +kernel
theorem d_L_law_239 : decode code 239 = .ok (.iconst 1, 1) := by decide +kernel
theorem d_L_law_240 : decode code 240 = .ok (.iadd, 1) := by decide +kernel
theorem d_L_law_241 : decode code 241 = .ok (.iaload, 1) := by decide +kernel
theorem d_L_law_242 : decode code 242 = .ok (.aload_n 0, 1) := by decide +kernel
theorem d_L_law_243 : decode code 243 = .ok (.iload_n 3, 1) := by decide +kernel
theorem d_L_law_244 : decode code 244 = .ok (.iconst 2, 1) := by decide +kernel
theorem d_L_law_245 : decode code 245 = .ok (.iadd, 1) := by decide +kernel
theorem d_L_law_246 : decode code 246 = .ok (.iaload, 1) := by decide +kernel
theorem d_L_law_247 : decode code 247 = .ok (.aload_n 0, 1) := by decide +kernel
theorem d_L_law_248 : decode code 248 = .ok (.iload_n 3, 1) := by decide +kernel
theorem d_L_law_249 : decode code 249 = .ok (.iconst 3, 1) := by decide +kernel
theorem d_L_law_250 : decode code 250 = .ok (.iadd, 1) := by decide +kernel
theorem d_L_law_251 : decode code 251 = .ok (.iaload, 1) := by decide +kernel
theorem d_L_law_252 : decode code 252 = .ok (.aload_n 0, 1) := by decide +kernel
theorem d_L_law_253 : decode code 253 = .ok (.iload_n 3, 1) := by decide +kernel
theorem d_L_law_254 : decode code 254 = .ok (.iconst 4, 1) := by decide +kernel
theorem d_L_law_255 : decode code 255 = .ok (.iadd, 1) := by decide +kernel
theorem d_L_law_256 : decode code 256 = .ok (.iaload, 1) := by decide +kernel
theorem d_L_law_257 : decode code 257 = .ok (.invokevirtual 27, 3) := by decide +kernel
theorem d_L_law_260 : decode code 260 = .ok (.if_icmp .eq 493, 3) := by decide +kernel
theorem d_L_law_263 : decode code 263 = .ok (.iconst 0, 1) := by decide +kernel
theorem d_L_law_264 : decode code 264 = .ok (.ireturn, 1) := by decide +kernel
theorem d_L_law_265 : decode code 265 = .ok (.aload_n 1, 1) := by decide +kernel
theorem d_L_law_266 : decode code 266 = .ok (.aload_n 0, 1) := by decide +kernel
theorem d_L_law_267 : decode code 267 = .ok (.iload_n 3, 1) := by decide +kernel
theorem d_L_law_268 : decode code 268 = .ok (.iconst 1, 1) := by decide +kernel
theorem d_L_law_269 : decode code 269 = .ok (.iadd, 1) := by decide +kernel
theorem d_L_law_270 : decode code 270 = .ok (.iaload, 1) := by decide +kernel
theorem d_L_law_271 : decode code 271 = .ok (.aload_n 0, 1) := by decide +kernel
theorem d_L_law_272 : decode code 272 = .ok (.iload_n 3, 1) := by decide +kernel
theorem d_L_law_273 : decode code 273 = .ok (.iconst 2, 1) := by decide +kernel
theorem d_L_law_274 : decode code 274 = .ok (.iadd, 1) := by decide +kernel
theorem d_L_law_275 : decode code 275 = .ok (.iaload, 1) := by decide +kernel
