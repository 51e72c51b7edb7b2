theorem d_A_init_0 : decode b_A_init 0 = .ok (.aload_n 0, 1) := by decide +kernel
theorem d_A_init_1 : decode b_A_init 1 = .ok (.invokespecial 3, 3) := by decide +kernel
theorem d_A_init_4 : decode b_A_init 4 = .ok (.aload_n 0, 1) := by decide +kernel
theorem d_A_init_5 : decode b_A_init 5 = .ok (.new 9, 3) := by decide +kernel
theorem d_A_init_8 : decode b_A_init 8 = .ok (.dup, 1) := by decide +kernel
theorem d_A_init_9 : decode b_A_init 9 = .ok (.invokespecial 11, 3) := by decide +kernel
theorem d_A_init_12 : decode b_A_init 12 = .ok (.putfield 12, 3) := by decide +kernel
theorem d_A_init_15 : decode b_A_init 15 = .ok (.aload_n 0, 1) := by decide +kernel
theorem d_A_init_16 : decode b_A_init 16 = .ok (.new 9, 3) := by decide +kernel
theorem d_A_init_19 : decode b_A_init 19 = .ok (.dup, 1) := by decide +kernel
theorem d_A_init_20 : decode b_A_init 20 = .ok (.invokespecial 11, 3) := by decide +kernel
theorem d_A_init_23 : decode b_A_init 23 = .ok (.putfield 16, 3) := by decide +kernel
theorem d_A_init_26 : decode b_A_init 26 = .ok (.aload_n 0, 1) := by decide +kernel
theorem d_A_init_27 : decode b_A_init 27 = .ok (.bipush 16, 2) := by decide +kernel
theorem d_A_init_29 : decode b_A_init 29 = .ok (.anewarray 19, 3) := by decide +kernel
theorem d_A_init_32 : decode b_A_init 32 = .ok (.putfield 21, 3) := by decide +kernel
theorem d_A_init_35 : decode b_A_init 35 = .ok (.iconst 0, 1) := by decide +kernel
theorem d_A_init_36 : decode b_A_init 36 = .ok (.istore_n 1, 1) := by decide +kernel
theorem d_A_init_37 : decode b_A_init 37 = .ok (.iload_n 1, 1) := by decide +kernel
theorem d_A_init_38 : decode b_A_init 38 = .ok (.bipush 16, 2) := by decide +kernel
theorem d_A_init_40 : decode b_A_init 40 = .ok (.if_icmp .ge 22, 3) := by decide +kernel
theorem d_A_init_43 : decode b_A_init 43 = .ok (.aload_n 0, 1) := by decide +kernel
theorem d_A_init_44 : decode b_A_init 44 = .ok (.getfield 21, 3) := by decide +kernel
theorem d_A_init_47 : decode b_A_init 47 = .ok (.iload_n 1, 1) := by decide +kernel
theorem d_A_init_48 : decode b_A_init 48 = .ok (.new 19, 3) := by decide +kernel
theorem d_A_init_51 : decode b_A_init 51 = .ok (.dup, 1) := by decide +kernel
theorem d_A_init_52 : decode b_A_init 52 = .ok (.invokespecial 25, 3) := by decide +kernel
theorem d_A_init_55 : decode b_A_init 55 = .ok (.aastore, 1) := by decide +kernel
theorem d_A_init_56 : decode b_A_init 56 = .ok (.iinc 1 1, 3) := by decide +kernel
theorem d_A_init_59 : decode b_A_init 59 = .ok (.goto (-22), 3) := by decide +kernel
theorem d_A_init_62 : decode b_A_init 62 = .ok (.aload_n 0, 1) := by decide +kernel
theorem d_A_init_63 : decode b_A_init 63 = .ok (.iconst 0, 1) := by decide +kernel
theorem d_A_init_64 : decode b_A_init 64 = .ok (.putfield 26, 3) := by decide +kernel
theorem d_A_init_67 : decode b_A_init 67 = .ok (.aload_n 0, 1) := by decide +kernel
theorem d_A_init_68 : decode b_A_init 68 = .ok (.new 30, 3) := by decide +kernel
theorem d_A_init_71 : decode b_A_init 71 = .ok (.dup, 1) := by decide +kernel
theorem d_A_init_72 : decode b_A_init 72 = .ok (.invokespecial 32, 3) := by decide +kernel
theorem d_A_init_75 : decode b_A_init 75 = .ok (.putfield 33, 3) := by decide +kernel
theorem d_A_init_78 : decode b_A_init 78 = .ok (.aload_n 0, 1) := by decide +kernel
theorem d_A_init_79 : decode b_A_init 79 = .ok (.new 30, 3) := by decide +kernel
theorem d_A_init_82 : decode b_A_init 82 = .ok (.dup, 1) := by decide +kernel
theorem d_A_init_83 : decode b_A_init 83 = .ok (.invokespecial 32, 3) := by decide +kernel
theorem d_A_init_86 : decode b_A_init 86 = .ok (.putfield 37, 3) := by decide +kernel
theorem d_A_init_89 : decode b_A_init 89 = .ok (.return_, 1) := by decide +kernel
theorem d_A_type_0 : decode b_A_type 0 = .ok (.iload_n 1, 1) := by decide +kernel
theorem d_A_type_1 : decode b_A_type 1 = .ok (.iconst 2, 1) := by decide +kernel
theorem d_A_type_2 : decode b_A_type 2 = .ok (.invokestatic 40, 3) := by decide +kernel
theorem d_A_type_5 : decode b_A_type 5 = .ok (.ifCond .eq 21, 3) := by decide +kernel
theorem d_A_type_8 : decode b_A_type 8 = .ok (.iload_n 2, 1) := by decide +kernel
theorem d_A_type_9 : decode b_A_type 9 = .ok (.bipush 6, 2) := by decide +kernel
theorem d_A_type_11 : decode b_A_type 11 = .ok (.invokestatic 40, 3) := by decide +kernel
theorem d_A_type_14 : decode b_A_type 14 = .ok (.ifCond .eq 12, 3) := by decide +kernel
theorem d_A_type_17 : decode b_A_type 17 = .ok (.iload_n 3, 1) := by decide +kernel
theorem d_A_type_18 : decode b_A_type 18 = .ok (.bipush 16, 2) := by decide +kernel
theorem d_A_type_20 : decode b_A_type 20 = .ok (.invokestatic 40, 3) := by decide +kernel
theorem d_A_type_23 : decode b_A_type 23 = .ok (.ifCond .ne 5, 3) := by decide +kernel
theorem d_A_type_26 : decode b_A_type 26 = .ok (.iconst (-1), 1) := by decide +kernel
theorem d_A_type_27 : decode b_A_type 27 = .ok (.ireturn, 1) := by decide +kernel
theorem d_A_type_28 : decode b_A_type 28 = .ok (.iload 4, 2) := by decide +kernel
theorem d_A_type_30 : decode b_A_type 30 = .ok (.bipush 7, 2) := by decide +kernel
theorem d_A_type_32 : decode b_A_type 32 = .ok (.invokestatic 40, 3) := by decide +kernel
theorem d_A_type_35 : decode b_A_type 35 = .ok (.ifCond .eq 13, 3) := by decide +kernel
theorem d_A_type_38 : decode b_A_type 38 = .ok (.iload 5, 2) := by decide +kernel
theorem d_A_type_40 : decode b_A_type 40 = .ok (.bipush 64, 2) := by decide +kernel
theorem d_A_type_42 : decode b_A_type 42 = .ok (.invokestatic 40, 3) := by decide +kernel
theorem d_A_type_45 : decode b_A_type 45 = .ok (.ifCond .ne 5, 3) := by decide +kernel
theorem d_A_type_48 : decode b_A_type 48 = .ok (.iconst (-1), 1) := by decide +kernel
theorem d_A_type_49 : decode b_A_type 49 = .ok (.ireturn, 1) := by decide +kernel
theorem d_A_type_50 : decode b_A_type 50 = .ok (.aload_n 0, 1) := by decide +kernel
theorem d_A_type_51 : decode b_A_type 51 = .ok (.iload_n 1, 1) := by decide +kernel
theorem d_A_type_52 : decode b_A_type 52 = .ok (.invokevirtual 44, 3) := by decide +kernel
theorem d_A_type_55 : decode b_A_type 55 = .ok (.astore 6, 2) := by decide +kernel
theorem d_A_type_57 : decode b_A_type 57 = .ok (.iload_n 3, 1) := by decide +kernel
theorem d_A_type_58 : decode b_A_type 58 = .ok (.iconst 1, 1) := by decide +kernel
theorem d_A_type_59 : decode b_A_type 59 = .ok (.iand, 1) := by decide +kernel
theorem d_A_type_60 : decode b_A_type 60 = .ok (.ifCond .eq 7, 3) := by decide +kernel
theorem d_A_type_63 : decode b_A_type 63 = .ok (.iconst 1, 1) := by decide +kernel
theorem d_A_type_64 : decode b_A_type 64 = .ok (.goto 4, 3) := by decide +kernel
theorem d_A_type_67 : decode b_A_type 67 = .ok (.iconst 0, 1) := by decide +kernel
theorem d_A_type_68 : decode b_A_type 68 = .ok (.istore 7, 2) := by decide +kernel
theorem d_A_type_70 : decode b_A_type 70 = .ok (.iload 7, 2) := by decide +kernel
theorem d_A_type_72 : decode b_A_type 72 = .ok (.ifCond .eq 18, 3) := by decide +kernel
theorem d_A_type_75 : decode b_A_type 75 = .ok (.iload_n 3, 1) := by decide +kernel
theorem d_A_type_76 : decode b_A_type 76 = .ok (.iconst 4, 1) := by decide +kernel
theorem d_A_type_77 : decode b_A_type 77 = .ok (.iand, 1) := by decide +kernel
theorem d_A_type_78 : decode b_A_type 78 = .ok (.ifCond .ne 10, 3) := by decide +kernel
theorem d_A_type_81 : decode b_A_type 81 = .ok (.iload 4, 2) := by decide +kernel
theorem d_A_type_83 : decode b_A_type 83 = .ok (.bipush 6, 2) := by decide +kernel
theorem d_A_type_85 : decode b_A_type 85 = .ok (.if_icmp .eq 5, 3) := by decide +kernel
theorem d_A_type_88 : decode b_A_type 88 = .ok (.iconst (-1), 1) := by decide +kernel
theorem d_A_type_89 : decode b_A_type 89 = .ok (.ireturn, 1) := by decide +kernel
theorem d_A_type_90 : decode b_A_type 90 = .ok (.aload 6, 2) := by decide +kernel
theorem d_A_type_92 : decode b_A_type 92 = .ok (.iload_n 2, 1) := by decide +kernel
theorem d_A_type_93 : decode b_A_type 93 = .ok (.iload 4, 2) := by decide +kernel
theorem d_A_type_95 : decode b_A_type 95 = .ok (.iload 5, 2) := by decide +kernel
theorem d_A_type_97 : decode b_A_type 97 = .ok (.invokevirtual 48, 3) := by decide +kernel
theorem d_A_type_100 : decode b_A_type 100 = .ok (.ifCond .ne 5, 3) := by decide +kernel
theorem d_A_type_103 : decode b_A_type 103 = .ok (.iconst (-1), 1) := by decide +kernel
theorem d_A_type_104 : decode b_A_type 104 = .ok (.ireturn, 1) := by decide +kernel
theorem d_A_type_105 : decode b_A_type 105 = .ok (.aload 6, 2) := by decide +kernel
theorem d_A_type_107 : decode b_A_type 107 = .ok (.iload_n 2, 1) := by decide +kernel
theorem d_A_type_108 : decode b_A_type 108 = .ok (.invokevirtual 52, 3) := by decide +kernel
theorem d_A_type_111 : decode b_A_type 111 = .ok (.ifCond .eq 25, 3) := by decide +kernel
theorem d_A_type_114 : decode b_A_type 114 = .ok (.aload 6, 2) := by decide +kernel
theorem d_A_type_116 : decode b_A_type 116 = .ok (.iload_n 2, 1) := by decide +kernel
theorem d_A_type_117 : decode b_A_type 117 = .ok (.invokevirtual 56, 3) := by decide +kernel
theorem d_A_type_120 : decode b_A_type 120 = .ok (.iload 7, 2) := by decide +kernel
theorem d_A_type_122 : decode b_A_type 122 = .ok (.if_icmp .eq 14, 3) := by decide +kernel
theorem d_A_type_125 : decode b_A_type 125 = .ok (.aload 6, 2) := by decide +kernel
theorem d_A_type_127 : decode b_A_type 127 = .ok (.iload_n 2, 1) := by decide +kernel
theorem d_A_type_128 : decode b_A_type 128 = .ok (.invokevirtual 59, 3) := by decide +kernel
theorem d_A_type_131 : decode b_A_type 131 = .ok (.ifCond .eq 5, 3) := by decide +kernel
theorem d_A_type_134 : decode b_A_type 134 = .ok (.iconst (-1), 1) := by decide +kernel
theorem d_A_type_135 : decode b_A_type 135 = .ok (.ireturn, 1) := by decide +kernel
theorem d_A_type_136 : decode b_A_type 136 = .ok (.aload 6, 2) := by decide +kernel
theorem d_A_type_138 : decode b_A_type 138 = .ok (.iload_n 2, 1) := by decide +kernel
theorem d_A_type_139 : decode b_A_type 139 = .ok (.iload_n 3, 1) := by decide +kernel
theorem d_A_type_140 : decode b_A_type 140 = .ok (.iload 4, 2) := by decide +kernel
theorem d_A_type_142 : decode b_A_type 142 = .ok (.iload 5, 2) := by decide +kernel
theorem d_A_type_144 : decode b_A_type 144 = .ok (.invokevirtual 62, 3) := by decide +kernel
theorem d_A_type_147 : decode b_A_type 147 = .ok (.iconst 0, 1) := by decide +kernel
theorem d_A_type_148 : decode b_A_type 148 = .ok (.ireturn, 1) := by decide +kernel
theorem d_A_drop_0 : decode b_A_drop 0 = .ok (.aload_n 0, 1) := by decide +kernel
theorem d_A_drop_1 : decode b_A_drop 1 = .ok (.iload_n 1, 1) := by decide +kernel
theorem d_A_drop_2 : decode b_A_drop 2 = .ok (.iload_n 2, 1) := by decide +kernel
theorem d_A_drop_3 : decode b_A_drop 3 = .ok (.invokevirtual 66, 3) := by decide +kernel
theorem d_A_drop_6 : decode b_A_drop 6 = .ok (.ifCond .eq 15, 3) := by decide +kernel
theorem d_A_drop_9 : decode b_A_drop 9 = .ok (.aload_n 0, 1) := by decide +kernel
theorem d_A_drop_10 : decode b_A_drop 10 = .ok (.iload_n 1, 1) := by decide +kernel
theorem d_A_drop_11 : decode b_A_drop 11 = .ok (.invokevirtual 44, 3) := by decide +kernel
theorem d_A_drop_14 : decode b_A_drop 14 = .ok (.iload_n 2, 1) := by decide +kernel
theorem d_A_drop_15 : decode b_A_drop 15 = .ok (.invokevirtual 59, 3) := by decide +kernel
theorem d_A_drop_18 : decode b_A_drop 18 = .ok (.ifCond .eq 5, 3) := by decide +kernel
theorem d_A_drop_21 : decode b_A_drop 21 = .ok (.iconst (-1), 1) := by decide +kernel
theorem d_A_drop_22 : decode b_A_drop 22 = .ok (.ireturn, 1) := by decide +kernel
theorem d_A_drop_23 : decode b_A_drop 23 = .ok (.aload_n 0, 1) := by decide +kernel
theorem d_A_drop_24 : decode b_A_drop 24 = .ok (.iload_n 1, 1) := by decide +kernel
theorem d_A_drop_25 : decode b_A_drop 25 = .ok (.invokevirtual 44, 3) := by decide +kernel
theorem d_A_drop_28 : decode b_A_drop 28 = .ok (.iload_n 2, 1) := by decide +kernel
theorem d_A_drop_29 : decode b_A_drop 29 = .ok (.invokevirtual 69, 3) := by decide +kernel
theorem d_A_drop_32 : decode b_A_drop 32 = .ok (.iconst 0, 1) := by decide +kernel
theorem d_A_drop_33 : decode b_A_drop 33 = .ok (.ireturn, 1) := by decide +kernel
theorem d_A_field_0 : decode b_A_field 0 = .ok (.iload_n 1, 1) := by decide +kernel
theorem d_A_field_1 : decode b_A_field 1 = .ok (.bipush 24, 2) := by decide +kernel
theorem d_A_field_3 : decode b_A_field 3 = .ok (.invokestatic 40, 3) := by decide +kernel
theorem d_A_field_6 : decode b_A_field 6 = .ok (.ifCond .eq 18, 3) := by decide +kernel
theorem d_A_field_9 : decode b_A_field 9 = .ok (.iload_n 2, 1) := by decide +kernel
theorem d_A_field_10 : decode b_A_field 10 = .ok (.iconst 4, 1) := by decide +kernel
theorem d_A_field_11 : decode b_A_field 11 = .ok (.invokestatic 40, 3) := by decide +kernel
theorem d_A_field_14 : decode b_A_field 14 = .ok (.ifCond .eq 10, 3) := by decide +kernel
theorem d_A_field_17 : decode b_A_field 17 = .ok (.iload_n 3, 1) := by decide +kernel
theorem d_A_field_18 : decode b_A_field 18 = .ok (.invokestatic 73, 3) := by decide +kernel
theorem d_A_field_21 : decode b_A_field 21 = .ok (.ifCond .ne 5, 3) := by decide +kernel
theorem d_A_field_24 : decode b_A_field 24 = .ok (.iconst (-1), 1) := by decide +kernel
theorem d_A_field_25 : decode b_A_field 25 = .ok (.ireturn, 1) := by decide +kernel
theorem d_A_field_26 : decode b_A_field 26 = .ok (.aload_n 0, 1) := by decide +kernel
theorem d_A_field_27 : decode b_A_field 27 = .ok (.iload_n 1, 1) := by decide +kernel
theorem d_A_field_28 : decode b_A_field 28 = .ok (.bipush 12, 2) := by decide +kernel
theorem d_A_field_30 : decode b_A_field 30 = .ok (.idiv, 1) := by decide +kernel
theorem d_A_field_31 : decode b_A_field 31 = .ok (.invokevirtual 44, 3) := by decide +kernel
theorem d_A_field_34 : decode b_A_field 34 = .ok (.astore 5, 2) := by decide +kernel
theorem d_A_field_36 : decode b_A_field 36 = .ok (.iload_n 1, 1) := by decide +kernel
theorem d_A_field_37 : decode b_A_field 37 = .ok (.iconst 2, 1) := by decide +kernel
theorem d_A_field_38 : decode b_A_field 38 = .ok (.idiv, 1) := by decide +kernel
theorem d_A_field_39 : decode b_A_field 39 = .ok (.bipush 6, 2) := by decide +kernel
theorem d_A_field_41 : decode b_A_field 41 = .ok (.irem, 1) := by decide +kernel
theorem d_A_field_42 : decode b_A_field 42 = .ok (.istore 6, 2) := by decide +kernel
theorem d_A_field_44 : decode b_A_field 44 = .ok (.aload 5, 2) := by decide +kernel
theorem d_A_field_46 : decode b_A_field 46 = .ok (.iload 6, 2) := by decide +kernel
theorem d_A_field_48 : decode b_A_field 48 = .ok (.invokevirtual 52, 3) := by decide +kernel
theorem d_A_field_51 : decode b_A_field 51 = .ok (.ifCond .ne 5, 3) := by decide +kernel
theorem d_A_field_54 : decode b_A_field 54 = .ok (.iconst (-1), 1) := by decide +kernel
theorem d_A_field_55 : decode b_A_field 55 = .ok (.ireturn, 1) := by decide +kernel
theorem d_A_field_56 : decode b_A_field 56 = .ok (.aload 5, 2) := by decide +kernel
theorem d_A_field_58 : decode b_A_field 58 = .ok (.iload 6, 2) := by decide +kernel
theorem d_A_field_60 : decode b_A_field 60 = .ok (.iconst 4, 1) := by decide +kernel
theorem d_A_field_61 : decode b_A_field 61 = .ok (.imul, 1) := by decide +kernel
theorem d_A_field_62 : decode b_A_field 62 = .ok (.iload_n 2, 1) := by decide +kernel
theorem d_A_field_63 : decode b_A_field 63 = .ok (.iadd, 1) := by decide +kernel
theorem d_A_field_64 : decode b_A_field 64 = .ok (.iload_n 1, 1) := by decide +kernel
theorem d_A_field_65 : decode b_A_field 65 = .ok (.iconst 2, 1) := by decide +kernel
theorem d_A_field_66 : decode b_A_field 66 = .ok (.irem, 1) := by decide +kernel
theorem d_A_field_67 : decode b_A_field 67 = .ok (.iload_n 3, 1) := by decide +kernel
theorem d_A_field_68 : decode b_A_field 68 = .ok (.iload 4, 2) := by decide +kernel
theorem d_A_field_70 : decode b_A_field 70 = .ok (.invokevirtual 76, 3) := by decide +kernel
theorem d_A_field_73 : decode b_A_field 73 = .ok (.iconst 0, 1) := by decide +kernel
theorem d_A_field_74 : decode b_A_field 74 = .ok (.ireturn, 1) := by decide +kernel
theorem d_A_method_0 : decode b_A_method 0 = .ok (.iload_n 1, 1) := by decide +kernel
theorem d_A_method_1 : decode b_A_method 1 = .ok (.bipush 12, 2) := by decide +kernel
theorem d_A_method_3 : decode b_A_method 3 = .ok (.invokestatic 40, 3) := by decide +kernel
theorem d_A_method_6 : decode b_A_method 6 = .ok (.ifCond .eq 11, 3) := by decide +kernel
theorem d_A_method_9 : decode b_A_method 9 = .ok (.iload_n 2, 1) := by decide +kernel
theorem d_A_method_10 : decode b_A_method 10 = .ok (.iconst 3, 1) := by decide +kernel
theorem d_A_method_11 : decode b_A_method 11 = .ok (.invokestatic 40, 3) := by decide +kernel
theorem d_A_method_14 : decode b_A_method 14 = .ok (.ifCond .ne 5, 3) := by decide +kernel
theorem d_A_method_17 : decode b_A_method 17 = .ok (.iconst (-1), 1) := by decide +kernel
theorem d_A_method_18 : decode b_A_method 18 = .ok (.ireturn, 1) := by decide +kernel
theorem d_A_method_19 : decode b_A_method 19 = .ok (.iload_n 3, 1) := by decide +kernel
theorem d_A_method_20 : decode b_A_method 20 = .ok (.bipush 16, 2) := by decide +kernel
theorem d_A_method_22 : decode b_A_method 22 = .ok (.invokestatic 40, 3) := by decide +kernel
theorem d_A_method_25 : decode b_A_method 25 = .ok (.ifCond .eq 11, 3) := by decide +kernel
theorem d_A_method_28 : decode b_A_method 28 = .ok (.iload 4, 2) := by decide +kernel
theorem d_A_method_30 : decode b_A_method 30 = .ok (.invokestatic 79, 3) := by decide +kernel
theorem d_A_method_33 : decode b_A_method 33 = .ok (.ifCond .ne 5, 3) := by decide +kernel
theorem d_A_method_36 : decode b_A_method 36 = .ok (.iconst (-1), 1) := by decide +kernel
theorem d_A_method_37 : decode b_A_method 37 = .ok (.ireturn, 1) := by decide +kernel
theorem d_A_method_38 : decode b_A_method 38 = .ok (.aload_n 0, 1) := by decide +kernel
theorem d_A_method_39 : decode b_A_method 39 = .ok (.iload_n 1, 1) := by decide +kernel
theorem d_A_method_40 : decode b_A_method 40 = .ok (.bipush 6, 2) := by decide +kernel
theorem d_A_method_42 : decode b_A_method 42 = .ok (.idiv, 1) := by decide +kernel
theorem d_A_method_43 : decode b_A_method 43 = .ok (.invokevirtual 44, 3) := by decide +kernel
theorem d_A_method_46 : decode b_A_method 46 = .ok (.astore 5, 2) := by decide +kernel
theorem d_A_method_48 : decode b_A_method 48 = .ok (.iload_n 1, 1) := by decide +kernel
theorem d_A_method_49 : decode b_A_method 49 = .ok (.bipush 6, 2) := by decide +kernel
theorem d_A_method_51 : decode b_A_method 51 = .ok (.irem, 1) := by decide +kernel
theorem d_A_method_52 : decode b_A_method 52 = .ok (.istore 6, 2) := by decide +kernel
theorem d_A_method_54 : decode b_A_method 54 = .ok (.aload 5, 2) := by decide +kernel
theorem d_A_method_56 : decode b_A_method 56 = .ok (.iload 6, 2) := by decide +kernel
theorem d_A_method_58 : decode b_A_method 58 = .ok (.invokevirtual 52, 3) := by decide +kernel
theorem d_A_method_61 : decode b_A_method 61 = .ok (.ifCond .ne 5, 3) := by decide +kernel
theorem d_A_method_64 : decode b_A_method 64 = .ok (.iconst (-1), 1) := by decide +kernel
theorem d_A_method_65 : decode b_A_method 65 = .ok (.ireturn, 1) := by decide +kernel
theorem d_A_method_66 : decode b_A_method 66 = .ok (.aload 5, 2) := by decide +kernel
theorem d_A_method_68 : decode b_A_method 68 = .ok (.iload 6, 2) := by decide +kernel
theorem d_A_method_70 : decode b_A_method 70 = .ok (.iload_n 2, 1) := by decide +kernel
theorem d_A_method_71 : decode b_A_method 71 = .ok (.iload_n 3, 1) := by decide +kernel
theorem d_A_method_72 : decode b_A_method 72 = .ok (.iconst 4, 1) := by decide +kernel
theorem d_A_method_73 : decode b_A_method 73 = .ok (.idiv, 1) := by decide +kernel
theorem d_A_method_74 : decode b_A_method 74 = .ok (.invokestatic 82, 3) := by decide +kernel
theorem d_A_method_77 : decode b_A_method 77 = .ok (.iload_n 3, 1) := by decide +kernel
theorem d_A_method_78 : decode b_A_method 78 = .ok (.iconst 4, 1) := by decide +kernel
theorem d_A_method_79 : decode b_A_method 79 = .ok (.irem, 1) := by decide +kernel
theorem d_A_method_80 : decode b_A_method 80 = .ok (.iload 4, 2) := by decide +kernel
theorem d_A_method_82 : decode b_A_method 82 = .ok (.invokevirtual 86, 3) := by decide +kernel
theorem d_A_method_85 : decode b_A_method 85 = .ok (.iconst 0, 1) := by decide +kernel
theorem d_A_method_86 : decode b_A_method 86 = .ok (.ireturn, 1) := by decide +kernel
theorem d_A_cut_0 : decode b_A_cut 0 = .ok (.aload_n 0, 1) := by decide +kernel
theorem d_A_cut_1 : decode b_A_cut 1 = .ok (.iload_n 1, 1) := by decide +kernel
theorem d_A_cut_2 : decode b_A_cut 2 = .ok (.iload_n 2, 1) := by decide +kernel
theorem d_A_cut_3 : decode b_A_cut 3 = .ok (.invokevirtual 66, 3) := by decide +kernel
theorem d_A_cut_6 : decode b_A_cut 6 = .ok (.ifCond .ne 5, 3) := by decide +kernel
theorem d_A_cut_9 : decode b_A_cut 9 = .ok (.iconst (-1), 1) := by decide +kernel
theorem d_A_cut_10 : decode b_A_cut 10 = .ok (.ireturn, 1) := by decide +kernel
theorem d_A_cut_11 : decode b_A_cut 11 = .ok (.iload 4, 2) := by decide +kernel
theorem d_A_cut_13 : decode b_A_cut 13 = .ok (.iconst 4, 1) := by decide +kernel
theorem d_A_cut_14 : decode b_A_cut 14 = .ok (.if_icmp .ne 35, 3) := by decide +kernel
theorem d_A_cut_17 : decode b_A_cut 17 = .ok (.iload_n 3, 1) := by decide +kernel
theorem d_A_cut_18 : decode b_A_cut 18 = .ok (.iconst 4, 1) := by decide +kernel
theorem d_A_cut_19 : decode b_A_cut 19 = .ok (.invokestatic 40, 3) := by decide +kernel
theorem d_A_cut_22 : decode b_A_cut 22 = .ok (.ifCond .ne 5, 3) := by decide +kernel
theorem d_A_cut_25 : decode b_A_cut 25 = .ok (.iconst (-1), 1) := by decide +kernel
theorem d_A_cut_26 : decode b_A_cut 26 = .ok (.ireturn, 1) := by decide +kernel
theorem d_A_cut_27 : decode b_A_cut 27 = .ok (.aload_n 0, 1) := by decide +kernel
theorem d_A_cut_28 : decode b_A_cut 28 = .ok (.iload_n 1, 1) := by decide +kernel
theorem d_A_cut_29 : decode b_A_cut 29 = .ok (.invokevirtual 44, 3) := by decide +kernel
theorem d_A_cut_32 : decode b_A_cut 32 = .ok (.iload_n 2, 1) := by decide +kernel
theorem d_A_cut_33 : decode b_A_cut 33 = .ok (.iconst 4, 1) := by decide +kernel
theorem d_A_cut_34 : decode b_A_cut 34 = .ok (.imul, 1) := by decide +kernel
theorem d_A_cut_35 : decode b_A_cut 35 = .ok (.iload_n 3, 1) := by decide +kernel
theorem d_A_cut_36 : decode b_A_cut 36 = .ok (.iadd, 1) := by decide +kernel
theorem d_A_cut_37 : decode b_A_cut 37 = .ok (.invokevirtual 90, 3) := by decide +kernel
theorem d_A_cut_40 : decode b_A_cut 40 = .ok (.ifCond .eq 7, 3) := by decide +kernel
theorem d_A_cut_43 : decode b_A_cut 43 = .ok (.iconst 0, 1) := by decide +kernel
theorem d_A_cut_44 : decode b_A_cut 44 = .ok (.goto 4, 3) := by decide +kernel
theorem d_A_cut_47 : decode b_A_cut 47 = .ok (.iconst (-1), 1) := by decide +kernel
theorem d_A_cut_48 : decode b_A_cut 48 = .ok (.ireturn, 1) := by decide +kernel
theorem d_A_cut_49 : decode b_A_cut 49 = .ok (.iload_n 3, 1) := by decide +kernel
theorem d_A_cut_50 : decode b_A_cut 50 = .ok (.iconst 3, 1) := by decide +kernel
theorem d_A_cut_51 : decode b_A_cut 51 = .ok (.invokestatic 40, 3) := by decide +kernel
theorem d_A_cut_54 : decode b_A_cut 54 = .ok (.ifCond .eq 12, 3) := by decide +kernel
theorem d_A_cut_57 : decode b_A_cut 57 = .ok (.iload 4, 2) := by decide +kernel
theorem d_A_cut_59 : decode b_A_cut 59 = .ok (.iconst 4, 1) := by decide +kernel
theorem d_A_cut_60 : decode b_A_cut 60 = .ok (.invokestatic 40, 3) := by decide +kernel
theorem d_A_cut_63 : decode b_A_cut 63 = .ok (.ifCond .ne 5, 3) := by decide +kernel
theorem d_A_cut_66 : decode b_A_cut 66 = .ok (.iconst (-1), 1) := by decide +kernel
theorem d_A_cut_67 : decode b_A_cut 67 = .ok (.ireturn, 1) := by decide +kernel
theorem d_A_cut_68 : decode b_A_cut 68 = .ok (.aload_n 0, 1) := by decide +kernel
theorem d_A_cut_69 : decode b_A_cut 69 = .ok (.iload_n 1, 1) := by decide +kernel
theorem d_A_cut_70 : decode b_A_cut 70 = .ok (.invokevirtual 44, 3) := by decide +kernel
theorem d_A_cut_73 : decode b_A_cut 73 = .ok (.iload_n 2, 1) := by decide +kernel
theorem d_A_cut_74 : decode b_A_cut 74 = .ok (.iload_n 3, 1) := by decide +kernel
theorem d_A_cut_75 : decode b_A_cut 75 = .ok (.iload 4, 2) := by decide +kernel
theorem d_A_cut_77 : decode b_A_cut 77 = .ok (.invokestatic 82, 3) := by decide +kernel
theorem d_A_cut_80 : decode b_A_cut 80 = .ok (.invokevirtual 93, 3) := by decide +kernel
theorem d_A_cut_83 : decode b_A_cut 83 = .ok (.ifCond .eq 7, 3) := by decide +kernel
theorem d_A_cut_86 : decode b_A_cut 86 = .ok (.iconst 0, 1) := by decide +kernel
theorem d_A_cut_87 : decode b_A_cut 87 = .ok (.goto 4, 3) := by decide +kernel
theorem d_A_cut_90 : decode b_A_cut 90 = .ok (.iconst (-1), 1) := by decide +kernel
theorem d_A_cut_91 : decode b_A_cut 91 = .ok (.ireturn, 1) := by decide +kernel
theorem d_A_copy_0 : decode b_A_copy 0 = .ok (.aload_n 0, 1) := by decide +kernel
theorem d_A_copy_1 : decode b_A_copy 1 = .ok (.getfield 16, 3) := by decide +kernel
theorem d_A_copy_4 : decode b_A_copy 4 = .ok (.aload_n 0, 1) := by decide +kernel
theorem d_A_copy_5 : decode b_A_copy 5 = .ok (.getfield 12, 3) := by decide +kernel
theorem d_A_copy_8 : decode b_A_copy 8 = .ok (.invokevirtual 96, 3) := by decide +kernel
theorem d_A_copy_11 : decode b_A_copy 11 = .ok (.iconst 0, 1) := by decide +kernel
theorem d_A_copy_12 : decode b_A_copy 12 = .ok (.ireturn, 1) := by decide +kernel
theorem d_A_use_0 : decode b_A_use 0 = .ok (.iload_n 1, 1) := by decide +kernel
theorem d_A_use_1 : decode b_A_use 1 = .ok (.bipush 7, 2) := by decide +kernel
theorem d_A_use_3 : decode b_A_use 3 = .ok (.invokestatic 40, 3) := by decide +kernel
theorem d_A_use_6 : decode b_A_use 6 = .ok (.ifCond .eq 12, 3) := by decide +kernel
theorem d_A_use_9 : decode b_A_use 9 = .ok (.iload_n 2, 1) := by decide +kernel
theorem d_A_use_10 : decode b_A_use 10 = .ok (.bipush 6, 2) := by decide +kernel
theorem d_A_use_12 : decode b_A_use 12 = .ok (.invokestatic 40, 3) := by decide +kernel
theorem d_A_use_15 : decode b_A_use 15 = .ok (.ifCond .ne 5, 3) := by decide +kernel
theorem d_A_use_18 : decode b_A_use 18 = .ok (.iconst (-1), 1) := by decide +kernel
theorem d_A_use_19 : decode b_A_use 19 = .ok (.ireturn, 1) := by decide +kernel
theorem d_A_use_20 : decode b_A_use 20 = .ok (.iload_n 1, 1) := by decide +kernel
theorem d_A_use_21 : decode b_A_use 21 = .ok (.iconst 2, 1) := by decide +kernel
theorem d_A_use_22 : decode b_A_use 22 = .ok (.if_icmp .eq 14, 3) := by decide +kernel
theorem d_A_use_25 : decode b_A_use 25 = .ok (.iload_n 1, 1) := by decide +kernel
theorem d_A_use_26 : decode b_A_use 26 = .ok (.iconst 3, 1) := by decide +kernel
theorem d_A_use_27 : decode b_A_use 27 = .ok (.if_icmp .eq 9, 3) := by decide +kernel
theorem d_A_use_30 : decode b_A_use 30 = .ok (.iload_n 1, 1) := by decide +kernel
theorem d_A_use_31 : decode b_A_use 31 = .ok (.bipush 6, 2) := by decide +kernel
theorem d_A_use_33 : decode b_A_use 33 = .ok (.if_icmp .ne 7, 3) := by decide +kernel
theorem d_A_use_36 : decode b_A_use 36 = .ok (.iconst 1, 1) := by decide +kernel
theorem d_A_use_37 : decode b_A_use 37 = .ok (.goto 4, 3) := by decide +kernel
theorem d_A_use_40 : decode b_A_use 40 = .ok (.iconst 0, 1) := by decide +kernel
theorem d_A_use_41 : decode b_A_use 41 = .ok (.istore 5, 2) := by decide +kernel
theorem d_A_use_43 : decode b_A_use 43 = .ok (.iload_n 3, 1) := by decide +kernel
theorem d_A_use_44 : decode b_A_use 44 = .ok (.iload 5, 2) := by decide +kernel
theorem d_A_use_46 : decode b_A_use 46 = .ok (.ifCond .eq 7, 3) := by decide +kernel
theorem d_A_use_49 : decode b_A_use 49 = .ok (.iconst 3, 1) := by decide +kernel
theorem d_A_use_50 : decode b_A_use 50 = .ok (.goto 4, 3) := by decide +kernel
theorem d_A_use_53 : decode b_A_use 53 = .ok (.iconst 4, 1) := by decide +kernel
theorem d_A_use_54 : decode b_A_use 54 = .ok (.invokestatic 40, 3) := by decide +kernel
theorem d_A_use_57 : decode b_A_use 57 = .ok (.ifCond .ne 5, 3) := by decide +kernel
theorem d_A_use_60 : decode b_A_use 60 = .ok (.iconst (-1), 1) := by decide +kernel
theorem d_A_use_61 : decode b_A_use 61 = .ok (.ireturn, 1) := by decide +kernel
theorem d_A_use_62 : decode b_A_use 62 = .ok (.iload 5, 2) := by decide +kernel
theorem d_A_use_64 : decode b_A_use 64 = .ok (.ifCond .eq 14, 3) := by decide +kernel
theorem d_A_use_67 : decode b_A_use 67 = .ok (.iload 4, 2) := by decide +kernel
theorem d_A_use_69 : decode b_A_use 69 = .ok (.iconst 4, 1) := by decide +kernel
theorem d_A_use_70 : decode b_A_use 70 = .ok (.invokestatic 40, 3) := by decide +kernel
theorem d_A_use_73 : decode b_A_use 73 = .ok (.ifCond .ne 5, 3) := by decide +kernel
theorem d_A_use_76 : decode b_A_use 76 = .ok (.iconst (-1), 1) := by decide +kernel
theorem d_A_use_77 : decode b_A_use 77 = .ok (.ireturn, 1) := by decide +kernel
theorem d_A_use_78 : decode b_A_use 78 = .ok (.aload_n 0, 1) := by decide +kernel
theorem d_A_use_79 : decode b_A_use 79 = .ok (.getfield 26, 3) := by decide +kernel
theorem d_A_use_82 : decode b_A_use 82 = .ok (.bipush 16, 2) := by decide +kernel
theorem d_A_use_84 : decode b_A_use 84 = .ok (.if_icmp .lt 6, 3) := by decide +kernel
theorem d_A_use_87 : decode b_A_use 87 = .ok (.bipush (-2), 2) := by decide +kernel
theorem d_A_use_89 : decode b_A_use 89 = .ok (.ireturn, 1) := by decide +kernel
theorem d_A_use_90 : decode b_A_use 90 = .ok (.aload_n 0, 1) := by decide +kernel
theorem d_A_use_91 : decode b_A_use 91 = .ok (.getfield 21, 3) := by decide +kernel
theorem d_A_use_94 : decode b_A_use 94 = .ok (.aload_n 0, 1) := by decide +kernel
theorem d_A_use_95 : decode b_A_use 95 = .ok (.getfield 26, 3) := by decide +kernel
theorem d_A_use_98 : decode b_A_use 98 = .ok (.aaload, 1) := by decide +kernel
theorem d_A_use_99 : decode b_A_use 99 = .ok (.iload_n 1, 1) := by decide +kernel
theorem d_A_use_100 : decode b_A_use 100 = .ok (.iload_n 2, 1) := by decide +kernel
theorem d_A_use_101 : decode b_A_use 101 = .ok (.iload_n 3, 1) := by decide +kernel
theorem d_A_use_102 : decode b_A_use 102 = .ok (.iload 4, 2) := by decide +kernel
theorem d_A_use_104 : decode b_A_use 104 = .ok (.invokevirtual 100, 3) := by decide +kernel
theorem d_A_use_107 : decode b_A_use 107 = .ok (.aload_n 0, 1) := by decide +kernel
theorem d_A_use_108 : decode b_A_use 108 = .ok (.dup, 1) := by decide +kernel
theorem d_A_use_109 : decode b_A_use 109 = .ok (.getfield 26, 3) := by decide +kernel
theorem d_A_use_112 : decode b_A_use 112 = .ok (.iconst 1, 1) := by decide +kernel
theorem d_A_use_113 : decode b_A_use 113 = .ok (.iadd, 1) := by decide +kernel
theorem d_A_use_114 : decode b_A_use 114 = .ok (.putfield 26, 3) := by decide +kernel
theorem d_A_use_117 : decode b_A_use 117 = .ok (.aload_n 0, 1) := by decide +kernel
theorem d_A_use_118 : decode b_A_use 118 = .ok (.getfield 26, 3) := by decide +kernel
theorem d_A_use_121 : decode b_A_use 121 = .ok (.iconst 1, 1) := by decide +kernel
theorem d_A_use_122 : decode b_A_use 122 = .ok (.isub, 1) := by decide +kernel
theorem d_A_use_123 : decode b_A_use 123 = .ok (.ireturn, 1) := by decide +kernel
theorem d_A_compile_0 : decode b_A_compile 0 = .ok (.iload_n 1, 1) := by decide +kernel
theorem d_A_compile_1 : decode b_A_compile 1 = .ok (.aload_n 0, 1) := by decide +kernel
theorem d_A_compile_2 : decode b_A_compile 2 = .ok (.getfield 26, 3) := by decide +kernel
theorem d_A_compile_5 : decode b_A_compile 5 = .ok (.invokestatic 40, 3) := by decide +kernel
theorem d_A_compile_8 : decode b_A_compile 8 = .ok (.ifCond .eq 11, 3) := by decide +kernel
theorem d_A_compile_11 : decode b_A_compile 11 = .ok (.iload_n 2, 1) := by decide +kernel
theorem d_A_compile_12 : decode b_A_compile 12 = .ok (.iconst 2, 1) := by decide +kernel
theorem d_A_compile_13 : decode b_A_compile 13 = .ok (.invokestatic 40, 3) := by decide +kernel
theorem d_A_compile_16 : decode b_A_compile 16 = .ok (.ifCond .ne 5, 3) := by decide +kernel
theorem d_A_compile_19 : decode b_A_compile 19 = .ok (.iconst (-1), 1) := by decide +kernel
theorem d_A_compile_20 : decode b_A_compile 20 = .ok (.ireturn, 1) := by decide +kernel
theorem d_A_compile_21 : decode b_A_compile 21 = .ok (.aload_n 0, 1) := by decide +kernel
theorem d_A_compile_22 : decode b_A_compile 22 = .ok (.getfield 33, 3) := by decide +kernel
theorem d_A_compile_25 : decode b_A_compile 25 = .ok (.aload_n 0, 1) := by decide +kernel
theorem d_A_compile_26 : decode b_A_compile 26 = .ok (.getfield 21, 3) := by decide +kernel
theorem d_A_compile_29 : decode b_A_compile 29 = .ok (.iload_n 1, 1) := by decide +kernel
theorem d_A_compile_30 : decode b_A_compile 30 = .ok (.aaload, 1) := by decide +kernel
theorem d_A_compile_31 : decode b_A_compile 31 = .ok (.aload_n 0, 1) := by decide +kernel
theorem d_A_compile_32 : decode b_A_compile 32 = .ok (.iload_n 2, 1) := by decide +kernel
theorem d_A_compile_33 : decode b_A_compile 33 = .ok (.invokevirtual 44, 3) := by decide +kernel
theorem d_A_compile_36 : decode b_A_compile 36 = .ok (.invokevirtual 103, 3) := by decide +kernel
theorem d_A_compile_39 : decode b_A_compile 39 = .ok (.aload_n 0, 1) := by decide +kernel
theorem d_A_compile_40 : decode b_A_compile 40 = .ok (.getfield 33, 3) := by decide +kernel
theorem d_A_compile_43 : decode b_A_compile 43 = .ok (.getfield 107, 3) := by decide +kernel
theorem d_A_compile_46 : decode b_A_compile 46 = .ok (.ireturn, 1) := by decide +kernel
theorem d_A_link_0 : decode b_A_link 0 = .ok (.iload_n 1, 1) := by decide +kernel
theorem d_A_link_1 : decode b_A_link 1 = .ok (.aload_n 0, 1) := by decide +kernel
theorem d_A_link_2 : decode b_A_link 2 = .ok (.getfield 26, 3) := by decide +kernel
theorem d_A_link_5 : decode b_A_link 5 = .ok (.invokestatic 40, 3) := by decide +kernel
theorem d_A_link_8 : decode b_A_link 8 = .ok (.ifCond .ne 5, 3) := by decide +kernel
theorem d_A_link_11 : decode b_A_link 11 = .ok (.iconst (-1), 1) := by decide +kernel
theorem d_A_link_12 : decode b_A_link 12 = .ok (.ireturn, 1) := by decide +kernel
theorem d_A_link_13 : decode b_A_link 13 = .ok (.aload_n 0, 1) := by decide +kernel
theorem d_A_link_14 : decode b_A_link 14 = .ok (.iload_n 1, 1) := by decide +kernel
theorem d_A_link_15 : decode b_A_link 15 = .ok (.invokevirtual 110, 3) := by decide +kernel
theorem d_A_link_18 : decode b_A_link 18 = .ok (.ireturn, 1) := by decide +kernel
theorem d_A_recompile_0 : decode b_A_recompile 0 = .ok (.iload_n 1, 1) := by decide +kernel
theorem d_A_recompile_1 : decode b_A_recompile 1 = .ok (.aload_n 0, 1) := by decide +kernel
theorem d_A_recompile_2 : decode b_A_recompile 2 = .ok (.getfield 26, 3) := by decide +kernel
theorem d_A_recompile_5 : decode b_A_recompile 5 = .ok (.invokestatic 40, 3) := by decide +kernel
theorem d_A_recompile_8 : decode b_A_recompile 8 = .ok (.ifCond .ne 5, 3) := by decide +kernel
theorem d_A_recompile_11 : decode b_A_recompile 11 = .ok (.iconst (-1), 1) := by decide +kernel
theorem d_A_recompile_12 : decode b_A_recompile 12 = .ok (.ireturn, 1) := by decide +kernel
theorem d_A_recompile_13 : decode b_A_recompile 13 = .ok (.aload_n 0, 1) := by decide +kernel
theorem d_A_recompile_14 : decode b_A_recompile 14 = .ok (.getfield 33, 3) := by decide +kernel
theorem d_A_recompile_17 : decode b_A_recompile 17 = .ok (.aload_n 0, 1) := by decide +kernel
theorem d_A_recompile_18 : decode b_A_recompile 18 = .ok (.getfield 21, 3) := by decide +kernel
theorem d_A_recompile_21 : decode b_A_recompile 21 = .ok (.iload_n 1, 1) := by decide +kernel
theorem d_A_recompile_22 : decode b_A_recompile 22 = .ok (.aaload, 1) := by decide +kernel
theorem d_A_recompile_23 : decode b_A_recompile 23 = .ok (.aload_n 0, 1) := by decide +kernel
theorem d_A_recompile_24 : decode b_A_recompile 24 = .ok (.getfield 12, 3) := by decide +kernel
theorem d_A_recompile_27 : decode b_A_recompile 27 = .ok (.invokevirtual 103, 3) := by decide +kernel
theorem d_A_recompile_30 : decode b_A_recompile 30 = .ok (.aload_n 0, 1) := by decide +kernel
theorem d_A_recompile_31 : decode b_A_recompile 31 = .ok (.getfield 33, 3) := by decide +kernel
theorem d_A_recompile_34 : decode b_A_recompile 34 = .ok (.getfield 107, 3) := by decide +kernel
theorem d_A_recompile_37 : decode b_A_recompile 37 = .ok (.ifCond .eq 11, 3) := by decide +kernel
theorem d_A_recompile_40 : decode b_A_recompile 40 = .ok (.aload_n 0, 1) := by decide +kernel
theorem d_A_recompile_41 : decode b_A_recompile 41 = .ok (.getfield 33, 3) := by decide +kernel
theorem d_A_recompile_44 : decode b_A_recompile 44 = .ok (.getfield 107, 3) := by decide +kernel
theorem d_A_recompile_47 : decode b_A_recompile 47 = .ok (.ireturn, 1) := by decide +kernel
theorem d_A_recompile_48 : decode b_A_recompile 48 = .ok (.aload_n 0, 1) := by decide +kernel
theorem d_A_recompile_49 : decode b_A_recompile 49 = .ok (.getfield 37, 3) := by decide +kernel
theorem d_A_recompile_52 : decode b_A_recompile 52 = .ok (.aload_n 0, 1) := by decide +kernel
theorem d_A_recompile_53 : decode b_A_recompile 53 = .ok (.getfield 21, 3) := by decide +kernel
theorem d_A_recompile_56 : decode b_A_recompile 56 = .ok (.iload_n 1, 1) := by decide +kernel
theorem d_A_recompile_57 : decode b_A_recompile 57 = .ok (.aaload, 1) := by decide +kernel
theorem d_A_recompile_58 : decode b_A_recompile 58 = .ok (.aload_n 0, 1) := by decide +kernel
theorem d_A_recompile_59 : decode b_A_recompile 59 = .ok (.getfield 16, 3) := by decide +kernel
theorem d_A_recompile_62 : decode b_A_recompile 62 = .ok (.invokevirtual 103, 3) := by decide +kernel
theorem d_A_recompile_65 : decode b_A_recompile 65 = .ok (.aload_n 0, 1) := by decide +kernel
theorem d_A_recompile_66 : decode b_A_recompile 66 = .ok (.getfield 37, 3) := by decide +kernel
theorem d_A_recompile_69 : decode b_A_recompile 69 = .ok (.getfield 107, 3) := by decide +kernel
theorem d_A_recompile_72 : decode b_A_recompile 72 = .ok (.ifCond .eq 11, 3) := by decide +kernel
theorem d_A_recompile_75 : decode b_A_recompile 75 = .ok (.aload_n 0, 1) := by decide +kernel
theorem d_A_recompile_76 : decode b_A_recompile 76 = .ok (.getfield 37, 3) := by decide +kernel
theorem d_A_recompile_79 : decode b_A_recompile 79 = .ok (.getfield 107, 3) := by decide +kernel
theorem d_A_recompile_82 : decode b_A_recompile 82 = .ok (.ireturn, 1) := by decide +kernel
theorem d_A_recompile_83 : decode b_A_recompile 83 = .ok (.aload_n 0, 1) := by decide +kernel
theorem d_A_recompile_84 : decode b_A_recompile 84 = .ok (.getfield 33, 3) := by decide +kernel
theorem d_A_recompile_87 : decode b_A_recompile 87 = .ok (.aload_n 0, 1) := by decide +kernel
theorem d_A_recompile_88 : decode b_A_recompile 88 = .ok (.getfield 37, 3) := by decide +kernel
theorem d_A_recompile_91 : decode b_A_recompile 91 = .ok (.aload_n 0, 1) := by decide +kernel
theorem d_A_recompile_92 : decode b_A_recompile 92 = .ok (.getfield 21, 3) := by decide +kernel
theorem d_A_recompile_95 : decode b_A_recompile 95 = .ok (.iload_n 1, 1) := by decide +kernel
theorem d_A_recompile_96 : decode b_A_recompile 96 = .ok (.aaload, 1) := by decide +kernel
theorem d_A_recompile_97 : decode b_A_recompile 97 = .ok (.getfield 114, 3) := by decide +kernel
theorem d_A_recompile_100 : decode b_A_recompile 100 = .ok (.invokevirtual 117, 3) := by decide +kernel
theorem d_A_recompile_103 : decode b_A_recompile 103 = .ok (.ifCond .eq 7, 3) := by decide +kernel
theorem d_A_recompile_106 : decode b_A_recompile 106 = .ok (.iconst 0, 1) := by decide +kernel
theorem d_A_recompile_107 : decode b_A_recompile 107 = .ok (.goto 4, 3) := by decide +kernel
theorem d_A_recompile_110 : decode b_A_recompile 110 = .ok (.iconst 1, 1) := by decide +kernel
theorem d_A_recompile_111 : decode b_A_recompile 111 = .ok (.ireturn, 1) := by decide +kernel
theorem d_A_value_0 : decode b_A_value 0 = .ok (.iload_n 1, 1) := by decide +kernel
theorem d_A_value_1 : decode b_A_value 1 = .ok (.aload_n 0, 1) := by decide +kernel
theorem d_A_value_2 : decode b_A_value 2 = .ok (.getfield 26, 3) := by decide +kernel
theorem d_A_value_5 : decode b_A_value 5 = .ok (.invokestatic 40, 3) := by decide +kernel
theorem d_A_value_8 : decode b_A_value 8 = .ok (.ifCond .eq 11, 3) := by decide +kernel
theorem d_A_value_11 : decode b_A_value 11 = .ok (.iload_n 2, 1) := by decide +kernel
theorem d_A_value_12 : decode b_A_value 12 = .ok (.iconst 2, 1) := by decide +kernel
theorem d_A_value_13 : decode b_A_value 13 = .ok (.invokestatic 40, 3) := by decide +kernel
theorem d_A_value_16 : decode b_A_value 16 = .ok (.ifCond .ne 5, 3) := by decide +kernel
theorem d_A_value_19 : decode b_A_value 19 = .ok (.dconst 0, 1) := by decide +kernel
theorem d_A_value_20 : decode b_A_value 20 = .ok (.dreturn, 1) := by decide +kernel
theorem d_A_value_21 : decode b_A_value 21 = .ok (.aload_n 0, 1) := by decide +kernel
theorem d_A_value_22 : decode b_A_value 22 = .ok (.getfield 33, 3) := by decide +kernel
theorem d_A_value_25 : decode b_A_value 25 = .ok (.aload_n 0, 1) := by decide +kernel
theorem d_A_value_26 : decode b_A_value 26 = .ok (.getfield 21, 3) := by decide +kernel
theorem d_A_value_29 : decode b_A_value 29 = .ok (.iload_n 1, 1) := by decide +kernel
theorem d_A_value_30 : decode b_A_value 30 = .ok (.aaload, 1) := by decide +kernel
theorem d_A_value_31 : decode b_A_value 31 = .ok (.aload_n 0, 1) := by decide +kernel
theorem d_A_value_32 : decode b_A_value 32 = .ok (.iload_n 2, 1) := by decide +kernel
theorem d_A_value_33 : decode b_A_value 33 = .ok (.invokevirtual 44, 3) := by decide +kernel
theorem d_A_value_36 : decode b_A_value 36 = .ok (.invokevirtual 103, 3) := by decide +kernel
theorem d_A_value_39 : decode b_A_value 39 = .ok (.aload_n 0, 1) := by decide +kernel
theorem d_A_value_40 : decode b_A_value 40 = .ok (.getfield 33, 3) := by decide +kernel
theorem d_A_value_43 : decode b_A_value 43 = .ok (.getfield 121, 3) := by decide +kernel
theorem d_A_value_46 : decode b_A_value 46 = .ok (.ifCond .ne 5, 3) := by decide +kernel
theorem d_A_value_49 : decode b_A_value 49 = .ok (.dconst 0, 1) := by decide +kernel
theorem d_A_value_50 : decode b_A_value 50 = .ok (.dreturn, 1) := by decide +kernel
theorem d_A_value_51 : decode b_A_value 51 = .ok (.aload_n 0, 1) := by decide +kernel
theorem d_A_value_52 : decode b_A_value 52 = .ok (.getfield 33, 3) := by decide +kernel
theorem d_A_value_55 : decode b_A_value 55 = .ok (.getfield 125, 3) := by decide +kernel
theorem d_A_value_58 : decode b_A_value 58 = .ok (.iconst 1, 1) := by decide +kernel
theorem d_A_value_59 : decode b_A_value 59 = .ok (.if_icmp .ne 18, 3) := by decide +kernel
theorem d_A_value_62 : decode b_A_value 62 = .ok (.aload_n 0, 1) := by decide +kernel
theorem d_A_value_63 : decode b_A_value 63 = .ok (.getfield 33, 3) := by decide +kernel
theorem d_A_value_66 : decode b_A_value 66 = .ok (.getfield 128, 3) := by decide +kernel
theorem d_A_value_69 : decode b_A_value 69 = .ok (.i2d, 1) := by decide +kernel
theorem d_A_value_70 : decode b_A_value 70 = .ok (.ldc2_w 131, 3) := by decide +kernel
theorem d_A_value_73 : decode b_A_value 73 = .ok (.dmul, 1) := by decide +kernel
theorem d_A_value_74 : decode b_A_value 74 = .ok (.goto 11, 3) := by decide +kernel
theorem d_A_value_77 : decode b_A_value 77 = .ok (.aload_n 0, 1) := by decide +kernel
theorem d_A_value_78 : decode b_A_value 78 = .ok (.getfield 33, 3) := by decide +kernel
theorem d_A_value_81 : decode b_A_value 81 = .ok (.getfield 128, 3) := by decide +kernel
theorem d_A_value_84 : decode b_A_value 84 = .ok (.i2d, 1) := by decide +kernel
theorem d_A_value_85 : decode b_A_value 85 = .ok (.dreturn, 1) := by decide +kernel
theorem d_A_share_0 : decode b_A_share 0 = .ok (.iconst 0, 1) := by decide +kernel
theorem d_A_share_1 : decode b_A_share 1 = .ok (.istore_n 1, 1) := by decide +kernel
theorem d_A_share_2 : decode b_A_share 2 = .ok (.iconst 0, 1) := by decide +kernel
theorem d_A_share_3 : decode b_A_share 3 = .ok (.istore_n 2, 1) := by decide +kernel
theorem d_A_share_4 : decode b_A_share 4 = .ok (.iconst 0, 1) := by decide +kernel
theorem d_A_share_5 : decode b_A_share 5 = .ok (.istore_n 3, 1) := by decide +kernel
theorem d_A_share_6 : decode b_A_share 6 = .ok (.iload_n 3, 1) := by decide +kernel
theorem d_A_share_7 : decode b_A_share 7 = .ok (.aload_n 0, 1) := by decide +kernel
theorem d_A_share_8 : decode b_A_share 8 = .ok (.getfield 26, 3) := by decide +kernel
theorem d_A_share_11 : decode b_A_share 11 = .ok (.if_icmp .ge 35, 3) := by decide +kernel
theorem d_A_share_14 : decode b_A_share 14 = .ok (.aload_n 0, 1) := by decide +kernel
theorem d_A_share_15 : decode b_A_share 15 = .ok (.iload_n 3, 1) := by decide +kernel
theorem d_A_share_16 : decode b_A_share 16 = .ok (.invokevirtual 110, 3) := by decide +kernel
theorem d_A_share_19 : decode b_A_share 19 = .ok (.istore 4, 2) := by decide +kernel
theorem d_A_share_21 : decode b_A_share 21 = .ok (.iload 4, 2) := by decide +kernel
theorem d_A_share_23 : decode b_A_share 23 = .ok (.invokestatic 133, 3) := by decide +kernel
theorem d_A_share_26 : decode b_A_share 26 = .ok (.ifCond .ne 6, 3) := by decide +kernel
theorem d_A_share_29 : decode b_A_share 29 = .ok (.iinc 1 1, 3) := by decide +kernel
theorem d_A_share_32 : decode b_A_share 32 = .ok (.iload 4, 2) := by decide +kernel
theorem d_A_share_34 : decode b_A_share 34 = .ok (.ifCond .lt 6, 3) := by decide +kernel
