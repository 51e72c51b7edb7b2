theorem d_B_fateOfField_53 : decode b_B_fateOfField 53 = .ok (.ifCond .eq 6, 3) := by decide +kernel
theorem d_B_fateOfField_56 : decode b_B_fateOfField 56 = .ok (.bipush (-8), 2) := by decide +kernel
theorem d_B_fateOfField_58 : decode b_B_fateOfField 58 = .ok (.ireturn, 1) := by decide +kernel
theorem d_B_fateOfField_59 : decode b_B_fateOfField 59 = .ok (.iload 4, 2) := by decide +kernel
theorem d_B_fateOfField_61 : decode b_B_fateOfField 61 = .ok (.iconst 1, 1) := by decide +kernel
theorem d_B_fateOfField_62 : decode b_B_fateOfField 62 = .ok (.iand, 1) := by decide +kernel
theorem d_B_fateOfField_63 : decode b_B_fateOfField 63 = .ok (.ifCond .eq 7, 3) := by decide +kernel
theorem d_B_fateOfField_66 : decode b_B_fateOfField 66 = .ok (.iconst 1, 1) := by decide +kernel
theorem d_B_fateOfField_67 : decode b_B_fateOfField 67 = .ok (.goto 4, 3) := by decide +kernel
theorem d_B_fateOfField_70 : decode b_B_fateOfField 70 = .ok (.iconst 0, 1) := by decide +kernel
theorem d_B_fateOfField_71 : decode b_B_fateOfField 71 = .ok (.aload_n 0, 1) := by decide +kernel
theorem d_B_fateOfField_72 : decode b_B_fateOfField 72 = .ok (.getfield 80, 3) := by decide +kernel
theorem d_B_fateOfField_75 : decode b_B_fateOfField 75 = .ok (.if_icmp .ne 7, 3) := by decide +kernel
theorem d_B_fateOfField_78 : decode b_B_fateOfField 78 = .ok (.iconst 0, 1) := by decide +kernel
theorem d_B_fateOfField_79 : decode b_B_fateOfField 79 = .ok (.goto 5, 3) := by decide +kernel
theorem d_B_fateOfField_82 : decode b_B_fateOfField 82 = .ok (.bipush (-9), 2) := by decide +kernel
theorem d_B_fateOfField_84 : decode b_B_fateOfField 84 = .ok (.ireturn, 1) := by decide +kernel
theorem d_B_fateOfCall_0 : decode b_B_fateOfCall 0 = .ok (.aload_n 2, 1) := by decide +kernel
theorem d_B_fateOfCall_1 : decode b_B_fateOfCall 1 = .ok (.aload_n 1, 1) := by decide +kernel
theorem d_B_fateOfCall_2 : decode b_B_fateOfCall 2 = .ok (.getfield 15, 3) := by decide +kernel
theorem d_B_fateOfCall_5 : decode b_B_fateOfCall 5 = .ok (.invokevirtual 21, 3) := by decide +kernel
theorem d_B_fateOfCall_8 : decode b_B_fateOfCall 8 = .ok (.aload_n 0, 1) := by decide +kernel
theorem d_B_fateOfCall_9 : decode b_B_fateOfCall 9 = .ok (.getfield 27, 3) := by decide +kernel
theorem d_B_fateOfCall_12 : decode b_B_fateOfCall 12 = .ok (.if_icmp .eq 6, 3) := by decide +kernel
theorem d_B_fateOfCall_15 : decode b_B_fateOfCall 15 = .ok (.bipush (-9), 2) := by decide +kernel
theorem d_B_fateOfCall_17 : decode b_B_fateOfCall 17 = .ok (.ireturn, 1) := by decide +kernel
theorem d_B_fateOfCall_18 : decode b_B_fateOfCall 18 = .ok (.aload_n 2, 1) := by decide +kernel
theorem d_B_fateOfCall_19 : decode b_B_fateOfCall 19 = .ok (.aload_n 1, 1) := by decide +kernel
theorem d_B_fateOfCall_20 : decode b_B_fateOfCall 20 = .ok (.getfield 15, 3) := by decide +kernel
theorem d_B_fateOfCall_23 : decode b_B_fateOfCall 23 = .ok (.aload_n 1, 1) := by decide +kernel
theorem d_B_fateOfCall_24 : decode b_B_fateOfCall 24 = .ok (.getfield 58, 3) := by decide +kernel
theorem d_B_fateOfCall_27 : decode b_B_fateOfCall 27 = .ok (.aload_n 0, 1) := by decide +kernel
theorem d_B_fateOfCall_28 : decode b_B_fateOfCall 28 = .ok (.getfield 97, 3) := by decide +kernel
theorem d_B_fateOfCall_31 : decode b_B_fateOfCall 31 = .ok (.aload_n 0, 1) := by decide +kernel
theorem d_B_fateOfCall_32 : decode b_B_fateOfCall 32 = .ok (.getfield 103, 3) := by decide +kernel
theorem d_B_fateOfCall_35 : decode b_B_fateOfCall 35 = .ok (.invokevirtual 86, 3) := by decide +kernel
theorem d_B_fateOfCall_38 : decode b_B_fateOfCall 38 = .ok (.istore_n 3, 1) := by decide +kernel
theorem d_B_fateOfCall_39 : decode b_B_fateOfCall 39 = .ok (.iload_n 3, 1) := by decide +kernel
theorem d_B_fateOfCall_40 : decode b_B_fateOfCall 40 = .ok (.iconst (-1), 1) := by decide +kernel
theorem d_B_fateOfCall_41 : decode b_B_fateOfCall 41 = .ok (.if_icmp .ne 6, 3) := by decide +kernel
theorem d_B_fateOfCall_44 : decode b_B_fateOfCall 44 = .ok (.bipush (-7), 2) := by decide +kernel
theorem d_B_fateOfCall_46 : decode b_B_fateOfCall 46 = .ok (.ireturn, 1) := by decide +kernel
theorem d_B_fateOfCall_47 : decode b_B_fateOfCall 47 = .ok (.aload_n 2, 1) := by decide +kernel
theorem d_B_fateOfCall_48 : decode b_B_fateOfCall 48 = .ok (.getfield 90, 3) := by decide +kernel
theorem d_B_fateOfCall_51 : decode b_B_fateOfCall 51 = .ok (.iload_n 3, 1) := by decide +kernel
theorem d_B_fateOfCall_52 : decode b_B_fateOfCall 52 = .ok (.iaload, 1) := by decide +kernel
theorem d_B_fateOfCall_53 : decode b_B_fateOfCall 53 = .ok (.istore 4, 2) := by decide +kernel
theorem d_B_fateOfCall_55 : decode b_B_fateOfCall 55 = .ok (.iload 4, 2) := by decide +kernel
theorem d_B_fateOfCall_57 : decode b_B_fateOfCall 57 = .ok (.bipush 8, 2) := by decide +kernel
theorem d_B_fateOfCall_59 : decode b_B_fateOfCall 59 = .ok (.iand, 1) := by decide +kernel
theorem d_B_fateOfCall_60 : decode b_B_fateOfCall 60 = .ok (.ifCond .eq 6, 3) := by decide +kernel
theorem d_B_fateOfCall_63 : decode b_B_fateOfCall 63 = .ok (.bipush (-8), 2) := by decide +kernel
theorem d_B_fateOfCall_65 : decode b_B_fateOfCall 65 = .ok (.ireturn, 1) := by decide +kernel
theorem d_B_fateOfCall_66 : decode b_B_fateOfCall 66 = .ok (.iload 4, 2) := by decide +kernel
theorem d_B_fateOfCall_68 : decode b_B_fateOfCall 68 = .ok (.iconst 1, 1) := by decide +kernel
theorem d_B_fateOfCall_69 : decode b_B_fateOfCall 69 = .ok (.iand, 1) := by decide +kernel
theorem d_B_fateOfCall_70 : decode b_B_fateOfCall 70 = .ok (.ifCond .eq 7, 3) := by decide +kernel
theorem d_B_fateOfCall_73 : decode b_B_fateOfCall 73 = .ok (.iconst 1, 1) := by decide +kernel
theorem d_B_fateOfCall_74 : decode b_B_fateOfCall 74 = .ok (.goto 4, 3) := by decide +kernel
theorem d_B_fateOfCall_77 : decode b_B_fateOfCall 77 = .ok (.iconst 0, 1) := by decide +kernel
theorem d_B_fateOfCall_78 : decode b_B_fateOfCall 78 = .ok (.aload_n 0, 1) := by decide +kernel
theorem d_B_fateOfCall_79 : decode b_B_fateOfCall 79 = .ok (.getfield 80, 3) := by decide +kernel
theorem d_B_fateOfCall_82 : decode b_B_fateOfCall 82 = .ok (.if_icmp .eq 6, 3) := by decide +kernel
theorem d_B_fateOfCall_85 : decode b_B_fateOfCall 85 = .ok (.bipush (-9), 2) := by decide +kernel
theorem d_B_fateOfCall_87 : decode b_B_fateOfCall 87 = .ok (.ireturn, 1) := by decide +kernel
theorem d_B_fateOfCall_88 : decode b_B_fateOfCall 88 = .ok (.iload_n 3, 1) := by decide +kernel
theorem d_B_fateOfCall_89 : decode b_B_fateOfCall 89 = .ok (.bipush 12, 2) := by decide +kernel
theorem d_B_fateOfCall_91 : decode b_B_fateOfCall 91 = .ok (.idiv, 1) := by decide +kernel
theorem d_B_fateOfCall_92 : decode b_B_fateOfCall 92 = .ok (.aload_n 0, 1) := by decide +kernel
theorem d_B_fateOfCall_93 : decode b_B_fateOfCall 93 = .ok (.getfield 106, 3) := by decide +kernel
theorem d_B_fateOfCall_96 : decode b_B_fateOfCall 96 = .ok (.if_icmp .ne 7, 3) := by decide +kernel
theorem d_B_fateOfCall_99 : decode b_B_fateOfCall 99 = .ok (.iconst 0, 1) := by decide +kernel
theorem d_B_fateOfCall_100 : decode b_B_fateOfCall 100 = .ok (.goto 4, 3) := by decide +kernel
theorem d_B_fateOfCall_103 : decode b_B_fateOfCall 103 = .ok (.iconst 1, 1) := by decide +kernel
theorem d_B_fateOfCall_104 : decode b_B_fateOfCall 104 = .ok (.ireturn, 1) := by decide +kernel
theorem d_B_isSubtypeBarred_0 : decode b_B_isSubtypeBarred 0 = .ok (.aload_n 2, 1) := by decide +kernel
theorem d_B_isSubtypeBarred_1 : decode b_B_isSubtypeBarred 1 = .ok (.aload_n 1, 1) := by decide +kernel
theorem d_B_isSubtypeBarred_2 : decode b_B_isSubtypeBarred 2 = .ok (.getfield 15, 3) := by decide +kernel
theorem d_B_isSubtypeBarred_5 : decode b_B_isSubtypeBarred 5 = .ok (.invokevirtual 52, 3) := by decide +kernel
theorem d_B_isSubtypeBarred_8 : decode b_B_isSubtypeBarred 8 = .ok (.ifCond .ne 18, 3) := by decide +kernel
theorem d_B_isSubtypeBarred_11 : decode b_B_isSubtypeBarred 11 = .ok (.aload_n 2, 1) := by decide +kernel
theorem d_B_isSubtypeBarred_12 : decode b_B_isSubtypeBarred 12 = .ok (.aload_n 1, 1) := by decide +kernel
theorem d_B_isSubtypeBarred_13 : decode b_B_isSubtypeBarred 13 = .ok (.getfield 15, 3) := by decide +kernel
theorem d_B_isSubtypeBarred_16 : decode b_B_isSubtypeBarred 16 = .ok (.invokevirtual 21, 3) := by decide +kernel
theorem d_B_isSubtypeBarred_19 : decode b_B_isSubtypeBarred 19 = .ok (.aload_n 0, 1) := by decide +kernel
theorem d_B_isSubtypeBarred_20 : decode b_B_isSubtypeBarred 20 = .ok (.getfield 27, 3) := by decide +kernel
theorem d_B_isSubtypeBarred_23 : decode b_B_isSubtypeBarred 23 = .ok (.if_icmp .eq 7, 3) := by decide +kernel
theorem d_B_isSubtypeBarred_26 : decode b_B_isSubtypeBarred 26 = .ok (.iconst 1, 1) := by decide +kernel
theorem d_B_isSubtypeBarred_27 : decode b_B_isSubtypeBarred 27 = .ok (.goto 4, 3) := by decide +kernel
theorem d_B_isSubtypeBarred_30 : decode b_B_isSubtypeBarred 30 = .ok (.iconst 0, 1) := by decide +kernel
theorem d_B_isSubtypeBarred_31 : decode b_B_isSubtypeBarred 31 = .ok (.ireturn, 1) := by decide +kernel
theorem d_B_fateOfOverride_0 : decode b_B_fateOfOverride 0 = .ok (.aload_n 0, 1) := by decide +kernel
theorem d_B_fateOfOverride_1 : decode b_B_fateOfOverride 1 = .ok (.aload_n 1, 1) := by decide +kernel
theorem d_B_fateOfOverride_2 : decode b_B_fateOfOverride 2 = .ok (.aload_n 2, 1) := by decide +kernel
theorem d_B_fateOfOverride_3 : decode b_B_fateOfOverride 3 = .ok (.invokevirtual 123, 3) := by decide +kernel
theorem d_B_fateOfOverride_6 : decode b_B_fateOfOverride 6 = .ok (.ifCond .eq 6, 3) := by decide +kernel
theorem d_B_fateOfOverride_9 : decode b_B_fateOfOverride 9 = .ok (.bipush (-9), 2) := by decide +kernel
theorem d_B_fateOfOverride_11 : decode b_B_fateOfOverride 11 = .ok (.ireturn, 1) := by decide +kernel
theorem d_B_fateOfOverride_12 : decode b_B_fateOfOverride 12 = .ok (.aload_n 2, 1) := by decide +kernel
theorem d_B_fateOfOverride_13 : decode b_B_fateOfOverride 13 = .ok (.aload_n 1, 1) := by decide +kernel
theorem d_B_fateOfOverride_14 : decode b_B_fateOfOverride 14 = .ok (.getfield 15, 3) := by decide +kernel
theorem d_B_fateOfOverride_17 : decode b_B_fateOfOverride 17 = .ok (.aload_n 1, 1) := by decide +kernel
theorem d_B_fateOfOverride_18 : decode b_B_fateOfOverride 18 = .ok (.getfield 58, 3) := by decide +kernel
theorem d_B_fateOfOverride_21 : decode b_B_fateOfOverride 21 = .ok (.aload_n 1, 1) := by decide +kernel
theorem d_B_fateOfOverride_22 : decode b_B_fateOfOverride 22 = .ok (.getfield 83, 3) := by decide +kernel
theorem d_B_fateOfOverride_25 : decode b_B_fateOfOverride 25 = .ok (.iconst (-1), 1) := by decide +kernel
theorem d_B_fateOfOverride_26 : decode b_B_fateOfOverride 26 = .ok (.invokevirtual 86, 3) := by decide +kernel
theorem d_B_fateOfOverride_29 : decode b_B_fateOfOverride 29 = .ok (.istore_n 3, 1) := by decide +kernel
theorem d_B_fateOfOverride_30 : decode b_B_fateOfOverride 30 = .ok (.iload_n 3, 1) := by decide +kernel
theorem d_B_fateOfOverride_31 : decode b_B_fateOfOverride 31 = .ok (.iconst (-1), 1) := by decide +kernel
theorem d_B_fateOfOverride_32 : decode b_B_fateOfOverride 32 = .ok (.if_icmp .eq 15, 3) := by decide +kernel
theorem d_B_fateOfOverride_35 : decode b_B_fateOfOverride 35 = .ok (.aload_n 2, 1) := by decide +kernel
theorem d_B_fateOfOverride_36 : decode b_B_fateOfOverride 36 = .ok (.getfield 90, 3) := by decide +kernel
theorem d_B_fateOfOverride_39 : decode b_B_fateOfOverride 39 = .ok (.iload_n 3, 1) := by decide +kernel
theorem d_B_fateOfOverride_40 : decode b_B_fateOfOverride 40 = .ok (.iaload, 1) := by decide +kernel
theorem d_B_fateOfOverride_41 : decode b_B_fateOfOverride 41 = .ok (.bipush 8, 2) := by decide +kernel
theorem d_B_fateOfOverride_43 : decode b_B_fateOfOverride 43 = .ok (.iand, 1) := by decide +kernel
theorem d_B_fateOfOverride_44 : decode b_B_fateOfOverride 44 = .ok (.ifCond .eq 5, 3) := by decide +kernel
theorem d_B_fateOfOverride_47 : decode b_B_fateOfOverride 47 = .ok (.iconst 3, 1) := by decide +kernel
theorem d_B_fateOfOverride_48 : decode b_B_fateOfOverride 48 = .ok (.ireturn, 1) := by decide +kernel
theorem d_B_fateOfOverride_49 : decode b_B_fateOfOverride 49 = .ok (.aload_n 2, 1) := by decide +kernel
theorem d_B_fateOfOverride_50 : decode b_B_fateOfOverride 50 = .ok (.getfield 90, 3) := by decide +kernel
theorem d_B_fateOfOverride_53 : decode b_B_fateOfOverride 53 = .ok (.iload_n 3, 1) := by decide +kernel
theorem d_B_fateOfOverride_54 : decode b_B_fateOfOverride 54 = .ok (.iaload, 1) := by decide +kernel
theorem d_B_fateOfOverride_55 : decode b_B_fateOfOverride 55 = .ok (.iconst 5, 1) := by decide +kernel
theorem d_B_fateOfOverride_56 : decode b_B_fateOfOverride 56 = .ok (.iand, 1) := by decide +kernel
theorem d_B_fateOfOverride_57 : decode b_B_fateOfOverride 57 = .ok (.ifCond .eq 6, 3) := by decide +kernel
theorem d_B_fateOfOverride_60 : decode b_B_fateOfOverride 60 = .ok (.bipush (-9), 2) := by decide +kernel
theorem d_B_fateOfOverride_62 : decode b_B_fateOfOverride 62 = .ok (.ireturn, 1) := by decide +kernel
theorem d_B_fateOfOverride_63 : decode b_B_fateOfOverride 63 = .ok (.aload_n 2, 1) := by decide +kernel
theorem d_B_fateOfOverride_64 : decode b_B_fateOfOverride 64 = .ok (.getfield 100, 3) := by decide +kernel
theorem d_B_fateOfOverride_67 : decode b_B_fateOfOverride 67 = .ok (.iload_n 3, 1) := by decide +kernel
theorem d_B_fateOfOverride_68 : decode b_B_fateOfOverride 68 = .ok (.iaload, 1) := by decide +kernel
theorem d_B_fateOfOverride_69 : decode b_B_fateOfOverride 69 = .ok (.aload_n 0, 1) := by decide +kernel
theorem d_B_fateOfOverride_70 : decode b_B_fateOfOverride 70 = .ok (.getfield 103, 3) := by decide +kernel
theorem d_B_fateOfOverride_73 : decode b_B_fateOfOverride 73 = .ok (.if_icmp .ne 7, 3) := by decide +kernel
theorem d_B_fateOfOverride_76 : decode b_B_fateOfOverride 76 = .ok (.iconst 0, 1) := by decide +kernel
theorem d_B_fateOfOverride_77 : decode b_B_fateOfOverride 77 = .ok (.goto 4, 3) := by decide +kernel
theorem d_B_fateOfOverride_80 : decode b_B_fateOfOverride 80 = .ok (.iconst 3, 1) := by decide +kernel
theorem d_B_fateOfOverride_81 : decode b_B_fateOfOverride 81 = .ok (.ireturn, 1) := by decide +kernel
theorem d_O_init_0 : decode b_O_init 0 = .ok (.aload_n 0, 1) := by decide +kernel
theorem d_O_init_1 : decode b_O_init 1 = .ok (.invokespecial 3, 3) := by decide +kernel
theorem d_O_init_4 : decode b_O_init 4 = .ok (.aload_n 0, 1) := by decide +kernel
theorem d_O_init_5 : decode b_O_init 5 = .ok (.bipush 6, 2) := by decide +kernel
theorem d_O_init_7 : decode b_O_init 7 = .ok (.newarray .int, 2) := by decide +kernel
theorem d_O_init_9 : decode b_O_init 9 = .ok (.putfield 9, 3) := by decide +kernel
theorem d_O_init_12 : decode b_O_init 12 = .ok (.aload_n 0, 1) := by decide +kernel
theorem d_O_init_13 : decode b_O_init 13 = .ok (.bipush 6, 2) := by decide +kernel
theorem d_O_init_15 : decode b_O_init 15 = .ok (.newarray .int, 2) := by decide +kernel
theorem d_O_init_17 : decode b_O_init 17 = .ok (.putfield 15, 3) := by decide +kernel
theorem d_O_init_20 : decode b_O_init 20 = .ok (.aload_n 0, 1) := by decide +kernel
theorem d_O_init_21 : decode b_O_init 21 = .ok (.bipush 6, 2) := by decide +kernel
theorem d_O_init_23 : decode b_O_init 23 = .ok (.newarray .int, 2) := by decide +kernel
theorem d_O_init_25 : decode b_O_init 25 = .ok (.putfield 18, 3) := by decide +kernel
theorem d_O_init_28 : decode b_O_init 28 = .ok (.aload_n 0, 1) := by decide +kernel
theorem d_O_init_29 : decode b_O_init 29 = .ok (.bipush 24, 2) := by decide +kernel
theorem d_O_init_31 : decode b_O_init 31 = .ok (.newarray .int, 2) := by decide +kernel
theorem d_O_init_33 : decode b_O_init 33 = .ok (.putfield 21, 3) := by decide +kernel
theorem d_O_init_36 : decode b_O_init 36 = .ok (.aload_n 0, 1) := by decide +kernel
theorem d_O_init_37 : decode b_O_init 37 = .ok (.bipush 24, 2) := by decide +kernel
theorem d_O_init_39 : decode b_O_init 39 = .ok (.newarray .int, 2) := by decide +kernel
theorem d_O_init_41 : decode b_O_init 41 = .ok (.putfield 24, 3) := by decide +kernel
theorem d_O_init_44 : decode b_O_init 44 = .ok (.aload_n 0, 1) := by decide +kernel
theorem d_O_init_45 : decode b_O_init 45 = .ok (.bipush 24, 2) := by decide +kernel
theorem d_O_init_47 : decode b_O_init 47 = .ok (.newarray .int, 2) := by decide +kernel
theorem d_O_init_49 : decode b_O_init 49 = .ok (.putfield 27, 3) := by decide +kernel
theorem d_O_init_52 : decode b_O_init 52 = .ok (.aload_n 0, 1) := by decide +kernel
theorem d_O_init_53 : decode b_O_init 53 = .ok (.bipush 72, 2) := by decide +kernel
theorem d_O_init_55 : decode b_O_init 55 = .ok (.newarray .int, 2) := by decide +kernel
theorem d_O_init_57 : decode b_O_init 57 = .ok (.putfield 30, 3) := by decide +kernel
theorem d_O_init_60 : decode b_O_init 60 = .ok (.aload_n 0, 1) := by decide +kernel
theorem d_O_init_61 : decode b_O_init 61 = .ok (.bipush 72, 2) := by decide +kernel
theorem d_O_init_63 : decode b_O_init 63 = .ok (.newarray .int, 2) := by decide +kernel
theorem d_O_init_65 : decode b_O_init 65 = .ok (.putfield 33, 3) := by decide +kernel
theorem d_O_init_68 : decode b_O_init 68 = .ok (.iconst 0, 1) := by decide +kernel
theorem d_O_init_69 : decode b_O_init 69 = .ok (.istore_n 1, 1) := by decide +kernel
theorem d_O_init_70 : decode b_O_init 70 = .ok (.iload_n 1, 1) := by decide +kernel
theorem d_O_init_71 : decode b_O_init 71 = .ok (.bipush 6, 2) := by decide +kernel
theorem d_O_init_73 : decode b_O_init 73 = .ok (.if_icmp .ge 24, 3) := by decide +kernel
theorem d_O_init_76 : decode b_O_init 76 = .ok (.aload_n 0, 1) := by decide +kernel
theorem d_O_init_77 : decode b_O_init 77 = .ok (.getfield 9, 3) := by decide +kernel
theorem d_O_init_80 : decode b_O_init 80 = .ok (.iload_n 1, 1) := by decide +kernel
theorem d_O_init_81 : decode b_O_init 81 = .ok (.iconst (-1), 1) := by decide +kernel
theorem d_O_init_82 : decode b_O_init 82 = .ok (.iastore, 1) := by decide +kernel
theorem d_O_init_83 : decode b_O_init 83 = .ok (.aload_n 0, 1) := by decide +kernel
theorem d_O_init_84 : decode b_O_init 84 = .ok (.getfield 15, 3) := by decide +kernel
theorem d_O_init_87 : decode b_O_init 87 = .ok (.iload_n 1, 1) := by decide +kernel
theorem d_O_init_88 : decode b_O_init 88 = .ok (.bipush 6, 2) := by decide +kernel
theorem d_O_init_90 : decode b_O_init 90 = .ok (.iastore, 1) := by decide +kernel
theorem d_O_init_91 : decode b_O_init 91 = .ok (.iinc 1 1, 3) := by decide +kernel
theorem d_O_init_94 : decode b_O_init 94 = .ok (.goto (-24), 3) := by decide +kernel
theorem d_O_init_97 : decode b_O_init 97 = .ok (.iconst 0, 1) := by decide +kernel
theorem d_O_init_98 : decode b_O_init 98 = .ok (.istore_n 1, 1) := by decide +kernel
theorem d_O_init_99 : decode b_O_init 99 = .ok (.iload_n 1, 1) := by decide +kernel
theorem d_O_init_100 : decode b_O_init 100 = .ok (.aload_n 0, 1) := by decide +kernel
theorem d_O_init_101 : decode b_O_init 101 = .ok (.getfield 21, 3) := by decide +kernel
theorem d_O_init_104 : decode b_O_init 104 = .ok (.arraylength, 1) := by decide +kernel
theorem d_O_init_105 : decode b_O_init 105 = .ok (.if_icmp .ge 16, 3) := by decide +kernel
theorem d_O_init_108 : decode b_O_init 108 = .ok (.aload_n 0, 1) := by decide +kernel
theorem d_O_init_109 : decode b_O_init 109 = .ok (.getfield 21, 3) := by decide +kernel
theorem d_O_init_112 : decode b_O_init 112 = .ok (.iload_n 1, 1) := by decide +kernel
theorem d_O_init_113 : decode b_O_init 113 = .ok (.iconst (-1), 1) := by decide +kernel
theorem d_O_init_114 : decode b_O_init 114 = .ok (.iastore, 1) := by decide +kernel
theorem d_O_init_115 : decode b_O_init 115 = .ok (.iinc 1 1, 3) := by decide +kernel
theorem d_O_init_118 : decode b_O_init 118 = .ok (.goto (-19), 3) := by decide +kernel
theorem d_O_init_121 : decode b_O_init 121 = .ok (.iconst 0, 1) := by decide +kernel
theorem d_O_init_122 : decode b_O_init 122 = .ok (.istore_n 1, 1) := by decide +kernel
theorem d_O_init_123 : decode b_O_init 123 = .ok (.iload_n 1, 1) := by decide +kernel
theorem d_O_init_124 : decode b_O_init 124 = .ok (.aload_n 0, 1) := by decide +kernel
theorem d_O_init_125 : decode b_O_init 125 = .ok (.getfield 30, 3) := by decide +kernel
theorem d_O_init_128 : decode b_O_init 128 = .ok (.arraylength, 1) := by decide +kernel
theorem d_O_init_129 : decode b_O_init 129 = .ok (.if_icmp .ge 16, 3) := by decide +kernel
theorem d_O_init_132 : decode b_O_init 132 = .ok (.aload_n 0, 1) := by decide +kernel
theorem d_O_init_133 : decode b_O_init 133 = .ok (.getfield 30, 3) := by decide +kernel
theorem d_O_init_136 : decode b_O_init 136 = .ok (.iload_n 1, 1) := by decide +kernel
theorem d_O_init_137 : decode b_O_init 137 = .ok (.iconst (-1), 1) := by decide +kernel
theorem d_O_init_138 : decode b_O_init 138 = .ok (.iastore, 1) := by decide +kernel
theorem d_O_init_139 : decode b_O_init 139 = .ok (.iinc 1 1, 3) := by decide +kernel
theorem d_O_init_142 : decode b_O_init 142 = .ok (.goto (-19), 3) := by decide +kernel
theorem d_O_init_145 : decode b_O_init 145 = .ok (.return_, 1) := by decide +kernel
theorem d_O_isThere_0 : decode b_O_isThere 0 = .ok (.aload_n 0, 1) := by decide +kernel
theorem d_O_isThere_1 : decode b_O_isThere 1 = .ok (.getfield 9, 3) := by decide +kernel
theorem d_O_isThere_4 : decode b_O_isThere 4 = .ok (.iload_n 1, 1) := by decide +kernel
theorem d_O_isThere_5 : decode b_O_isThere 5 = .ok (.iaload, 1) := by decide +kernel
theorem d_O_isThere_6 : decode b_O_isThere 6 = .ok (.iconst (-1), 1) := by decide +kernel
theorem d_O_isThere_7 : decode b_O_isThere 7 = .ok (.if_icmp .eq 7, 3) := by decide +kernel
theorem d_O_isThere_10 : decode b_O_isThere 10 = .ok (.iconst 1, 1) := by decide +kernel
theorem d_O_isThere_11 : decode b_O_isThere 11 = .ok (.goto 4, 3) := by decide +kernel
theorem d_O_isThere_14 : decode b_O_isThere 14 = .ok (.iconst 0, 1) := by decide +kernel
theorem d_O_isThere_15 : decode b_O_isThere 15 = .ok (.ireturn, 1) := by decide +kernel
theorem d_O_isInterface_0 : decode b_O_isInterface 0 = .ok (.aload_n 0, 1) := by decide +kernel
theorem d_O_isInterface_1 : decode b_O_isInterface 1 = .ok (.iload_n 1, 1) := by decide +kernel
theorem d_O_isInterface_2 : decode b_O_isInterface 2 = .ok (.iconst 1, 1) := by decide +kernel
theorem d_O_isInterface_3 : decode b_O_isInterface 3 = .ok (.invokevirtual 36, 3) := by decide +kernel
theorem d_O_isInterface_6 : decode b_O_isInterface 6 = .ok (.ireturn, 1) := by decide +kernel
theorem d_O_isHidden_0 : decode b_O_isHidden 0 = .ok (.aload_n 0, 1) := by decide +kernel
theorem d_O_isHidden_1 : decode b_O_isHidden 1 = .ok (.iload_n 1, 1) := by decide +kernel
theorem d_O_isHidden_2 : decode b_O_isHidden 2 = .ok (.bipush 8, 2) := by decide +kernel
theorem d_O_isHidden_4 : decode b_O_isHidden 4 = .ok (.invokevirtual 36, 3) := by decide +kernel
theorem d_O_isHidden_7 : decode b_O_isHidden 7 = .ok (.ireturn, 1) := by decide +kernel
theorem d_O_isFinal_0 : decode b_O_isFinal 0 = .ok (.aload_n 0, 1) := by decide +kernel
theorem d_O_isFinal_1 : decode b_O_isFinal 1 = .ok (.iload_n 1, 1) := by decide +kernel
theorem d_O_isFinal_2 : decode b_O_isFinal 2 = .ok (.iconst 4, 1) := by decide +kernel
theorem d_O_isFinal_3 : decode b_O_isFinal 3 = .ok (.invokevirtual 36, 3) := by decide +kernel
theorem d_O_isFinal_6 : decode b_O_isFinal 6 = .ok (.ireturn, 1) := by decide +kernel
theorem d_O_isAbstract_0 : decode b_O_isAbstract 0 = .ok (.aload_n 0, 1) := by decide +kernel
theorem d_O_isAbstract_1 : decode b_O_isAbstract 1 = .ok (.iload_n 1, 1) := by decide +kernel
theorem d_O_isAbstract_2 : decode b_O_isAbstract 2 = .ok (.iconst 3, 1) := by decide +kernel
theorem d_O_isAbstract_3 : decode b_O_isAbstract 3 = .ok (.invokevirtual 36, 3) := by decide +kernel
theorem d_O_isAbstract_6 : decode b_O_isAbstract 6 = .ok (.ireturn, 1) := by decide +kernel
theorem d_O_hasFlag_0 : decode b_O_hasFlag 0 = .ok (.aload_n 0, 1) := by decide +kernel
theorem d_O_hasFlag_1 : decode b_O_hasFlag 1 = .ok (.getfield 9, 3) := by decide +kernel
theorem d_O_hasFlag_4 : decode b_O_hasFlag 4 = .ok (.iload_n 1, 1) := by decide +kernel
theorem d_O_hasFlag_5 : decode b_O_hasFlag 5 = .ok (.iaload, 1) := by decide +kernel
theorem d_O_hasFlag_6 : decode b_O_hasFlag 6 = .ok (.iconst (-1), 1) := by decide +kernel
theorem d_O_hasFlag_7 : decode b_O_hasFlag 7 = .ok (.if_icmp .eq 18, 3) := by decide +kernel
theorem d_O_hasFlag_10 : decode b_O_hasFlag 10 = .ok (.aload_n 0, 1) := by decide +kernel
theorem d_O_hasFlag_11 : decode b_O_hasFlag 11 = .ok (.getfield 9, 3) := by decide +kernel
theorem d_O_hasFlag_14 : decode b_O_hasFlag 14 = .ok (.iload_n 1, 1) := by decide +kernel
theorem d_O_hasFlag_15 : decode b_O_hasFlag 15 = .ok (.iaload, 1) := by decide +kernel
theorem d_O_hasFlag_16 : decode b_O_hasFlag 16 = .ok (.iload_n 2, 1) := by decide +kernel
theorem d_O_hasFlag_17 : decode b_O_hasFlag 17 = .ok (.iand, 1) := by decide +kernel
theorem d_O_hasFlag_18 : decode b_O_hasFlag 18 = .ok (.ifCond .eq 7, 3) := by decide +kernel
theorem d_O_hasFlag_21 : decode b_O_hasFlag 21 = .ok (.iconst 1, 1) := by decide +kernel
theorem d_O_hasFlag_22 : decode b_O_hasFlag 22 = .ok (.goto 4, 3) := by decide +kernel
theorem d_O_hasFlag_25 : decode b_O_hasFlag 25 = .ok (.iconst 0, 1) := by decide +kernel
theorem d_O_hasFlag_26 : decode b_O_hasFlag 26 = .ok (.ireturn, 1) := by decide +kernel
theorem d_O_canName_0 : decode b_O_canName 0 = .ok (.iload_n 2, 1) := by decide +kernel
theorem d_O_canName_1 : decode b_O_canName 1 = .ok (.bipush 6, 2) := by decide +kernel
theorem d_O_canName_3 : decode b_O_canName 3 = .ok (.if_icmp .eq 26, 3) := by decide +kernel
theorem d_O_canName_6 : decode b_O_canName 6 = .ok (.iload_n 2, 1) := by decide +kernel
theorem d_O_canName_7 : decode b_O_canName 7 = .ok (.iload_n 1, 1) := by decide +kernel
theorem d_O_canName_8 : decode b_O_canName 8 = .ok (.if_icmp .ge 19, 3) := by decide +kernel
theorem d_O_canName_11 : decode b_O_canName 11 = .ok (.aload_n 0, 1) := by decide +kernel
theorem d_O_canName_12 : decode b_O_canName 12 = .ok (.iload_n 2, 1) := by decide +kernel
theorem d_O_canName_13 : decode b_O_canName 13 = .ok (.invokevirtual 40, 3) := by decide +kernel
theorem d_O_canName_16 : decode b_O_canName 16 = .ok (.ifCond .eq 11, 3) := by decide +kernel
theorem d_O_canName_19 : decode b_O_canName 19 = .ok (.aload_n 0, 1) := by decide +kernel
theorem d_O_canName_20 : decode b_O_canName 20 = .ok (.iload_n 2, 1) := by decide +kernel
theorem d_O_canName_21 : decode b_O_canName 21 = .ok (.invokevirtual 44, 3) := by decide +kernel
theorem d_O_canName_24 : decode b_O_canName 24 = .ok (.ifCond .eq 5, 3) := by decide +kernel
theorem d_O_canName_27 : decode b_O_canName 27 = .ok (.iconst 0, 1) := by decide +kernel
theorem d_O_canName_28 : decode b_O_canName 28 = .ok (.ireturn, 1) := by decide +kernel
theorem d_O_canName_29 : decode b_O_canName 29 = .ok (.iconst 0, 1) := by decide +kernel
theorem d_O_canName_30 : decode b_O_canName 30 = .ok (.istore 4, 2) := by decide +kernel
theorem d_O_canName_32 : decode b_O_canName 32 = .ok (.iload 4, 2) := by decide +kernel
theorem d_O_canName_34 : decode b_O_canName 34 = .ok (.bipush 6, 2) := by decide +kernel
theorem d_O_canName_36 : decode b_O_canName 36 = .ok (.if_icmp .ge 35, 3) := by decide +kernel
theorem d_O_canName_39 : decode b_O_canName 39 = .ok (.iload_n 3, 1) := by decide +kernel
theorem d_O_canName_40 : decode b_O_canName 40 = .ok (.iload 4, 2) := by decide +kernel
theorem d_O_canName_42 : decode b_O_canName 42 = .ok (.invokestatic 47, 3) := by decide +kernel
theorem d_O_canName_45 : decode b_O_canName 45 = .ok (.ifCond .eq 20, 3) := by decide +kernel
theorem d_O_canName_48 : decode b_O_canName 48 = .ok (.iload 4, 2) := by decide +kernel
theorem d_O_canName_50 : decode b_O_canName 50 = .ok (.iload_n 1, 1) := by decide +kernel
theorem d_O_canName_51 : decode b_O_canName 51 = .ok (.if_icmp .ge 12, 3) := by decide +kernel
theorem d_O_canName_54 : decode b_O_canName 54 = .ok (.aload_n 0, 1) := by decide +kernel
theorem d_O_canName_55 : decode b_O_canName 55 = .ok (.iload 4, 2) := by decide +kernel
theorem d_O_canName_57 : decode b_O_canName 57 = .ok (.invokevirtual 44, 3) := by decide +kernel
theorem d_O_canName_60 : decode b_O_canName 60 = .ok (.ifCond .ne 5, 3) := by decide +kernel
theorem d_O_canName_63 : decode b_O_canName 63 = .ok (.iconst 0, 1) := by decide +kernel
theorem d_O_canName_64 : decode b_O_canName 64 = .ok (.ireturn, 1) := by decide +kernel
theorem d_O_canName_65 : decode b_O_canName 65 = .ok (.iinc 4 1, 3) := by decide +kernel
theorem d_O_canName_68 : decode b_O_canName 68 = .ok (.goto (-36), 3) := by decide +kernel
theorem d_O_canName_71 : decode b_O_canName 71 = .ok (.iconst 1, 1) := by decide +kernel
theorem d_O_canName_72 : decode b_O_canName 72 = .ok (.ireturn, 1) := by decide +kernel
theorem d_O_isNamed_0 : decode b_O_isNamed 0 = .ok (.iconst 0, 1) := by decide +kernel
theorem d_O_isNamed_1 : decode b_O_isNamed 1 = .ok (.istore_n 2, 1) := by decide +kernel
theorem d_O_isNamed_2 : decode b_O_isNamed 2 = .ok (.iload_n 2, 1) := by decide +kernel
theorem d_O_isNamed_3 : decode b_O_isNamed 3 = .ok (.bipush 6, 2) := by decide +kernel
theorem d_O_isNamed_5 : decode b_O_isNamed 5 = .ok (.if_icmp .ge 42, 3) := by decide +kernel
theorem d_O_isNamed_8 : decode b_O_isNamed 8 = .ok (.aload_n 0, 1) := by decide +kernel
theorem d_O_isNamed_9 : decode b_O_isNamed 9 = .ok (.iload_n 2, 1) := by decide +kernel
theorem d_O_isNamed_10 : decode b_O_isNamed 10 = .ok (.invokevirtual 40, 3) := by decide +kernel
theorem d_O_isNamed_13 : decode b_O_isNamed 13 = .ok (.ifCond .eq 28, 3) := by decide +kernel
theorem d_O_isNamed_16 : decode b_O_isNamed 16 = .ok (.aload_n 0, 1) := by decide +kernel
theorem d_O_isNamed_17 : decode b_O_isNamed 17 = .ok (.getfield 15, 3) := by decide +kernel
theorem d_O_isNamed_20 : decode b_O_isNamed 20 = .ok (.iload_n 2, 1) := by decide +kernel
theorem d_O_isNamed_21 : decode b_O_isNamed 21 = .ok (.iaload, 1) := by decide +kernel
theorem d_O_isNamed_22 : decode b_O_isNamed 22 = .ok (.iload_n 1, 1) := by decide +kernel
theorem d_O_isNamed_23 : decode b_O_isNamed 23 = .ok (.if_icmp .eq 16, 3) := by decide +kernel
theorem d_O_isNamed_26 : decode b_O_isNamed 26 = .ok (.aload_n 0, 1) := by decide +kernel
theorem d_O_isNamed_27 : decode b_O_isNamed 27 = .ok (.getfield 18, 3) := by decide +kernel
theorem d_O_isNamed_30 : decode b_O_isNamed 30 = .ok (.iload_n 2, 1) := by decide +kernel
theorem d_O_isNamed_31 : decode b_O_isNamed 31 = .ok (.iaload, 1) := by decide +kernel
theorem d_O_isNamed_32 : decode b_O_isNamed 32 = .ok (.iload_n 1, 1) := by decide +kernel
theorem d_O_isNamed_33 : decode b_O_isNamed 33 = .ok (.invokestatic 47, 3) := by decide +kernel
theorem d_O_isNamed_36 : decode b_O_isNamed 36 = .ok (.ifCond .eq 5, 3) := by decide +kernel
theorem d_O_isNamed_39 : decode b_O_isNamed 39 = .ok (.iconst 1, 1) := by decide +kernel
theorem d_O_isNamed_40 : decode b_O_isNamed 40 = .ok (.ireturn, 1) := by decide +kernel
theorem d_O_isNamed_41 : decode b_O_isNamed 41 = .ok (.iinc 2 1, 3) := by decide +kernel
theorem d_O_isNamed_44 : decode b_O_isNamed 44 = .ok (.goto (-42), 3) := by decide +kernel
theorem d_O_isNamed_47 : decode b_O_isNamed 47 = .ok (.iconst 0, 1) := by decide +kernel
theorem d_O_isNamed_48 : decode b_O_isNamed 48 = .ok (.ireturn, 1) := by decide +kernel
theorem d_O_putType_0 : decode b_O_putType 0 = .ok (.aload_n 0, 1) := by decide +kernel
theorem d_O_putType_1 : decode b_O_putType 1 = .ok (.getfield 9, 3) := by decide +kernel
theorem d_O_putType_4 : decode b_O_putType 4 = .ok (.iload_n 1, 1) := by decide +kernel
theorem d_O_putType_5 : decode b_O_putType 5 = .ok (.iload_n 2, 1) := by decide +kernel
theorem d_O_putType_6 : decode b_O_putType 6 = .ok (.iastore, 1) := by decide +kernel
theorem d_O_putType_7 : decode b_O_putType 7 = .ok (.aload_n 0, 1) := by decide +kernel
theorem d_O_putType_8 : decode b_O_putType 8 = .ok (.getfield 15, 3) := by decide +kernel
theorem d_O_putType_11 : decode b_O_putType 11 = .ok (.iload_n 1, 1) := by decide +kernel
theorem d_O_putType_12 : decode b_O_putType 12 = .ok (.iload_n 3, 1) := by decide +kernel
theorem d_O_putType_13 : decode b_O_putType 13 = .ok (.iastore, 1) := by decide +kernel
theorem d_O_putType_14 : decode b_O_putType 14 = .ok (.aload_n 0, 1) := by decide +kernel
theorem d_O_putType_15 : decode b_O_putType 15 = .ok (.getfield 18, 3) := by decide +kernel
theorem d_O_putType_18 : decode b_O_putType 18 = .ok (.iload_n 1, 1) := by decide +kernel
theorem d_O_putType_19 : decode b_O_putType 19 = .ok (.iload 4, 2) := by decide +kernel
theorem d_O_putType_21 : decode b_O_putType 21 = .ok (.iastore, 1) := by decide +kernel
theorem d_O_putType_22 : decode b_O_putType 22 = .ok (.return_, 1) := by decide +kernel
theorem d_O_removeType_0 : decode b_O_removeType 0 = .ok (.aload_n 0, 1) := by decide +kernel
theorem d_O_removeType_1 : decode b_O_removeType 1 = .ok (.iload_n 1, 1) := by decide +kernel
theorem d_O_removeType_2 : decode b_O_removeType 2 = .ok (.iconst (-1), 1) := by decide +kernel
theorem d_O_removeType_3 : decode b_O_removeType 3 = .ok (.bipush 6, 2) := by decide +kernel
theorem d_O_removeType_5 : decode b_O_removeType 5 = .ok (.iconst 0, 1) := by decide +kernel
theorem d_O_removeType_6 : decode b_O_removeType 6 = .ok (.invokevirtual 50, 3) := by decide +kernel
theorem d_O_removeType_9 : decode b_O_removeType 9 = .ok (.iconst 0, 1) := by decide +kernel
theorem d_O_removeType_10 : decode b_O_removeType 10 = .ok (.istore_n 2, 1) := by decide +kernel
theorem d_O_removeType_11 : decode b_O_removeType 11 = .ok (.iload_n 2, 1) := by decide +kernel
theorem d_O_removeType_12 : decode b_O_removeType 12 = .ok (.iconst 4, 1) := by decide +kernel
theorem d_O_removeType_13 : decode b_O_removeType 13 = .ok (.if_icmp .ge 20, 3) := by decide +kernel
theorem d_O_removeType_16 : decode b_O_removeType 16 = .ok (.aload_n 0, 1) := by decide +kernel
theorem d_O_removeType_17 : decode b_O_removeType 17 = .ok (.getfield 21, 3) := by decide +kernel
theorem d_O_removeType_20 : decode b_O_removeType 20 = .ok (.iload_n 1, 1) := by decide +kernel
theorem d_O_removeType_21 : decode b_O_removeType 21 = .ok (.iconst 4, 1) := by decide +kernel
theorem d_O_removeType_22 : decode b_O_removeType 22 = .ok (.imul, 1) := by decide +kernel
theorem d_O_removeType_23 : decode b_O_removeType 23 = .ok (.iload_n 2, 1) := by decide +kernel
theorem d_O_removeType_24 : decode b_O_removeType 24 = .ok (.iadd, 1) := by decide +kernel
theorem d_O_removeType_25 : decode b_O_removeType 25 = .ok (.iconst (-1), 1) := by decide +kernel
theorem d_O_removeType_26 : decode b_O_removeType 26 = .ok (.iastore, 1) := by decide +kernel
theorem d_O_removeType_27 : decode b_O_removeType 27 = .ok (.iinc 2 1, 3) := by decide +kernel
theorem d_O_removeType_30 : decode b_O_removeType 30 = .ok (.goto (-19), 3) := by decide +kernel
theorem d_O_removeType_33 : decode b_O_removeType 33 = .ok (.iconst 0, 1) := by decide +kernel
theorem d_O_removeType_34 : decode b_O_removeType 34 = .ok (.istore_n 2, 1) := by decide +kernel
theorem d_O_removeType_35 : decode b_O_removeType 35 = .ok (.iload_n 2, 1) := by decide +kernel
theorem d_O_removeType_36 : decode b_O_removeType 36 = .ok (.bipush 12, 2) := by decide +kernel
theorem d_O_removeType_38 : decode b_O_removeType 38 = .ok (.if_icmp .ge 21, 3) := by decide +kernel
theorem d_O_removeType_41 : decode b_O_removeType 41 = .ok (.aload_n 0, 1) := by decide +kernel
theorem d_O_removeType_42 : decode b_O_removeType 42 = .ok (.getfield 30, 3) := by decide +kernel
theorem d_O_removeType_45 : decode b_O_removeType 45 = .ok (.iload_n 1, 1) := by decide +kernel
theorem d_O_removeType_46 : decode b_O_removeType 46 = .ok (.bipush 12, 2) := by decide +kernel
theorem d_O_removeType_48 : decode b_O_removeType 48 = .ok (.imul, 1) := by decide +kernel
theorem d_O_removeType_49 : decode b_O_removeType 49 = .ok (.iload_n 2, 1) := by decide +kernel
theorem d_O_removeType_50 : decode b_O_removeType 50 = .ok (.iadd, 1) := by decide +kernel
theorem d_O_removeType_51 : decode b_O_removeType 51 = .ok (.iconst (-1), 1) := by decide +kernel
theorem d_O_removeType_52 : decode b_O_removeType 52 = .ok (.iastore, 1) := by decide +kernel
theorem d_O_removeType_53 : decode b_O_removeType 53 = .ok (.iinc 2 1, 3) := by decide +kernel
theorem d_O_removeType_56 : decode b_O_removeType 56 = .ok (.goto (-21), 3) := by decide +kernel
theorem d_O_removeType_59 : decode b_O_removeType 59 = .ok (.return_, 1) := by decide +kernel
theorem d_O_putField_0 : decode b_O_putField 0 = .ok (.aload_n 0, 1) := by decide +kernel
theorem d_O_putField_1 : decode b_O_putField 1 = .ok (.getfield 21, 3) := by decide +kernel
theorem d_O_putField_4 : decode b_O_putField 4 = .ok (.iload_n 1, 1) := by decide +kernel
theorem d_O_putField_5 : decode b_O_putField 5 = .ok (.iload_n 3, 1) := by decide +kernel
theorem d_O_putField_6 : decode b_O_putField 6 = .ok (.iastore, 1) := by decide +kernel
theorem d_O_putField_7 : decode b_O_putField 7 = .ok (.aload_n 0, 1) := by decide +kernel
theorem d_O_putField_8 : decode b_O_putField 8 = .ok (.getfield 24, 3) := by decide +kernel
theorem d_O_putField_11 : decode b_O_putField 11 = .ok (.iload_n 1, 1) := by decide +kernel
theorem d_O_putField_12 : decode b_O_putField 12 = .ok (.iload_n 2, 1) := by decide +kernel
theorem d_O_putField_13 : decode b_O_putField 13 = .ok (.iastore, 1) := by decide +kernel
theorem d_O_putField_14 : decode b_O_putField 14 = .ok (.aload_n 0, 1) := by decide +kernel
theorem d_O_putField_15 : decode b_O_putField 15 = .ok (.getfield 27, 3) := by decide +kernel
theorem d_O_putField_18 : decode b_O_putField 18 = .ok (.iload_n 1, 1) := by decide +kernel
theorem d_O_putField_19 : decode b_O_putField 19 = .ok (.iload_n 3, 1) := by decide +kernel
theorem d_O_putField_20 : decode b_O_putField 20 = .ok (.bipush 16, 2) := by decide +kernel
theorem d_O_putField_22 : decode b_O_putField 22 = .ok (.iand, 1) := by decide +kernel
theorem d_O_putField_23 : decode b_O_putField 23 = .ok (.ifCond .eq 8, 3) := by decide +kernel
theorem d_O_putField_26 : decode b_O_putField 26 = .ok (.iload 4, 2) := by decide +kernel
theorem d_O_putField_28 : decode b_O_putField 28 = .ok (.goto 4, 3) := by decide +kernel
theorem d_O_putField_31 : decode b_O_putField 31 = .ok (.iconst 0, 1) := by decide +kernel
theorem d_O_putField_32 : decode b_O_putField 32 = .ok (.iastore, 1) := by decide +kernel
theorem d_O_putField_33 : decode b_O_putField 33 = .ok (.return_, 1) := by decide +kernel
theorem d_O_removeField_0 : decode b_O_removeField 0 = .ok (.aload_n 0, 1) := by decide +kernel
theorem d_O_removeField_1 : decode b_O_removeField 1 = .ok (.getfield 21, 3) := by decide +kernel
theorem d_O_removeField_4 : decode b_O_removeField 4 = .ok (.iload_n 1, 1) := by decide +kernel
theorem d_O_removeField_5 : decode b_O_removeField 5 = .ok (.iaload, 1) := by decide +kernel
theorem d_O_removeField_6 : decode b_O_removeField 6 = .ok (.iconst (-1), 1) := by decide +kernel
theorem d_O_removeField_7 : decode b_O_removeField 7 = .ok (.if_icmp .eq 7, 3) := by decide +kernel
theorem d_O_removeField_10 : decode b_O_removeField 10 = .ok (.iconst 1, 1) := by decide +kernel
theorem d_O_removeField_11 : decode b_O_removeField 11 = .ok (.goto 4, 3) := by decide +kernel
theorem d_O_removeField_14 : decode b_O_removeField 14 = .ok (.iconst 0, 1) := by decide +kernel
theorem d_O_removeField_15 : decode b_O_removeField 15 = .ok (.istore_n 2, 1) := by decide +kernel
theorem d_O_removeField_16 : decode b_O_removeField 16 = .ok (.aload_n 0, 1) := by decide +kernel
theorem d_O_removeField_17 : decode b_O_removeField 17 = .ok (.getfield 21, 3) := by decide +kernel
theorem d_O_removeField_20 : decode b_O_removeField 20 = .ok (.iload_n 1, 1) := by decide +kernel
theorem d_O_removeField_21 : decode b_O_removeField 21 = .ok (.iconst (-1), 1) := by decide +kernel
theorem d_O_removeField_22 : decode b_O_removeField 22 = .ok (.iastore, 1) := by decide +kernel
theorem d_O_removeField_23 : decode b_O_removeField 23 = .ok (.iload_n 2, 1) := by decide +kernel
theorem d_O_removeField_24 : decode b_O_removeField 24 = .ok (.ireturn, 1) := by decide +kernel
theorem d_O_putMethod_0 : decode b_O_putMethod 0 = .ok (.aload_n 0, 1) := by decide +kernel
theorem d_O_putMethod_1 : decode b_O_putMethod 1 = .ok (.getfield 30, 3) := by decide +kernel
theorem d_O_putMethod_4 : decode b_O_putMethod 4 = .ok (.iload_n 1, 1) := by decide +kernel
theorem d_O_putMethod_5 : decode b_O_putMethod 5 = .ok (.iload_n 3, 1) := by decide +kernel
theorem d_O_putMethod_6 : decode b_O_putMethod 6 = .ok (.iastore, 1) := by decide +kernel
theorem d_O_putMethod_7 : decode b_O_putMethod 7 = .ok (.aload_n 0, 1) := by decide +kernel
theorem d_O_putMethod_8 : decode b_O_putMethod 8 = .ok (.getfield 33, 3) := by decide +kernel
theorem d_O_putMethod_11 : decode b_O_putMethod 11 = .ok (.iload_n 1, 1) := by decide +kernel
theorem d_O_putMethod_12 : decode b_O_putMethod 12 = .ok (.iload_n 2, 1) := by decide +kernel
theorem d_O_putMethod_13 : decode b_O_putMethod 13 = .ok (.iastore, 1) := by decide +kernel
theorem d_O_putMethod_14 : decode b_O_putMethod 14 = .ok (.return_, 1) := by decide +kernel
theorem d_O_removeMethod_0 : decode b_O_removeMethod 0 = .ok (.aload_n 0, 1) := by decide +kernel
theorem d_O_removeMethod_1 : decode b_O_removeMethod 1 = .ok (.getfield 30, 3) := by decide +kernel
theorem d_O_removeMethod_4 : decode b_O_removeMethod 4 = .ok (.iload_n 1, 1) := by decide +kernel
theorem d_O_removeMethod_5 : decode b_O_removeMethod 5 = .ok (.iaload, 1) := by decide +kernel
theorem d_O_removeMethod_6 : decode b_O_removeMethod 6 = .ok (.iconst (-1), 1) := by decide +kernel
theorem d_O_removeMethod_7 : decode b_O_removeMethod 7 = .ok (.if_icmp .eq 7, 3) := by decide +kernel
theorem d_O_removeMethod_10 : decode b_O_removeMethod 10 = .ok (.iconst 1, 1) := by decide +kernel
theorem d_O_removeMethod_11 : decode b_O_removeMethod 11 = .ok (.goto 4, 3) := by decide +kernel
theorem d_O_removeMethod_14 : decode b_O_removeMethod 14 = .ok (.iconst 0, 1) := by decide +kernel
theorem d_O_removeMethod_15 : decode b_O_removeMethod 15 = .ok (.istore_n 2, 1) := by decide +kernel
theorem d_O_removeMethod_16 : decode b_O_removeMethod 16 = .ok (.aload_n 0, 1) := by decide +kernel
theorem d_O_removeMethod_17 : decode b_O_removeMethod 17 = .ok (.getfield 30, 3) := by decide +kernel
theorem d_O_removeMethod_20 : decode b_O_removeMethod 20 = .ok (.iload_n 1, 1) := by decide +kernel
theorem d_O_removeMethod_21 : decode b_O_removeMethod 21 = .ok (.iconst (-1), 1) := by decide +kernel
theorem d_O_removeMethod_22 : decode b_O_removeMethod 22 = .ok (.iastore, 1) := by decide +kernel
theorem d_O_removeMethod_23 : decode b_O_removeMethod 23 = .ok (.iload_n 2, 1) := by decide +kernel
theorem d_O_removeMethod_24 : decode b_O_removeMethod 24 = .ok (.ireturn, 1) := by decide +kernel
theorem d_O_becomeAs_0 : decode b_O_becomeAs 0 = .ok (.aload_n 1, 1) := by decide +kernel
theorem d_O_becomeAs_1 : decode b_O_becomeAs 1 = .ok (.getfield 9, 3) := by decide +kernel
theorem d_O_becomeAs_4 : decode b_O_becomeAs 4 = .ok (.iconst 0, 1) := by decide +kernel
theorem d_O_becomeAs_5 : decode b_O_becomeAs 5 = .ok (.aload_n 0, 1) := by decide +kernel
theorem d_O_becomeAs_6 : decode b_O_becomeAs 6 = .ok (.getfield 9, 3) := by decide +kernel
theorem d_O_becomeAs_9 : decode b_O_becomeAs 9 = .ok (.iconst 0, 1) := by decide +kernel
theorem d_O_becomeAs_10 : decode b_O_becomeAs 10 = .ok (.bipush 6, 2) := by decide +kernel
theorem d_O_becomeAs_12 : decode b_O_becomeAs 12 = .ok (.invokestatic 54, 3) := by decide +kernel
theorem d_O_becomeAs_15 : decode b_O_becomeAs 15 = .ok (.aload_n 1, 1) := by decide +kernel
theorem d_O_becomeAs_16 : decode b_O_becomeAs 16 = .ok (.getfield 15, 3) := by decide +kernel
theorem d_O_becomeAs_19 : decode b_O_becomeAs 19 = .ok (.iconst 0, 1) := by decide +kernel
theorem d_O_becomeAs_20 : decode b_O_becomeAs 20 = .ok (.aload_n 0, 1) := by decide +kernel
theorem d_O_becomeAs_21 : decode b_O_becomeAs 21 = .ok (.getfield 15, 3) := by decide +kernel
theorem d_O_becomeAs_24 : decode b_O_becomeAs 24 = .ok (.iconst 0, 1) := by decide +kernel
theorem d_O_becomeAs_25 : decode b_O_becomeAs 25 = .ok (.bipush 6, 2) := by decide +kernel
theorem d_O_becomeAs_27 : decode b_O_becomeAs 27 = .ok (.invokestatic 54, 3) := by decide +kernel
theorem d_O_becomeAs_30 : decode b_O_becomeAs 30 = .ok (.aload_n 1, 1) := by decide +kernel
theorem d_O_becomeAs_31 : decode b_O_becomeAs 31 = .ok (.getfield 18, 3) := by decide +kernel
theorem d_O_becomeAs_34 : decode b_O_becomeAs 34 = .ok (.iconst 0, 1) := by decide +kernel
theorem d_O_becomeAs_35 : decode b_O_becomeAs 35 = .ok (.aload_n 0, 1) := by decide +kernel
theorem d_O_becomeAs_36 : decode b_O_becomeAs 36 = .ok (.getfield 18, 3) := by decide +kernel
theorem d_O_becomeAs_39 : decode b_O_becomeAs 39 = .ok (.iconst 0, 1) := by decide +kernel
theorem d_O_becomeAs_40 : decode b_O_becomeAs 40 = .ok (.bipush 6, 2) := by decide +kernel
theorem d_O_becomeAs_42 : decode b_O_becomeAs 42 = .ok (.invokestatic 54, 3) := by decide +kernel
theorem d_O_becomeAs_45 : decode b_O_becomeAs 45 = .ok (.aload_n 1, 1) := by decide +kernel
theorem d_O_becomeAs_46 : decode b_O_becomeAs 46 = .ok (.getfield 21, 3) := by decide +kernel
theorem d_O_becomeAs_49 : decode b_O_becomeAs 49 = .ok (.iconst 0, 1) := by decide +kernel
theorem d_O_becomeAs_50 : decode b_O_becomeAs 50 = .ok (.aload_n 0, 1) := by decide +kernel
theorem d_O_becomeAs_51 : decode b_O_becomeAs 51 = .ok (.getfield 21, 3) := by decide +kernel
theorem d_O_becomeAs_54 : decode b_O_becomeAs 54 = .ok (.iconst 0, 1) := by decide +kernel
theorem d_O_becomeAs_55 : decode b_O_becomeAs 55 = .ok (.bipush 24, 2) := by decide +kernel
theorem d_O_becomeAs_57 : decode b_O_becomeAs 57 = .ok (.invokestatic 54, 3) := by decide +kernel
theorem d_O_becomeAs_60 : decode b_O_becomeAs 60 = .ok (.aload_n 1, 1) := by decide +kernel
theorem d_O_becomeAs_61 : decode b_O_becomeAs 61 = .ok (.getfield 24, 3) := by decide +kernel
theorem d_O_becomeAs_64 : decode b_O_becomeAs 64 = .ok (.iconst 0, 1) := by decide +kernel
theorem d_O_becomeAs_65 : decode b_O_becomeAs 65 = .ok (.aload_n 0, 1) := by decide +kernel
theorem d_O_becomeAs_66 : decode b_O_becomeAs 66 = .ok (.getfield 24, 3) := by decide +kernel
theorem d_O_becomeAs_69 : decode b_O_becomeAs 69 = .ok (.iconst 0, 1) := by decide +kernel
theorem d_O_becomeAs_70 : decode b_O_becomeAs 70 = .ok (.bipush 24, 2) := by decide +kernel
theorem d_O_becomeAs_72 : decode b_O_becomeAs 72 = .ok (.invokestatic 54, 3) := by decide +kernel
theorem d_O_becomeAs_75 : decode b_O_becomeAs 75 = .ok (.aload_n 1, 1) := by decide +kernel
theorem d_O_becomeAs_76 : decode b_O_becomeAs 76 = .ok (.getfield 27, 3) := by decide +kernel
theorem d_O_becomeAs_79 : decode b_O_becomeAs 79 = .ok (.iconst 0, 1) := by decide +kernel
theorem d_O_becomeAs_80 : decode b_O_becomeAs 80 = .ok (.aload_n 0, 1) := by decide +kernel
theorem d_O_becomeAs_81 : decode b_O_becomeAs 81 = .ok (.getfield 27, 3) := by decide +kernel
theorem d_O_becomeAs_84 : decode b_O_becomeAs 84 = .ok (.iconst 0, 1) := by decide +kernel
theorem d_O_becomeAs_85 : decode b_O_becomeAs 85 = .ok (.bipush 24, 2) := by decide +kernel
theorem d_O_becomeAs_87 : decode b_O_becomeAs 87 = .ok (.invokestatic 54, 3) := by decide +kernel
theorem d_O_becomeAs_90 : decode b_O_becomeAs 90 = .ok (.aload_n 1, 1) := by decide +kernel
theorem d_O_becomeAs_91 : decode b_O_becomeAs 91 = .ok (.getfield 30, 3) := by decide +kernel
theorem d_O_becomeAs_94 : decode b_O_becomeAs 94 = .ok (.iconst 0, 1) := by decide +kernel
theorem d_O_becomeAs_95 : decode b_O_becomeAs 95 = .ok (.aload_n 0, 1) := by decide +kernel
theorem d_O_becomeAs_96 : decode b_O_becomeAs 96 = .ok (.getfield 30, 3) := by decide +kernel
theorem d_O_becomeAs_99 : decode b_O_becomeAs 99 = .ok (.iconst 0, 1) := by decide +kernel
theorem d_O_becomeAs_100 : decode b_O_becomeAs 100 = .ok (.bipush 72, 2) := by decide +kernel
theorem d_O_becomeAs_102 : decode b_O_becomeAs 102 = .ok (.invokestatic 54, 3) := by decide +kernel
theorem d_O_becomeAs_105 : decode b_O_becomeAs 105 = .ok (.aload_n 1, 1) := by decide +kernel
theorem d_O_becomeAs_106 : decode b_O_becomeAs 106 = .ok (.getfield 33, 3) := by decide +kernel
theorem d_O_becomeAs_109 : decode b_O_becomeAs 109 = .ok (.iconst 0, 1) := by decide +kernel
theorem d_O_becomeAs_110 : decode b_O_becomeAs 110 = .ok (.aload_n 0, 1) := by decide +kernel
theorem d_O_becomeAs_111 : decode b_O_becomeAs 111 = .ok (.getfield 33, 3) := by decide +kernel
theorem d_O_becomeAs_114 : decode b_O_becomeAs 114 = .ok (.iconst 0, 1) := by decide +kernel
theorem d_O_becomeAs_115 : decode b_O_becomeAs 115 = .ok (.bipush 72, 2) := by decide +kernel
theorem d_O_becomeAs_117 : decode b_O_becomeAs 117 = .ok (.invokestatic 54, 3) := by decide +kernel
theorem d_O_becomeAs_120 : decode b_O_becomeAs 120 = .ok (.return_, 1) := by decide +kernel
