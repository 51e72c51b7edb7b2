theorem d_A_share_37 : decode b_A_share 37 = .ok (.iinc 2 1, 3) := by decide +kernel
theorem d_A_share_40 : decode b_A_share 40 = .ok (.iinc 3 1, 3) := by decide +kernel
theorem d_A_share_43 : decode b_A_share 43 = .ok (.goto (-37), 3) := by decide +kernel
theorem d_A_share_46 : decode b_A_share 46 = .ok (.iload_n 1, 1) := by decide +kernel
theorem d_A_share_47 : decode b_A_share 47 = .ok (.ifCond .ne 7, 3) := by decide +kernel
theorem d_A_share_50 : decode b_A_share 50 = .ok (.dconst 1, 1) := by decide +kernel
theorem d_A_share_51 : decode b_A_share 51 = .ok (.goto 8, 3) := by decide +kernel
theorem d_A_share_54 : decode b_A_share 54 = .ok (.iload_n 2, 1) := by decide +kernel
theorem d_A_share_55 : decode b_A_share 55 = .ok (.i2d, 1) := by decide +kernel
theorem d_A_share_56 : decode b_A_share 56 = .ok (.iload_n 1, 1) := by decide +kernel
theorem d_A_share_57 : decode b_A_share 57 = .ok (.i2d, 1) := by decide +kernel
theorem d_A_share_58 : decode b_A_share 58 = .ok (.ddiv, 1) := by decide +kernel
theorem d_A_share_59 : decode b_A_share 59 = .ok (.dreturn, 1) := by decide +kernel
theorem d_A_breaking_0 : decode b_A_breaking 0 = .ok (.iconst 0, 1) := by decide +kernel
theorem d_A_breaking_1 : decode b_A_breaking 1 = .ok (.istore_n 1, 1) := by decide +kernel
theorem d_A_breaking_2 : decode b_A_breaking 2 = .ok (.iconst 0, 1) := by decide +kernel
theorem d_A_breaking_3 : decode b_A_breaking 3 = .ok (.istore_n 2, 1) := by decide +kernel
theorem d_A_breaking_4 : decode b_A_breaking 4 = .ok (.iload_n 2, 1) := by decide +kernel
theorem d_A_breaking_5 : decode b_A_breaking 5 = .ok (.aload_n 0, 1) := by decide +kernel
theorem d_A_breaking_6 : decode b_A_breaking 6 = .ok (.getfield 26, 3) := by decide +kernel
theorem d_A_breaking_9 : decode b_A_breaking 9 = .ok (.if_icmp .ge 23, 3) := by decide +kernel
theorem d_A_breaking_12 : decode b_A_breaking 12 = .ok (.aload_n 0, 1) := by decide +kernel
theorem d_A_breaking_13 : decode b_A_breaking 13 = .ok (.iload_n 2, 1) := by decide +kernel
theorem d_A_breaking_14 : decode b_A_breaking 14 = .ok (.invokevirtual 110, 3) := by decide +kernel
theorem d_A_breaking_17 : decode b_A_breaking 17 = .ok (.invokestatic 136, 3) := by decide +kernel
theorem d_A_breaking_20 : decode b_A_breaking 20 = .ok (.ifCond .eq 6, 3) := by decide +kernel
theorem d_A_breaking_23 : decode b_A_breaking 23 = .ok (.iinc 1 1, 3) := by decide +kernel
theorem d_A_breaking_26 : decode b_A_breaking 26 = .ok (.iinc 2 1, 3) := by decide +kernel
theorem d_A_breaking_29 : decode b_A_breaking 29 = .ok (.goto (-25), 3) := by decide +kernel
theorem d_A_breaking_32 : decode b_A_breaking 32 = .ok (.iload_n 1, 1) := by decide +kernel
theorem d_A_breaking_33 : decode b_A_breaking 33 = .ok (.ireturn, 1) := by decide +kernel
theorem d_A_broken_0 : decode b_A_broken 0 = .ok (.iconst 0, 1) := by decide +kernel
theorem d_A_broken_1 : decode b_A_broken 1 = .ok (.istore_n 2, 1) := by decide +kernel
theorem d_A_broken_2 : decode b_A_broken 2 = .ok (.iconst 0, 1) := by decide +kernel
theorem d_A_broken_3 : decode b_A_broken 3 = .ok (.istore_n 3, 1) := by decide +kernel
theorem d_A_broken_4 : decode b_A_broken 4 = .ok (.iload_n 3, 1) := by decide +kernel
theorem d_A_broken_5 : decode b_A_broken 5 = .ok (.aload_n 0, 1) := by decide +kernel
theorem d_A_broken_6 : decode b_A_broken 6 = .ok (.getfield 26, 3) := by decide +kernel
theorem d_A_broken_9 : decode b_A_broken 9 = .ok (.if_icmp .ge 30, 3) := by decide +kernel
theorem d_A_broken_12 : decode b_A_broken 12 = .ok (.aload_n 0, 1) := by decide +kernel
theorem d_A_broken_13 : decode b_A_broken 13 = .ok (.iload_n 3, 1) := by decide +kernel
theorem d_A_broken_14 : decode b_A_broken 14 = .ok (.invokevirtual 110, 3) := by decide +kernel
theorem d_A_broken_17 : decode b_A_broken 17 = .ok (.invokestatic 136, 3) := by decide +kernel
theorem d_A_broken_20 : decode b_A_broken 20 = .ok (.ifCond .eq 13, 3) := by decide +kernel
theorem d_A_broken_23 : decode b_A_broken 23 = .ok (.iload_n 2, 1) := by decide +kernel
theorem d_A_broken_24 : decode b_A_broken 24 = .ok (.iload_n 1, 1) := by decide +kernel
theorem d_A_broken_25 : decode b_A_broken 25 = .ok (.if_icmp .ne 5, 3) := by decide +kernel
theorem d_A_broken_28 : decode b_A_broken 28 = .ok (.iload_n 3, 1) := by decide +kernel
theorem d_A_broken_29 : decode b_A_broken 29 = .ok (.ireturn, 1) := by decide +kernel
theorem d_A_broken_30 : decode b_A_broken 30 = .ok (.iinc 2 1, 3) := by decide +kernel
theorem d_A_broken_33 : decode b_A_broken 33 = .ok (.iinc 3 1, 3) := by decide +kernel
theorem d_A_broken_36 : decode b_A_broken 36 = .ok (.goto (-32), 3) := by decide +kernel
theorem d_A_broken_39 : decode b_A_broken 39 = .ok (.iconst (-1), 1) := by decide +kernel
theorem d_A_broken_40 : decode b_A_broken 40 = .ok (.ireturn, 1) := by decide +kernel
theorem d_A_differ_0 : decode b_A_differ 0 = .ok (.iload_n 1, 1) := by decide +kernel
theorem d_A_differ_1 : decode b_A_differ 1 = .ok (.bipush 6, 2) := by decide +kernel
theorem d_A_differ_3 : decode b_A_differ 3 = .ok (.invokestatic 40, 3) := by decide +kernel
theorem d_A_differ_6 : decode b_A_differ 6 = .ok (.ifCond .ne 5, 3) := by decide +kernel
theorem d_A_differ_9 : decode b_A_differ 9 = .ok (.iconst (-1), 1) := by decide +kernel
theorem d_A_differ_10 : decode b_A_differ 10 = .ok (.ireturn, 1) := by decide +kernel
theorem d_A_differ_11 : decode b_A_differ 11 = .ok (.aload_n 0, 1) := by decide +kernel
theorem d_A_differ_12 : decode b_A_differ 12 = .ok (.getfield 12, 3) := by decide +kernel
theorem d_A_differ_15 : decode b_A_differ 15 = .ok (.iload_n 1, 1) := by decide +kernel
theorem d_A_differ_16 : decode b_A_differ 16 = .ok (.invokevirtual 52, 3) := by decide +kernel
theorem d_A_differ_19 : decode b_A_differ 19 = .ok (.istore_n 2, 1) := by decide +kernel
theorem d_A_differ_20 : decode b_A_differ 20 = .ok (.aload_n 0, 1) := by decide +kernel
theorem d_A_differ_21 : decode b_A_differ 21 = .ok (.getfield 16, 3) := by decide +kernel
theorem d_A_differ_24 : decode b_A_differ 24 = .ok (.iload_n 1, 1) := by decide +kernel
theorem d_A_differ_25 : decode b_A_differ 25 = .ok (.invokevirtual 52, 3) := by decide +kernel
theorem d_A_differ_28 : decode b_A_differ 28 = .ok (.istore_n 3, 1) := by decide +kernel
theorem d_A_differ_29 : decode b_A_differ 29 = .ok (.iload_n 2, 1) := by decide +kernel
theorem d_A_differ_30 : decode b_A_differ 30 = .ok (.ifCond .eq 20, 3) := by decide +kernel
theorem d_A_differ_33 : decode b_A_differ 33 = .ok (.iload_n 3, 1) := by decide +kernel
theorem d_A_differ_34 : decode b_A_differ 34 = .ok (.ifCond .eq 16, 3) := by decide +kernel
theorem d_A_differ_37 : decode b_A_differ 37 = .ok (.aload_n 0, 1) := by decide +kernel
theorem d_A_differ_38 : decode b_A_differ 38 = .ok (.getfield 12, 3) := by decide +kernel
theorem d_A_differ_41 : decode b_A_differ 41 = .ok (.aload_n 0, 1) := by decide +kernel
theorem d_A_differ_42 : decode b_A_differ 42 = .ok (.getfield 16, 3) := by decide +kernel
theorem d_A_differ_45 : decode b_A_differ 45 = .ok (.iload_n 1, 1) := by decide +kernel
theorem d_A_differ_46 : decode b_A_differ 46 = .ok (.invokevirtual 139, 3) := by decide +kernel
theorem d_A_differ_49 : decode b_A_differ 49 = .ok (.ireturn, 1) := by decide +kernel
theorem d_A_differ_50 : decode b_A_differ 50 = .ok (.iload_n 2, 1) := by decide +kernel
theorem d_A_differ_51 : decode b_A_differ 51 = .ok (.ifCond .eq 6, 3) := by decide +kernel
theorem d_A_differ_54 : decode b_A_differ 54 = .ok (.bipush (-3), 2) := by decide +kernel
theorem d_A_differ_56 : decode b_A_differ 56 = .ok (.ireturn, 1) := by decide +kernel
theorem d_A_differ_57 : decode b_A_differ 57 = .ok (.iload_n 3, 1) := by decide +kernel
theorem d_A_differ_58 : decode b_A_differ 58 = .ok (.ifCond .eq 8, 3) := by decide +kernel
theorem d_A_differ_61 : decode b_A_differ 61 = .ok (.bipush (-4), 2) := by decide +kernel
theorem d_A_differ_63 : decode b_A_differ 63 = .ok (.goto 5, 3) := by decide +kernel
theorem d_A_differ_66 : decode b_A_differ 66 = .ok (.bipush (-2), 2) := by decide +kernel
theorem d_A_differ_68 : decode b_A_differ 68 = .ok (.ireturn, 1) := by decide +kernel
theorem d_A_under_0 : decode b_A_under 0 = .ok (.aload_n 0, 1) := by decide +kernel
theorem d_A_under_1 : decode b_A_under 1 = .ok (.iload_n 1, 1) := by decide +kernel
theorem d_A_under_2 : decode b_A_under 2 = .ok (.iload_n 2, 1) := by decide +kernel
theorem d_A_under_3 : decode b_A_under 3 = .ok (.invokevirtual 66, 3) := by decide +kernel
theorem d_A_under_6 : decode b_A_under 6 = .ok (.ifCond .eq 12, 3) := by decide +kernel
theorem d_A_under_9 : decode b_A_under 9 = .ok (.aload_n 0, 1) := by decide +kernel
theorem d_A_under_10 : decode b_A_under 10 = .ok (.iload_n 1, 1) := by decide +kernel
theorem d_A_under_11 : decode b_A_under 11 = .ok (.iload_n 3, 1) := by decide +kernel
theorem d_A_under_12 : decode b_A_under 12 = .ok (.invokevirtual 66, 3) := by decide +kernel
theorem d_A_under_15 : decode b_A_under 15 = .ok (.ifCond .ne 5, 3) := by decide +kernel
theorem d_A_under_18 : decode b_A_under 18 = .ok (.iconst 0, 1) := by decide +kernel
theorem d_A_under_19 : decode b_A_under 19 = .ok (.ireturn, 1) := by decide +kernel
theorem d_A_under_20 : decode b_A_under 20 = .ok (.aload_n 0, 1) := by decide +kernel
theorem d_A_under_21 : decode b_A_under 21 = .ok (.iload_n 1, 1) := by decide +kernel
theorem d_A_under_22 : decode b_A_under 22 = .ok (.invokevirtual 44, 3) := by decide +kernel
theorem d_A_under_25 : decode b_A_under 25 = .ok (.iload_n 2, 1) := by decide +kernel
theorem d_A_under_26 : decode b_A_under 26 = .ok (.invokevirtual 143, 3) := by decide +kernel
theorem d_A_under_29 : decode b_A_under 29 = .ok (.iload_n 3, 1) := by decide +kernel
theorem d_A_under_30 : decode b_A_under 30 = .ok (.invokestatic 146, 3) := by decide +kernel
theorem d_A_under_33 : decode b_A_under 33 = .ok (.ireturn, 1) := by decide +kernel
theorem d_A_count_0 : decode b_A_count 0 = .ok (.iload_n 1, 1) := by decide +kernel
theorem d_A_count_1 : decode b_A_count 1 = .ok (.iconst 2, 1) := by decide +kernel
theorem d_A_count_2 : decode b_A_count 2 = .ok (.invokestatic 40, 3) := by decide +kernel
theorem d_A_count_5 : decode b_A_count 5 = .ok (.ifCond .ne 5, 3) := by decide +kernel
theorem d_A_count_8 : decode b_A_count 8 = .ok (.iconst (-1), 1) := by decide +kernel
theorem d_A_count_9 : decode b_A_count 9 = .ok (.ireturn, 1) := by decide +kernel
theorem d_A_count_10 : decode b_A_count 10 = .ok (.aload_n 0, 1) := by decide +kernel
theorem d_A_count_11 : decode b_A_count 11 = .ok (.iload_n 1, 1) := by decide +kernel
theorem d_A_count_12 : decode b_A_count 12 = .ok (.invokevirtual 44, 3) := by decide +kernel
theorem d_A_count_15 : decode b_A_count 15 = .ok (.astore_n 3, 1) := by decide +kernel
theorem d_A_count_16 : decode b_A_count 16 = .ok (.iload_n 2, 1) := by decide +kernel
theorem d_A_count_17 : decode b_A_count 17 = .ok (.tableswitch 60 0 3 #[31, 39, 47, 55], 31) := by decide +kernel
theorem d_A_count_48 : decode b_A_count 48 = .ok (.aload_n 3, 1) := by decide +kernel
theorem d_A_count_49 : decode b_A_count 49 = .ok (.getfield 149, 3) := by decide +kernel
theorem d_A_count_52 : decode b_A_count 52 = .ok (.invokestatic 153, 3) := by decide +kernel
theorem d_A_count_55 : decode b_A_count 55 = .ok (.ireturn, 1) := by decide +kernel
theorem d_A_count_56 : decode b_A_count 56 = .ok (.aload_n 3, 1) := by decide +kernel
theorem d_A_count_57 : decode b_A_count 57 = .ok (.getfield 157, 3) := by decide +kernel
theorem d_A_count_60 : decode b_A_count 60 = .ok (.invokestatic 153, 3) := by decide +kernel
theorem d_A_count_63 : decode b_A_count 63 = .ok (.ireturn, 1) := by decide +kernel
theorem d_A_count_64 : decode b_A_count 64 = .ok (.aload_n 3, 1) := by decide +kernel
theorem d_A_count_65 : decode b_A_count 65 = .ok (.getfield 160, 3) := by decide +kernel
theorem d_A_count_68 : decode b_A_count 68 = .ok (.invokestatic 153, 3) := by decide +kernel
theorem d_A_count_71 : decode b_A_count 71 = .ok (.ireturn, 1) := by decide +kernel
theorem d_A_count_72 : decode b_A_count 72 = .ok (.aload_n 0, 1) := by decide +kernel
theorem d_A_count_73 : decode b_A_count 73 = .ok (.getfield 26, 3) := by decide +kernel
theorem d_A_count_76 : decode b_A_count 76 = .ok (.ireturn, 1) := by decide +kernel
theorem d_A_count_77 : decode b_A_count 77 = .ok (.iconst (-1), 1) := by decide +kernel
theorem d_A_count_78 : decode b_A_count 78 = .ok (.ireturn, 1) := by decide +kernel
theorem d_A_offerOf_0 : decode b_A_offerOf 0 = .ok (.iload_n 1, 1) := by decide +kernel
theorem d_A_offerOf_1 : decode b_A_offerOf 1 = .ok (.ifCond .ne 10, 3) := by decide +kernel
theorem d_A_offerOf_4 : decode b_A_offerOf 4 = .ok (.aload_n 0, 1) := by decide +kernel
theorem d_A_offerOf_5 : decode b_A_offerOf 5 = .ok (.getfield 12, 3) := by decide +kernel
theorem d_A_offerOf_8 : decode b_A_offerOf 8 = .ok (.goto 7, 3) := by decide +kernel
theorem d_A_offerOf_11 : decode b_A_offerOf 11 = .ok (.aload_n 0, 1) := by decide +kernel
theorem d_A_offerOf_12 : decode b_A_offerOf 12 = .ok (.getfield 16, 3) := by decide +kernel
theorem d_A_offerOf_15 : decode b_A_offerOf 15 = .ok (.areturn, 1) := by decide +kernel
theorem d_A_isTypeThere_0 : decode b_A_isTypeThere 0 = .ok (.iload_n 1, 1) := by decide +kernel
theorem d_A_isTypeThere_1 : decode b_A_isTypeThere 1 = .ok (.iconst 2, 1) := by decide +kernel
theorem d_A_isTypeThere_2 : decode b_A_isTypeThere 2 = .ok (.invokestatic 40, 3) := by decide +kernel
theorem d_A_isTypeThere_5 : decode b_A_isTypeThere 5 = .ok (.ifCond .eq 28, 3) := by decide +kernel
theorem d_A_isTypeThere_8 : decode b_A_isTypeThere 8 = .ok (.iload_n 2, 1) := by decide +kernel
theorem d_A_isTypeThere_9 : decode b_A_isTypeThere 9 = .ok (.bipush 6, 2) := by decide +kernel
theorem d_A_isTypeThere_11 : decode b_A_isTypeThere 11 = .ok (.invokestatic 40, 3) := by decide +kernel
theorem d_A_isTypeThere_14 : decode b_A_isTypeThere 14 = .ok (.ifCond .eq 19, 3) := by decide +kernel
theorem d_A_isTypeThere_17 : decode b_A_isTypeThere 17 = .ok (.aload_n 0, 1) := by decide +kernel
theorem d_A_isTypeThere_18 : decode b_A_isTypeThere 18 = .ok (.iload_n 1, 1) := by decide +kernel
theorem d_A_isTypeThere_19 : decode b_A_isTypeThere 19 = .ok (.invokevirtual 44, 3) := by decide +kernel
theorem d_A_isTypeThere_22 : decode b_A_isTypeThere 22 = .ok (.iload_n 2, 1) := by decide +kernel
theorem d_A_isTypeThere_23 : decode b_A_isTypeThere 23 = .ok (.invokevirtual 52, 3) := by decide +kernel
theorem d_A_isTypeThere_26 : decode b_A_isTypeThere 26 = .ok (.ifCond .eq 7, 3) := by decide +kernel
theorem d_A_isTypeThere_29 : decode b_A_isTypeThere 29 = .ok (.iconst 1, 1) := by decide +kernel
theorem d_A_isTypeThere_30 : decode b_A_isTypeThere 30 = .ok (.goto 4, 3) := by decide +kernel
theorem d_A_isTypeThere_33 : decode b_A_isTypeThere 33 = .ok (.iconst 0, 1) := by decide +kernel
theorem d_A_isTypeThere_34 : decode b_A_isTypeThere 34 = .ok (.ireturn, 1) := by decide +kernel
theorem d_A_fateOf_0 : decode b_A_fateOf 0 = .ok (.aload_n 0, 1) := by decide +kernel
theorem d_A_fateOf_1 : decode b_A_fateOf 1 = .ok (.getfield 33, 3) := by decide +kernel
theorem d_A_fateOf_4 : decode b_A_fateOf 4 = .ok (.aload_n 0, 1) := by decide +kernel
theorem d_A_fateOf_5 : decode b_A_fateOf 5 = .ok (.getfield 21, 3) := by decide +kernel
theorem d_A_fateOf_8 : decode b_A_fateOf 8 = .ok (.iload_n 1, 1) := by decide +kernel
theorem d_A_fateOf_9 : decode b_A_fateOf 9 = .ok (.aaload, 1) := by decide +kernel
theorem d_A_fateOf_10 : decode b_A_fateOf 10 = .ok (.aload_n 0, 1) := by decide +kernel
theorem d_A_fateOf_11 : decode b_A_fateOf 11 = .ok (.getfield 12, 3) := by decide +kernel
theorem d_A_fateOf_14 : decode b_A_fateOf 14 = .ok (.invokevirtual 103, 3) := by decide +kernel
theorem d_A_fateOf_17 : decode b_A_fateOf 17 = .ok (.aload_n 0, 1) := by decide +kernel
theorem d_A_fateOf_18 : decode b_A_fateOf 18 = .ok (.getfield 33, 3) := by decide +kernel
theorem d_A_fateOf_21 : decode b_A_fateOf 21 = .ok (.getfield 107, 3) := by decide +kernel
theorem d_A_fateOf_24 : decode b_A_fateOf 24 = .ok (.ifCond .eq 13, 3) := by decide +kernel
theorem d_A_fateOf_27 : decode b_A_fateOf 27 = .ok (.aload_n 0, 1) := by decide +kernel
theorem d_A_fateOf_28 : decode b_A_fateOf 28 = .ok (.getfield 33, 3) := by decide +kernel
theorem d_A_fateOf_31 : decode b_A_fateOf 31 = .ok (.getfield 107, 3) := by decide +kernel
theorem d_A_fateOf_34 : decode b_A_fateOf 34 = .ok (.goto 20, 3) := by decide +kernel
theorem d_A_fateOf_37 : decode b_A_fateOf 37 = .ok (.aload_n 0, 1) := by decide +kernel
theorem d_A_fateOf_38 : decode b_A_fateOf 38 = .ok (.getfield 33, 3) := by decide +kernel
theorem d_A_fateOf_41 : decode b_A_fateOf 41 = .ok (.aload_n 0, 1) := by decide +kernel
theorem d_A_fateOf_42 : decode b_A_fateOf 42 = .ok (.getfield 21, 3) := by decide +kernel
theorem d_A_fateOf_45 : decode b_A_fateOf 45 = .ok (.iload_n 1, 1) := by decide +kernel
theorem d_A_fateOf_46 : decode b_A_fateOf 46 = .ok (.aaload, 1) := by decide +kernel
theorem d_A_fateOf_47 : decode b_A_fateOf 47 = .ok (.aload_n 0, 1) := by decide +kernel
theorem d_A_fateOf_48 : decode b_A_fateOf 48 = .ok (.getfield 16, 3) := by decide +kernel
theorem d_A_fateOf_51 : decode b_A_fateOf 51 = .ok (.invokevirtual 163, 3) := by decide +kernel
theorem d_A_fateOf_54 : decode b_A_fateOf 54 = .ok (.ireturn, 1) := by decide +kernel
theorem d_A_isError_0 : decode b_A_isError 0 = .ok (.iload_n 0, 1) := by decide +kernel
theorem d_A_isError_1 : decode b_A_isError 1 = .ok (.bipush (-3), 2) := by decide +kernel
theorem d_A_isError_3 : decode b_A_isError 3 = .ok (.if_icmp .eq 15, 3) := by decide +kernel
theorem d_A_isError_6 : decode b_A_isError 6 = .ok (.iload_n 0, 1) := by decide +kernel
theorem d_A_isError_7 : decode b_A_isError 7 = .ok (.bipush (-4), 2) := by decide +kernel
theorem d_A_isError_9 : decode b_A_isError 9 = .ok (.if_icmp .eq 9, 3) := by decide +kernel
theorem d_A_isError_12 : decode b_A_isError 12 = .ok (.iload_n 0, 1) := by decide +kernel
theorem d_A_isError_13 : decode b_A_isError 13 = .ok (.bipush (-5), 2) := by decide +kernel
theorem d_A_isError_15 : decode b_A_isError 15 = .ok (.if_icmp .ne 7, 3) := by decide +kernel
theorem d_A_isError_18 : decode b_A_isError 18 = .ok (.iconst 1, 1) := by decide +kernel
theorem d_A_isError_19 : decode b_A_isError 19 = .ok (.goto 4, 3) := by decide +kernel
theorem d_A_isError_22 : decode b_A_isError 22 = .ok (.iconst 0, 1) := by decide +kernel
theorem d_A_isError_23 : decode b_A_isError 23 = .ok (.ireturn, 1) := by decide +kernel
theorem d_A_breaks_0 : decode b_A_breaks 0 = .ok (.iload_n 0, 1) := by decide +kernel
theorem d_A_breaks_1 : decode b_A_breaks 1 = .ok (.ifCond .ge 14, 3) := by decide +kernel
theorem d_A_breaks_4 : decode b_A_breaks 4 = .ok (.iload_n 0, 1) := by decide +kernel
theorem d_A_breaks_5 : decode b_A_breaks 5 = .ok (.invokestatic 133, 3) := by decide +kernel
theorem d_A_breaks_8 : decode b_A_breaks 8 = .ok (.ifCond .ne 7, 3) := by decide +kernel
theorem d_A_breaks_11 : decode b_A_breaks 11 = .ok (.iconst 1, 1) := by decide +kernel
theorem d_A_breaks_12 : decode b_A_breaks 12 = .ok (.goto 4, 3) := by decide +kernel
theorem d_A_breaks_15 : decode b_A_breaks 15 = .ok (.iconst 0, 1) := by decide +kernel
theorem d_A_breaks_16 : decode b_A_breaks 16 = .ok (.ireturn, 1) := by decide +kernel
theorem d_A_isBelow_0 : decode b_A_isBelow 0 = .ok (.iload_n 0, 1) := by decide +kernel
theorem d_A_isBelow_1 : decode b_A_isBelow 1 = .ok (.ifCond .lt 12, 3) := by decide +kernel
theorem d_A_isBelow_4 : decode b_A_isBelow 4 = .ok (.iload_n 0, 1) := by decide +kernel
theorem d_A_isBelow_5 : decode b_A_isBelow 5 = .ok (.iload_n 1, 1) := by decide +kernel
theorem d_A_isBelow_6 : decode b_A_isBelow 6 = .ok (.if_icmp .ge 7, 3) := by decide +kernel
theorem d_A_isBelow_9 : decode b_A_isBelow 9 = .ok (.iconst 1, 1) := by decide +kernel
theorem d_A_isBelow_10 : decode b_A_isBelow 10 = .ok (.goto 4, 3) := by decide +kernel
theorem d_A_isBelow_13 : decode b_A_isBelow 13 = .ok (.iconst 0, 1) := by decide +kernel
theorem d_A_isBelow_14 : decode b_A_isBelow 14 = .ok (.ireturn, 1) := by decide +kernel
theorem d_A_areFieldFlags_0 : decode b_A_areFieldFlags 0 = .ok (.iload_n 0, 1) := by decide +kernel
theorem d_A_areFieldFlags_1 : decode b_A_areFieldFlags 1 = .ok (.bipush 32, 2) := by decide +kernel
theorem d_A_areFieldFlags_3 : decode b_A_areFieldFlags 3 = .ok (.invokestatic 40, 3) := by decide +kernel
theorem d_A_areFieldFlags_6 : decode b_A_areFieldFlags 6 = .ok (.ifCond .eq 9, 3) := by decide +kernel
theorem d_A_areFieldFlags_9 : decode b_A_areFieldFlags 9 = .ok (.iload_n 0, 1) := by decide +kernel
theorem d_A_areFieldFlags_10 : decode b_A_areFieldFlags 10 = .ok (.iconst 2, 1) := by decide +kernel
theorem d_A_areFieldFlags_11 : decode b_A_areFieldFlags 11 = .ok (.iand, 1) := by decide +kernel
theorem d_A_areFieldFlags_12 : decode b_A_areFieldFlags 12 = .ok (.ifCond .eq 5, 3) := by decide +kernel
theorem d_A_areFieldFlags_15 : decode b_A_areFieldFlags 15 = .ok (.iconst 0, 1) := by decide +kernel
theorem d_A_areFieldFlags_16 : decode b_A_areFieldFlags 16 = .ok (.ireturn, 1) := by decide +kernel
theorem d_A_areFieldFlags_17 : decode b_A_areFieldFlags 17 = .ok (.iconst 5, 1) := by decide +kernel
theorem d_A_areFieldFlags_18 : decode b_A_areFieldFlags 18 = .ok (.istore_n 1, 1) := by decide +kernel
theorem d_A_areFieldFlags_19 : decode b_A_areFieldFlags 19 = .ok (.iload_n 0, 1) := by decide +kernel
theorem d_A_areFieldFlags_20 : decode b_A_areFieldFlags 20 = .ok (.bipush 16, 2) := by decide +kernel
theorem d_A_areFieldFlags_22 : decode b_A_areFieldFlags 22 = .ok (.iand, 1) := by decide +kernel
theorem d_A_areFieldFlags_23 : decode b_A_areFieldFlags 23 = .ok (.ifCond .eq 10, 3) := by decide +kernel
theorem d_A_areFieldFlags_26 : decode b_A_areFieldFlags 26 = .ok (.iload_n 0, 1) := by decide +kernel
theorem d_A_areFieldFlags_27 : decode b_A_areFieldFlags 27 = .ok (.iload_n 1, 1) := by decide +kernel
theorem d_A_areFieldFlags_28 : decode b_A_areFieldFlags 28 = .ok (.iand, 1) := by decide +kernel
theorem d_A_areFieldFlags_29 : decode b_A_areFieldFlags 29 = .ok (.iload_n 1, 1) := by decide +kernel
theorem d_A_areFieldFlags_30 : decode b_A_areFieldFlags 30 = .ok (.if_icmp .ne 7, 3) := by decide +kernel
theorem d_A_areFieldFlags_33 : decode b_A_areFieldFlags 33 = .ok (.iconst 1, 1) := by decide +kernel
theorem d_A_areFieldFlags_34 : decode b_A_areFieldFlags 34 = .ok (.goto 4, 3) := by decide +kernel
theorem d_A_areFieldFlags_37 : decode b_A_areFieldFlags 37 = .ok (.iconst 0, 1) := by decide +kernel
theorem d_A_areFieldFlags_38 : decode b_A_areFieldFlags 38 = .ok (.ireturn, 1) := by decide +kernel
theorem d_A_areMethodFlags_0 : decode b_A_areMethodFlags 0 = .ok (.iload_n 0, 1) := by decide +kernel
theorem d_A_areMethodFlags_1 : decode b_A_areMethodFlags 1 = .ok (.bipush 16, 2) := by decide +kernel
theorem d_A_areMethodFlags_3 : decode b_A_areMethodFlags 3 = .ok (.invokestatic 40, 3) := by decide +kernel
theorem d_A_areMethodFlags_6 : decode b_A_areMethodFlags 6 = .ok (.ifCond .ne 5, 3) := by decide +kernel
theorem d_A_areMethodFlags_9 : decode b_A_areMethodFlags 9 = .ok (.iconst 0, 1) := by decide +kernel
theorem d_A_areMethodFlags_10 : decode b_A_areMethodFlags 10 = .ok (.ireturn, 1) := by decide +kernel
theorem d_A_areMethodFlags_11 : decode b_A_areMethodFlags 11 = .ok (.iload_n 0, 1) := by decide +kernel
theorem d_A_areMethodFlags_12 : decode b_A_areMethodFlags 12 = .ok (.iconst 2, 1) := by decide +kernel
theorem d_A_areMethodFlags_13 : decode b_A_areMethodFlags 13 = .ok (.iand, 1) := by decide +kernel
theorem d_A_areMethodFlags_14 : decode b_A_areMethodFlags 14 = .ok (.ifCond .eq 8, 3) := by decide +kernel
theorem d_A_areMethodFlags_17 : decode b_A_areMethodFlags 17 = .ok (.iload_n 0, 1) := by decide +kernel
theorem d_A_areMethodFlags_18 : decode b_A_areMethodFlags 18 = .ok (.iconst 2, 1) := by decide +kernel
theorem d_A_areMethodFlags_19 : decode b_A_areMethodFlags 19 = .ok (.if_icmp .ne 7, 3) := by decide +kernel
theorem d_A_areMethodFlags_22 : decode b_A_areMethodFlags 22 = .ok (.iconst 1, 1) := by decide +kernel
theorem d_A_areMethodFlags_23 : decode b_A_areMethodFlags 23 = .ok (.goto 4, 3) := by decide +kernel
theorem d_A_areMethodFlags_26 : decode b_A_areMethodFlags 26 = .ok (.iconst 0, 1) := by decide +kernel
theorem d_A_areMethodFlags_27 : decode b_A_areMethodFlags 27 = .ok (.ireturn, 1) := by decide +kernel
theorem d_A_methodPlace_0 : decode b_A_methodPlace 0 = .ok (.iload_n 0, 1) := by decide +kernel
theorem d_A_methodPlace_1 : decode b_A_methodPlace 1 = .ok (.bipush 12, 2) := by decide +kernel
theorem d_A_methodPlace_3 : decode b_A_methodPlace 3 = .ok (.imul, 1) := by decide +kernel
theorem d_A_methodPlace_4 : decode b_A_methodPlace 4 = .ok (.iload_n 1, 1) := by decide +kernel
theorem d_A_methodPlace_5 : decode b_A_methodPlace 5 = .ok (.iconst 4, 1) := by decide +kernel
theorem d_A_methodPlace_6 : decode b_A_methodPlace 6 = .ok (.imul, 1) := by decide +kernel
theorem d_A_methodPlace_7 : decode b_A_methodPlace 7 = .ok (.iadd, 1) := by decide +kernel
theorem d_A_methodPlace_8 : decode b_A_methodPlace 8 = .ok (.iload_n 2, 1) := by decide +kernel
theorem d_A_methodPlace_9 : decode b_A_methodPlace 9 = .ok (.iadd, 1) := by decide +kernel
theorem d_A_methodPlace_10 : decode b_A_methodPlace 10 = .ok (.ireturn, 1) := by decide +kernel
theorem d_A_holds_0 : decode b_A_holds 0 = .ok (.iload_n 0, 1) := by decide +kernel
theorem d_A_holds_1 : decode b_A_holds 1 = .ok (.iload_n 1, 1) := by decide +kernel
theorem d_A_holds_2 : decode b_A_holds 2 = .ok (.ishr, 1) := by decide +kernel
theorem d_A_holds_3 : decode b_A_holds 3 = .ok (.iconst 1, 1) := by decide +kernel
theorem d_A_holds_4 : decode b_A_holds 4 = .ok (.iand, 1) := by decide +kernel
theorem d_A_holds_5 : decode b_A_holds 5 = .ok (.ifCond .eq 7, 3) := by decide +kernel
theorem d_A_holds_8 : decode b_A_holds 8 = .ok (.iconst 1, 1) := by decide +kernel
theorem d_A_holds_9 : decode b_A_holds 9 = .ok (.goto 4, 3) := by decide +kernel
theorem d_A_holds_12 : decode b_A_holds 12 = .ok (.iconst 0, 1) := by decide +kernel
theorem d_A_holds_13 : decode b_A_holds 13 = .ok (.ireturn, 1) := by decide +kernel
theorem d_A_howManyThere_0 : decode b_A_howManyThere 0 = .ok (.iconst 0, 1) := by decide +kernel
theorem d_A_howManyThere_1 : decode b_A_howManyThere 1 = .ok (.istore_n 1, 1) := by decide +kernel
theorem d_A_howManyThere_2 : decode b_A_howManyThere 2 = .ok (.iconst 0, 1) := by decide +kernel
theorem d_A_howManyThere_3 : decode b_A_howManyThere 3 = .ok (.istore_n 2, 1) := by decide +kernel
theorem d_A_howManyThere_4 : decode b_A_howManyThere 4 = .ok (.iload_n 2, 1) := by decide +kernel
theorem d_A_howManyThere_5 : decode b_A_howManyThere 5 = .ok (.aload_n 0, 1) := by decide +kernel
theorem d_A_howManyThere_6 : decode b_A_howManyThere 6 = .ok (.arraylength, 1) := by decide +kernel
theorem d_A_howManyThere_7 : decode b_A_howManyThere 7 = .ok (.if_icmp .ge 19, 3) := by decide +kernel
theorem d_A_howManyThere_10 : decode b_A_howManyThere 10 = .ok (.aload_n 0, 1) := by decide +kernel
theorem d_A_howManyThere_11 : decode b_A_howManyThere 11 = .ok (.iload_n 2, 1) := by decide +kernel
theorem d_A_howManyThere_12 : decode b_A_howManyThere 12 = .ok (.iaload, 1) := by decide +kernel
theorem d_A_howManyThere_13 : decode b_A_howManyThere 13 = .ok (.iconst (-1), 1) := by decide +kernel
theorem d_A_howManyThere_14 : decode b_A_howManyThere 14 = .ok (.if_icmp .eq 6, 3) := by decide +kernel
theorem d_A_howManyThere_17 : decode b_A_howManyThere 17 = .ok (.iinc 1 1, 3) := by decide +kernel
theorem d_A_howManyThere_20 : decode b_A_howManyThere 20 = .ok (.iinc 2 1, 3) := by decide +kernel
theorem d_A_howManyThere_23 : decode b_A_howManyThere 23 = .ok (.goto (-19), 3) := by decide +kernel
theorem d_A_howManyThere_26 : decode b_A_howManyThere 26 = .ok (.iload_n 1, 1) := by decide +kernel
theorem d_A_howManyThere_27 : decode b_A_howManyThere 27 = .ok (.ireturn, 1) := by decide +kernel
theorem d_M_init_0 : decode b_M_init 0 = .ok (.aload_n 0, 1) := by decide +kernel
theorem d_M_init_1 : decode b_M_init 1 = .ok (.invokespecial 1, 3) := by decide +kernel
theorem d_M_init_4 : decode b_M_init 4 = .ok (.aload_n 0, 1) := by decide +kernel
theorem d_M_init_5 : decode b_M_init 5 = .ok (.bipush 12, 2) := by decide +kernel
theorem d_M_init_7 : decode b_M_init 7 = .ok (.newarray .boolean, 2) := by decide +kernel
theorem d_M_init_9 : decode b_M_init 9 = .ok (.putfield 7, 3) := by decide +kernel
theorem d_M_init_12 : decode b_M_init 12 = .ok (.aload_n 0, 1) := by decide +kernel
theorem d_M_init_13 : decode b_M_init 13 = .ok (.bipush 12, 2) := by decide +kernel
theorem d_M_init_15 : decode b_M_init 15 = .ok (.newarray .int, 2) := by decide +kernel
theorem d_M_init_17 : decode b_M_init 17 = .ok (.putfield 13, 3) := by decide +kernel
theorem d_M_init_20 : decode b_M_init 20 = .ok (.aload_n 0, 1) := by decide +kernel
theorem d_M_init_21 : decode b_M_init 21 = .ok (.bipush 12, 2) := by decide +kernel
theorem d_M_init_23 : decode b_M_init 23 = .ok (.newarray .int, 2) := by decide +kernel
theorem d_M_init_25 : decode b_M_init 25 = .ok (.putfield 17, 3) := by decide +kernel
theorem d_M_init_28 : decode b_M_init 28 = .ok (.aload_n 0, 1) := by decide +kernel
theorem d_M_init_29 : decode b_M_init 29 = .ok (.bipush 12, 2) := by decide +kernel
theorem d_M_init_31 : decode b_M_init 31 = .ok (.newarray .int, 2) := by decide +kernel
theorem d_M_init_33 : decode b_M_init 33 = .ok (.putfield 20, 3) := by decide +kernel
theorem d_M_init_36 : decode b_M_init 36 = .ok (.aload_n 0, 1) := by decide +kernel
theorem d_M_init_37 : decode b_M_init 37 = .ok (.bipush 48, 2) := by decide +kernel
theorem d_M_init_39 : decode b_M_init 39 = .ok (.newarray .int, 2) := by decide +kernel
theorem d_M_init_41 : decode b_M_init 41 = .ok (.putfield 23, 3) := by decide +kernel
theorem d_M_init_44 : decode b_M_init 44 = .ok (.aload_n 0, 1) := by decide +kernel
theorem d_M_init_45 : decode b_M_init 45 = .ok (.bipush 48, 2) := by decide +kernel
theorem d_M_init_47 : decode b_M_init 47 = .ok (.newarray .int, 2) := by decide +kernel
theorem d_M_init_49 : decode b_M_init 49 = .ok (.putfield 26, 3) := by decide +kernel
theorem d_M_init_52 : decode b_M_init 52 = .ok (.aload_n 0, 1) := by decide +kernel
theorem d_M_init_53 : decode b_M_init 53 = .ok (.bipush 48, 2) := by decide +kernel
theorem d_M_init_55 : decode b_M_init 55 = .ok (.newarray .int, 2) := by decide +kernel
theorem d_M_init_57 : decode b_M_init 57 = .ok (.putfield 29, 3) := by decide +kernel
theorem d_M_init_60 : decode b_M_init 60 = .ok (.aload_n 0, 1) := by decide +kernel
theorem d_M_init_61 : decode b_M_init 61 = .ok (.sipush 144, 3) := by decide +kernel
theorem d_M_init_64 : decode b_M_init 64 = .ok (.newarray .int, 2) := by decide +kernel
theorem d_M_init_66 : decode b_M_init 66 = .ok (.putfield 32, 3) := by decide +kernel
theorem d_M_init_69 : decode b_M_init 69 = .ok (.aload_n 0, 1) := by decide +kernel
theorem d_M_init_70 : decode b_M_init 70 = .ok (.sipush 144, 3) := by decide +kernel
theorem d_M_init_73 : decode b_M_init 73 = .ok (.newarray .int, 2) := by decide +kernel
theorem d_M_init_75 : decode b_M_init 75 = .ok (.putfield 35, 3) := by decide +kernel
theorem d_M_init_78 : decode b_M_init 78 = .ok (.aload_n 0, 1) := by decide +kernel
theorem d_M_init_79 : decode b_M_init 79 = .ok (.bipush 64, 2) := by decide +kernel
theorem d_M_init_81 : decode b_M_init 81 = .ok (.newarray .int, 2) := by decide +kernel
theorem d_M_init_83 : decode b_M_init 83 = .ok (.putfield 38, 3) := by decide +kernel
theorem d_M_init_86 : decode b_M_init 86 = .ok (.aload_n 0, 1) := by decide +kernel
theorem d_M_init_87 : decode b_M_init 87 = .ok (.bipush 14, 2) := by decide +kernel
theorem d_M_init_89 : decode b_M_init 89 = .ok (.newarray .int, 2) := by decide +kernel
theorem d_M_init_91 : decode b_M_init 91 = .ok (.putfield 41, 3) := by decide +kernel
theorem d_M_init_94 : decode b_M_init 94 = .ok (.aload_n 0, 1) := by decide +kernel
theorem d_M_init_95 : decode b_M_init 95 = .ok (.sipush 200, 3) := by decide +kernel
theorem d_M_init_98 : decode b_M_init 98 = .ok (.newarray .int, 2) := by decide +kernel
theorem d_M_init_100 : decode b_M_init 100 = .ok (.putfield 44, 3) := by decide +kernel
theorem d_M_init_103 : decode b_M_init 103 = .ok (.iconst 0, 1) := by decide +kernel
theorem d_M_init_104 : decode b_M_init 104 = .ok (.istore_n 1, 1) := by decide +kernel
theorem d_M_init_105 : decode b_M_init 105 = .ok (.iload_n 1, 1) := by decide +kernel
theorem d_M_init_106 : decode b_M_init 106 = .ok (.bipush 48, 2) := by decide +kernel
theorem d_M_init_108 : decode b_M_init 108 = .ok (.if_icmp .ge 16, 3) := by decide +kernel
theorem d_M_init_111 : decode b_M_init 111 = .ok (.aload_n 0, 1) := by decide +kernel
theorem d_M_init_112 : decode b_M_init 112 = .ok (.getfield 23, 3) := by decide +kernel
theorem d_M_init_115 : decode b_M_init 115 = .ok (.iload_n 1, 1) := by decide +kernel
theorem d_M_init_116 : decode b_M_init 116 = .ok (.iconst (-1), 1) := by decide +kernel
theorem d_M_init_117 : decode b_M_init 117 = .ok (.iastore, 1) := by decide +kernel
theorem d_M_init_118 : decode b_M_init 118 = .ok (.iinc 1 1, 3) := by decide +kernel
theorem d_M_init_121 : decode b_M_init 121 = .ok (.goto (-16), 3) := by decide +kernel
theorem d_M_init_124 : decode b_M_init 124 = .ok (.iconst 0, 1) := by decide +kernel
theorem d_M_init_125 : decode b_M_init 125 = .ok (.istore_n 1, 1) := by decide +kernel
theorem d_M_init_126 : decode b_M_init 126 = .ok (.iload_n 1, 1) := by decide +kernel
theorem d_M_init_127 : decode b_M_init 127 = .ok (.sipush 144, 3) := by decide +kernel
theorem d_M_init_130 : decode b_M_init 130 = .ok (.if_icmp .ge 16, 3) := by decide +kernel
theorem d_M_init_133 : decode b_M_init 133 = .ok (.aload_n 0, 1) := by decide +kernel
theorem d_M_init_134 : decode b_M_init 134 = .ok (.getfield 32, 3) := by decide +kernel
theorem d_M_init_137 : decode b_M_init 137 = .ok (.iload_n 1, 1) := by decide +kernel
theorem d_M_init_138 : decode b_M_init 138 = .ok (.iconst (-1), 1) := by decide +kernel
theorem d_M_init_139 : decode b_M_init 139 = .ok (.iastore, 1) := by decide +kernel
theorem d_M_init_140 : decode b_M_init 140 = .ok (.iinc 1 1, 3) := by decide +kernel
theorem d_M_init_143 : decode b_M_init 143 = .ok (.goto (-17), 3) := by decide +kernel
theorem d_M_init_146 : decode b_M_init 146 = .ok (.return_, 1) := by decide +kernel
theorem d_M_in_0 : decode b_M_in 0 = .ok (.iload_n 0, 1) := by decide +kernel
theorem d_M_in_1 : decode b_M_in 1 = .ok (.iload_n 1, 1) := by decide +kernel
theorem d_M_in_2 : decode b_M_in 2 = .ok (.if_icmp .lt 12, 3) := by decide +kernel
theorem d_M_in_5 : decode b_M_in 5 = .ok (.iload_n 0, 1) := by decide +kernel
theorem d_M_in_6 : decode b_M_in 6 = .ok (.iload_n 2, 1) := by decide +kernel
theorem d_M_in_7 : decode b_M_in 7 = .ok (.if_icmp .gt 7, 3) := by decide +kernel
theorem d_M_in_10 : decode b_M_in 10 = .ok (.iconst 1, 1) := by decide +kernel
theorem d_M_in_11 : decode b_M_in 11 = .ok (.goto 4, 3) := by decide +kernel
theorem d_M_in_14 : decode b_M_in 14 = .ok (.iconst 0, 1) := by decide +kernel
theorem d_M_in_15 : decode b_M_in 15 = .ok (.ireturn, 1) := by decide +kernel
theorem d_M_bit_0 : decode b_M_bit 0 = .ok (.iload_n 0, 1) := by decide +kernel
theorem d_M_bit_1 : decode b_M_bit 1 = .ok (.iload_n 1, 1) := by decide +kernel
theorem d_M_bit_2 : decode b_M_bit 2 = .ok (.iand, 1) := by decide +kernel
theorem d_M_bit_3 : decode b_M_bit 3 = .ok (.ifCond .eq 7, 3) := by decide +kernel
theorem d_M_bit_6 : decode b_M_bit 6 = .ok (.iconst 1, 1) := by decide +kernel
theorem d_M_bit_7 : decode b_M_bit 7 = .ok (.goto 4, 3) := by decide +kernel
theorem d_M_bit_10 : decode b_M_bit 10 = .ok (.iconst 0, 1) := by decide +kernel
theorem d_M_bit_11 : decode b_M_bit 11 = .ok (.ireturn, 1) := by decide +kernel
theorem d_M_named_0 : decode b_M_named 0 = .ok (.iconst 0, 1) := by decide +kernel
theorem d_M_named_1 : decode b_M_named 1 = .ok (.istore_n 3, 1) := by decide +kernel
theorem d_M_named_2 : decode b_M_named 2 = .ok (.iload_n 3, 1) := by decide +kernel
theorem d_M_named_3 : decode b_M_named 3 = .ok (.bipush 6, 2) := by decide +kernel
theorem d_M_named_5 : decode b_M_named 5 = .ok (.if_icmp .ge 59, 3) := by decide +kernel
theorem d_M_named_8 : decode b_M_named 8 = .ok (.bipush 6, 2) := by decide +kernel
theorem d_M_named_10 : decode b_M_named 10 = .ok (.iload_n 1, 1) := by decide +kernel
theorem d_M_named_11 : decode b_M_named 11 = .ok (.imul, 1) := by decide +kernel
theorem d_M_named_12 : decode b_M_named 12 = .ok (.iload_n 3, 1) := by decide +kernel
theorem d_M_named_13 : decode b_M_named 13 = .ok (.iadd, 1) := by decide +kernel
theorem d_M_named_14 : decode b_M_named 14 = .ok (.istore 4, 2) := by decide +kernel
theorem d_M_named_16 : decode b_M_named 16 = .ok (.aload_n 0, 1) := by decide +kernel
theorem d_M_named_17 : decode b_M_named 17 = .ok (.getfield 7, 3) := by decide +kernel
theorem d_M_named_20 : decode b_M_named 20 = .ok (.iload 4, 2) := by decide +kernel
theorem d_M_named_22 : decode b_M_named 22 = .ok (.baload, 1) := by decide +kernel
theorem d_M_named_23 : decode b_M_named 23 = .ok (.ifCond .eq 35, 3) := by decide +kernel
theorem d_M_named_26 : decode b_M_named 26 = .ok (.iload_n 3, 1) := by decide +kernel
theorem d_M_named_27 : decode b_M_named 27 = .ok (.iload_n 2, 1) := by decide +kernel
theorem d_M_named_28 : decode b_M_named 28 = .ok (.if_icmp .eq 30, 3) := by decide +kernel
theorem d_M_named_31 : decode b_M_named 31 = .ok (.aload_n 0, 1) := by decide +kernel
theorem d_M_named_32 : decode b_M_named 32 = .ok (.getfield 17, 3) := by decide +kernel
theorem d_M_named_35 : decode b_M_named 35 = .ok (.iload 4, 2) := by decide +kernel
theorem d_M_named_37 : decode b_M_named 37 = .ok (.iaload, 1) := by decide +kernel
theorem d_M_named_38 : decode b_M_named 38 = .ok (.iload_n 2, 1) := by decide +kernel
theorem d_M_named_39 : decode b_M_named 39 = .ok (.if_icmp .eq 17, 3) := by decide +kernel
theorem d_M_named_42 : decode b_M_named 42 = .ok (.aload_n 0, 1) := by decide +kernel
theorem d_M_named_43 : decode b_M_named 43 = .ok (.getfield 20, 3) := by decide +kernel
theorem d_M_named_46 : decode b_M_named 46 = .ok (.iload 4, 2) := by decide +kernel
theorem d_M_named_48 : decode b_M_named 48 = .ok (.iaload, 1) := by decide +kernel
theorem d_M_named_49 : decode b_M_named 49 = .ok (.iload_n 2, 1) := by decide +kernel
theorem d_M_named_50 : decode b_M_named 50 = .ok (.ishr, 1) := by decide +kernel
theorem d_M_named_51 : decode b_M_named 51 = .ok (.iconst 1, 1) := by decide +kernel
theorem d_M_named_52 : decode b_M_named 52 = .ok (.iand, 1) := by decide +kernel
theorem d_M_named_53 : decode b_M_named 53 = .ok (.ifCond .eq 5, 3) := by decide +kernel
theorem d_M_named_56 : decode b_M_named 56 = .ok (.iconst 1, 1) := by decide +kernel
theorem d_M_named_57 : decode b_M_named 57 = .ok (.ireturn, 1) := by decide +kernel
theorem d_M_named_58 : decode b_M_named 58 = .ok (.iinc 3 1, 3) := by decide +kernel
theorem d_M_named_61 : decode b_M_named 61 = .ok (.goto (-59), 3) := by decide +kernel
theorem d_M_named_64 : decode b_M_named 64 = .ok (.iconst 0, 1) := by decide +kernel
theorem d_M_named_65 : decode b_M_named 65 = .ok (.ireturn, 1) := by decide +kernel
theorem d_M_parentsRight_0 : decode b_M_parentsRight 0 = .ok (.bipush 6, 2) := by decide +kernel
theorem d_M_parentsRight_2 : decode b_M_parentsRight 2 = .ok (.iload_n 1, 1) := by decide +kernel
theorem d_M_parentsRight_3 : decode b_M_parentsRight 3 = .ok (.imul, 1) := by decide +kernel
theorem d_M_parentsRight_4 : decode b_M_parentsRight 4 = .ok (.istore 5, 2) := by decide +kernel
theorem d_M_parentsRight_6 : decode b_M_parentsRight 6 = .ok (.iload_n 3, 1) := by decide +kernel
theorem d_M_parentsRight_7 : decode b_M_parentsRight 7 = .ok (.bipush 6, 2) := by decide +kernel
theorem d_M_parentsRight_9 : decode b_M_parentsRight 9 = .ok (.if_icmp .ge 36, 3) := by decide +kernel
theorem d_M_parentsRight_12 : decode b_M_parentsRight 12 = .ok (.iload_n 3, 1) := by decide +kernel
theorem d_M_parentsRight_13 : decode b_M_parentsRight 13 = .ok (.iload_n 2, 1) := by decide +kernel
theorem d_M_parentsRight_14 : decode b_M_parentsRight 14 = .ok (.if_icmp .ge 29, 3) := by decide +kernel
theorem d_M_parentsRight_17 : decode b_M_parentsRight 17 = .ok (.aload_n 0, 1) := by decide +kernel
theorem d_M_parentsRight_18 : decode b_M_parentsRight 18 = .ok (.getfield 7, 3) := by decide +kernel
theorem d_M_parentsRight_21 : decode b_M_parentsRight 21 = .ok (.iload 5, 2) := by decide +kernel
theorem d_M_parentsRight_23 : decode b_M_parentsRight 23 = .ok (.iload_n 3, 1) := by decide +kernel
theorem d_M_parentsRight_24 : decode b_M_parentsRight 24 = .ok (.iadd, 1) := by decide +kernel
theorem d_M_parentsRight_25 : decode b_M_parentsRight 25 = .ok (.baload, 1) := by decide +kernel
theorem d_M_parentsRight_26 : decode b_M_parentsRight 26 = .ok (.ifCond .eq 17, 3) := by decide +kernel
theorem d_M_parentsRight_29 : decode b_M_parentsRight 29 = .ok (.aload_n 0, 1) := by decide +kernel
theorem d_M_parentsRight_30 : decode b_M_parentsRight 30 = .ok (.getfield 13, 3) := by decide +kernel
theorem d_M_parentsRight_33 : decode b_M_parentsRight 33 = .ok (.iload 5, 2) := by decide +kernel
theorem d_M_parentsRight_35 : decode b_M_parentsRight 35 = .ok (.iload_n 3, 1) := by decide +kernel
theorem d_M_parentsRight_36 : decode b_M_parentsRight 36 = .ok (.iadd, 1) := by decide +kernel
theorem d_M_parentsRight_37 : decode b_M_parentsRight 37 = .ok (.iaload, 1) := by decide +kernel
theorem d_M_parentsRight_38 : decode b_M_parentsRight 38 = .ok (.iconst 1, 1) := by decide +kernel
theorem d_M_parentsRight_39 : decode b_M_parentsRight 39 = .ok (.iand, 1) := by decide +kernel
theorem d_M_parentsRight_40 : decode b_M_parentsRight 40 = .ok (.ifCond .eq 5, 3) := by decide +kernel
theorem d_M_parentsRight_43 : decode b_M_parentsRight 43 = .ok (.iconst 0, 1) := by decide +kernel
theorem d_M_parentsRight_44 : decode b_M_parentsRight 44 = .ok (.ireturn, 1) := by decide +kernel
theorem d_M_parentsRight_45 : decode b_M_parentsRight 45 = .ok (.iconst 0, 1) := by decide +kernel
theorem d_M_parentsRight_46 : decode b_M_parentsRight 46 = .ok (.istore 6, 2) := by decide +kernel
theorem d_M_parentsRight_48 : decode b_M_parentsRight 48 = .ok (.iload 6, 2) := by decide +kernel
theorem d_M_parentsRight_50 : decode b_M_parentsRight 50 = .ok (.bipush 6, 2) := by decide +kernel
theorem d_M_parentsRight_52 : decode b_M_parentsRight 52 = .ok (.if_icmp .ge 67, 3) := by decide +kernel
theorem d_M_parentsRight_55 : decode b_M_parentsRight 55 = .ok (.iload 4, 2) := by decide +kernel
theorem d_M_parentsRight_57 : decode b_M_parentsRight 57 = .ok (.iload 6, 2) := by decide +kernel
theorem d_M_parentsRight_59 : decode b_M_parentsRight 59 = .ok (.ishr, 1) := by decide +kernel
theorem d_M_parentsRight_60 : decode b_M_parentsRight 60 = .ok (.iconst 1, 1) := by decide +kernel
theorem d_M_parentsRight_61 : decode b_M_parentsRight 61 = .ok (.iand, 1) := by decide +kernel
theorem d_M_parentsRight_62 : decode b_M_parentsRight 62 = .ok (.ifCond .eq 7, 3) := by decide +kernel
theorem d_M_parentsRight_65 : decode b_M_parentsRight 65 = .ok (.iconst 1, 1) := by decide +kernel
theorem d_M_parentsRight_66 : decode b_M_parentsRight 66 = .ok (.goto 4, 3) := by decide +kernel
theorem d_M_parentsRight_69 : decode b_M_parentsRight 69 = .ok (.iconst 0, 1) := by decide +kernel
theorem d_M_parentsRight_70 : decode b_M_parentsRight 70 = .ok (.istore 7, 2) := by decide +kernel
theorem d_M_parentsRight_72 : decode b_M_parentsRight 72 = .ok (.iload 7, 2) := by decide +kernel
theorem d_M_parentsRight_74 : decode b_M_parentsRight 74 = .ok (.ifCond .eq 39, 3) := by decide +kernel
theorem d_M_parentsRight_77 : decode b_M_parentsRight 77 = .ok (.iload 6, 2) := by decide +kernel
theorem d_M_parentsRight_79 : decode b_M_parentsRight 79 = .ok (.iload_n 2, 1) := by decide +kernel
theorem d_M_parentsRight_80 : decode b_M_parentsRight 80 = .ok (.if_icmp .ge 31, 3) := by decide +kernel
theorem d_M_parentsRight_83 : decode b_M_parentsRight 83 = .ok (.aload_n 0, 1) := by decide +kernel
theorem d_M_parentsRight_84 : decode b_M_parentsRight 84 = .ok (.getfield 7, 3) := by decide +kernel
theorem d_M_parentsRight_87 : decode b_M_parentsRight 87 = .ok (.iload 5, 2) := by decide +kernel
theorem d_M_parentsRight_89 : decode b_M_parentsRight 89 = .ok (.iload 6, 2) := by decide +kernel
theorem d_M_parentsRight_91 : decode b_M_parentsRight 91 = .ok (.iadd, 1) := by decide +kernel
theorem d_M_parentsRight_92 : decode b_M_parentsRight 92 = .ok (.baload, 1) := by decide +kernel
theorem d_M_parentsRight_93 : decode b_M_parentsRight 93 = .ok (.ifCond .eq 18, 3) := by decide +kernel
theorem d_M_parentsRight_96 : decode b_M_parentsRight 96 = .ok (.aload_n 0, 1) := by decide +kernel
theorem d_M_parentsRight_97 : decode b_M_parentsRight 97 = .ok (.getfield 13, 3) := by decide +kernel
theorem d_M_parentsRight_100 : decode b_M_parentsRight 100 = .ok (.iload 5, 2) := by decide +kernel
theorem d_M_parentsRight_102 : decode b_M_parentsRight 102 = .ok (.iload 6, 2) := by decide +kernel
theorem d_M_parentsRight_104 : decode b_M_parentsRight 104 = .ok (.iadd, 1) := by decide +kernel
theorem d_M_parentsRight_105 : decode b_M_parentsRight 105 = .ok (.iaload, 1) := by decide +kernel
theorem d_M_parentsRight_106 : decode b_M_parentsRight 106 = .ok (.iconst 1, 1) := by decide +kernel
theorem d_M_parentsRight_107 : decode b_M_parentsRight 107 = .ok (.iand, 1) := by decide +kernel
theorem d_M_parentsRight_108 : decode b_M_parentsRight 108 = .ok (.ifCond .ne 5, 3) := by decide +kernel
theorem d_M_parentsRight_111 : decode b_M_parentsRight 111 = .ok (.iconst 0, 1) := by decide +kernel
theorem d_M_parentsRight_112 : decode b_M_parentsRight 112 = .ok (.ireturn, 1) := by decide +kernel
theorem d_M_parentsRight_113 : decode b_M_parentsRight 113 = .ok (.iinc 6 1, 3) := by decide +kernel
theorem d_M_parentsRight_116 : decode b_M_parentsRight 116 = .ok (.goto (-68), 3) := by decide +kernel
theorem d_M_parentsRight_119 : decode b_M_parentsRight 119 = .ok (.iconst 1, 1) := by decide +kernel
theorem d_M_parentsRight_120 : decode b_M_parentsRight 120 = .ok (.ireturn, 1) := by decide +kernel
theorem d_M_type_0 : decode b_M_type 0 = .ok (.iload_n 1, 1) := by decide +kernel
theorem d_M_type_1 : decode b_M_type 1 = .ok (.iconst 0, 1) := by decide +kernel
theorem d_M_type_2 : decode b_M_type 2 = .ok (.iconst 1, 1) := by decide +kernel
theorem d_M_type_3 : decode b_M_type 3 = .ok (.invokestatic 47, 3) := by decide +kernel
theorem d_M_type_6 : decode b_M_type 6 = .ok (.ifCond .eq 44, 3) := by decide +kernel
theorem d_M_type_9 : decode b_M_type 9 = .ok (.iload_n 2, 1) := by decide +kernel
theorem d_M_type_10 : decode b_M_type 10 = .ok (.iconst 0, 1) := by decide +kernel
theorem d_M_type_11 : decode b_M_type 11 = .ok (.iconst 5, 1) := by decide +kernel
theorem d_M_type_12 : decode b_M_type 12 = .ok (.invokestatic 47, 3) := by decide +kernel
theorem d_M_type_15 : decode b_M_type 15 = .ok (.ifCond .eq 35, 3) := by decide +kernel
theorem d_M_type_18 : decode b_M_type 18 = .ok (.iload_n 3, 1) := by decide +kernel
theorem d_M_type_19 : decode b_M_type 19 = .ok (.iconst 0, 1) := by decide +kernel
theorem d_M_type_20 : decode b_M_type 20 = .ok (.bipush 15, 2) := by decide +kernel
