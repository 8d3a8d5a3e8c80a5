theorem lr_d_X_make_0 : decode prog_1_method_2_code 0 = .ok (.aload_n 0, 1) := by decide +kernel
theorem lr_d_X_make_1 : decode prog_1_method_2_code 1 = .ok (.iload_n 1, 1) := by decide +kernel
theorem lr_d_X_make_2 : decode prog_1_method_2_code 2 = .ok (.invokevirtual 39, 3) := by decide +kernel
theorem lr_d_X_make_5 : decode prog_1_method_2_code 5 = .ok (.ifCond .eq 10, 3) := by decide +kernel
theorem lr_d_X_make_8 : decode prog_1_method_2_code 8 = .ok (.iload_n 2, 1) := by decide +kernel
theorem lr_d_X_make_9 : decode prog_1_method_2_code 9 = .ok (.invokestatic 43, 3) := by decide +kernel
theorem lr_d_X_make_12 : decode prog_1_method_2_code 12 = .ok (.ifCond .ne 5, 3) := by decide +kernel
theorem lr_d_X_make_15 : decode prog_1_method_2_code 15 = .ok (.iconst (-1), 1) := by decide +kernel
theorem lr_d_X_make_16 : decode prog_1_method_2_code 16 = .ok (.ireturn, 1) := by decide +kernel
theorem lr_d_X_make_17 : decode prog_1_method_2_code 17 = .ok (.aload_n 0, 1) := by decide +kernel
theorem lr_d_X_make_18 : decode prog_1_method_2_code 18 = .ok (.getfield 18, 3) := by decide +kernel
theorem lr_d_X_make_21 : decode prog_1_method_2_code 21 = .ok (.iload_n 1, 1) := by decide +kernel
theorem lr_d_X_make_22 : decode prog_1_method_2_code 22 = .ok (.aaload, 1) := by decide +kernel
theorem lr_d_X_make_23 : decode prog_1_method_2_code 23 = .ok (.astore_n 3, 1) := by decide +kernel
theorem lr_d_X_make_24 : decode prog_1_method_2_code 24 = .ok (.aload_n 3, 1) := by decide +kernel
theorem lr_d_X_make_25 : decode prog_1_method_2_code 25 = .ok (.invokevirtual 46, 3) := by decide +kernel
theorem lr_d_X_make_28 : decode prog_1_method_2_code 28 = .ok (.istore 4, 2) := by decide +kernel
theorem lr_d_X_make_30 : decode prog_1_method_2_code 30 = .ok (.iload 4, 2) := by decide +kernel
theorem lr_d_X_make_32 : decode prog_1_method_2_code 32 = .ok (.iconst (-1), 1) := by decide +kernel
theorem lr_d_X_make_33 : decode prog_1_method_2_code 33 = .ok (.if_icmp .ne 5, 3) := by decide +kernel
theorem lr_d_X_make_36 : decode prog_1_method_2_code 36 = .ok (.iconst (-1), 1) := by decide +kernel
theorem lr_d_X_make_37 : decode prog_1_method_2_code 37 = .ok (.ireturn, 1) := by decide +kernel
theorem lr_d_X_make_38 : decode prog_1_method_2_code 38 = .ok (.aload_n 0, 1) := by decide +kernel
theorem lr_d_X_make_39 : decode prog_1_method_2_code 39 = .ok (.getfield 32, 3) := by decide +kernel
theorem lr_d_X_make_42 : decode prog_1_method_2_code 42 = .ok (.istore 5, 2) := by decide +kernel
theorem lr_d_X_make_44 : decode prog_1_method_2_code 44 = .ok (.aload_n 0, 1) := by decide +kernel
theorem lr_d_X_make_45 : decode prog_1_method_2_code 45 = .ok (.dup, 1) := by decide +kernel
theorem lr_d_X_make_46 : decode prog_1_method_2_code 46 = .ok (.getfield 32, 3) := by decide +kernel
theorem lr_d_X_make_49 : decode prog_1_method_2_code 49 = .ok (.iconst 1, 1) := by decide +kernel
theorem lr_d_X_make_50 : decode prog_1_method_2_code 50 = .ok (.iadd, 1) := by decide +kernel
theorem lr_d_X_make_51 : decode prog_1_method_2_code 51 = .ok (.putfield 32, 3) := by decide +kernel
theorem lr_d_X_make_54 : decode prog_1_method_2_code 54 = .ok (.aload_n 3, 1) := by decide +kernel
theorem lr_d_X_make_55 : decode prog_1_method_2_code 55 = .ok (.getfield 50, 3) := by decide +kernel
theorem lr_d_X_make_58 : decode prog_1_method_2_code 58 = .ok (.iload 4, 2) := by decide +kernel
theorem lr_d_X_make_60 : decode prog_1_method_2_code 60 = .ok (.aaload, 1) := by decide +kernel
theorem lr_d_X_make_61 : decode prog_1_method_2_code 61 = .ok (.iload 5, 2) := by decide +kernel
theorem lr_d_X_make_63 : decode prog_1_method_2_code 63 = .ok (.invokevirtual 54, 3) := by decide +kernel
theorem lr_d_X_make_66 : decode prog_1_method_2_code 66 = .ok (.aload_n 3, 1) := by decide +kernel
theorem lr_d_X_make_67 : decode prog_1_method_2_code 67 = .ok (.getfield 60, 3) := by decide +kernel
theorem lr_d_X_make_70 : decode prog_1_method_2_code 70 = .ok (.iload_n 2, 1) := by decide +kernel
theorem lr_d_X_make_71 : decode prog_1_method_2_code 71 = .ok (.iload 4, 2) := by decide +kernel
theorem lr_d_X_make_73 : decode prog_1_method_2_code 73 = .ok (.iastore, 1) := by decide +kernel
theorem lr_d_X_make_74 : decode prog_1_method_2_code 74 = .ok (.iload 5, 2) := by decide +kernel
theorem lr_d_X_make_76 : decode prog_1_method_2_code 76 = .ok (.ireturn, 1) := by decide +kernel
theorem lr_d_X_isField_0 : decode prog_1_method_25_code 0 = .ok (.iload_n 0, 1) := by decide +kernel
theorem lr_d_X_isField_1 : decode prog_1_method_25_code 1 = .ok (.ifCond .lt 12, 3) := by decide +kernel
theorem lr_d_X_isField_4 : decode prog_1_method_25_code 4 = .ok (.iload_n 0, 1) := by decide +kernel
theorem lr_d_X_isField_5 : decode prog_1_method_25_code 5 = .ok (.iconst 2, 1) := by decide +kernel
theorem lr_d_X_isField_6 : decode prog_1_method_25_code 6 = .ok (.if_icmp .ge 7, 3) := by decide +kernel
theorem lr_d_X_isField_9 : decode prog_1_method_25_code 9 = .ok (.iconst 1, 1) := by decide +kernel
theorem lr_d_X_isField_10 : decode prog_1_method_25_code 10 = .ok (.goto 4, 3) := by decide +kernel
theorem lr_d_X_isField_13 : decode prog_1_method_25_code 13 = .ok (.iconst 0, 1) := by decide +kernel
theorem lr_d_X_isField_14 : decode prog_1_method_25_code 14 = .ok (.ireturn, 1) := by decide +kernel
theorem lr_d_X_link_0 : decode prog_1_method_3_code 0 = .ok (.aload_n 0, 1) := by decide +kernel
theorem lr_d_X_link_1 : decode prog_1_method_3_code 1 = .ok (.iload_n 1, 1) := by decide +kernel
theorem lr_d_X_link_2 : decode prog_1_method_3_code 2 = .ok (.invokevirtual 39, 3) := by decide +kernel
theorem lr_d_X_link_5 : decode prog_1_method_3_code 5 = .ok (.ifCond .eq 17, 3) := by decide +kernel
theorem lr_d_X_link_8 : decode prog_1_method_3_code 8 = .ok (.iload_n 2, 1) := by decide +kernel
theorem lr_d_X_link_9 : decode prog_1_method_3_code 9 = .ok (.invokestatic 43, 3) := by decide +kernel
theorem lr_d_X_link_12 : decode prog_1_method_3_code 12 = .ok (.ifCond .eq 10, 3) := by decide +kernel
theorem lr_d_X_link_15 : decode prog_1_method_3_code 15 = .ok (.iload_n 3, 1) := by decide +kernel
theorem lr_d_X_link_16 : decode prog_1_method_3_code 16 = .ok (.invokestatic 64, 3) := by decide +kernel
theorem lr_d_X_link_19 : decode prog_1_method_3_code 19 = .ok (.ifCond .ne 5, 3) := by decide +kernel
theorem lr_d_X_link_22 : decode prog_1_method_3_code 22 = .ok (.iconst 0, 1) := by decide +kernel
theorem lr_d_X_link_23 : decode prog_1_method_3_code 23 = .ok (.ireturn, 1) := by decide +kernel
theorem lr_d_X_link_24 : decode prog_1_method_3_code 24 = .ok (.iload 4, 2) := by decide +kernel
theorem lr_d_X_link_26 : decode prog_1_method_3_code 26 = .ok (.iconst (-1), 1) := by decide +kernel
theorem lr_d_X_link_27 : decode prog_1_method_3_code 27 = .ok (.if_icmp .eq 13, 3) := by decide +kernel
theorem lr_d_X_link_30 : decode prog_1_method_3_code 30 = .ok (.iload 4, 2) := by decide +kernel
theorem lr_d_X_link_32 : decode prog_1_method_3_code 32 = .ok (.invokestatic 43, 3) := by decide +kernel
theorem lr_d_X_link_35 : decode prog_1_method_3_code 35 = .ok (.ifCond .ne 5, 3) := by decide +kernel
theorem lr_d_X_link_38 : decode prog_1_method_3_code 38 = .ok (.iconst 0, 1) := by decide +kernel
theorem lr_d_X_link_39 : decode prog_1_method_3_code 39 = .ok (.ireturn, 1) := by decide +kernel
theorem lr_d_X_link_40 : decode prog_1_method_3_code 40 = .ok (.aload_n 0, 1) := by decide +kernel
theorem lr_d_X_link_41 : decode prog_1_method_3_code 41 = .ok (.getfield 18, 3) := by decide +kernel
theorem lr_d_X_link_44 : decode prog_1_method_3_code 44 = .ok (.iload_n 1, 1) := by decide +kernel
theorem lr_d_X_link_45 : decode prog_1_method_3_code 45 = .ok (.aaload, 1) := by decide +kernel
theorem lr_d_X_link_46 : decode prog_1_method_3_code 46 = .ok (.astore 5, 2) := by decide +kernel
theorem lr_d_X_link_48 : decode prog_1_method_3_code 48 = .ok (.aload 5, 2) := by decide +kernel
theorem lr_d_X_link_50 : decode prog_1_method_3_code 50 = .ok (.iload_n 2, 1) := by decide +kernel
theorem lr_d_X_link_51 : decode prog_1_method_3_code 51 = .ok (.iconst 1, 1) := by decide +kernel
theorem lr_d_X_link_52 : decode prog_1_method_3_code 52 = .ok (.invokevirtual 67, 3) := by decide +kernel
theorem lr_d_X_link_55 : decode prog_1_method_3_code 55 = .ok (.ifCond .ne 5, 3) := by decide +kernel
theorem lr_d_X_link_58 : decode prog_1_method_3_code 58 = .ok (.iconst 0, 1) := by decide +kernel
theorem lr_d_X_link_59 : decode prog_1_method_3_code 59 = .ok (.ireturn, 1) := by decide +kernel
theorem lr_d_X_link_60 : decode prog_1_method_3_code 60 = .ok (.aload 5, 2) := by decide +kernel
theorem lr_d_X_link_62 : decode prog_1_method_3_code 62 = .ok (.getfield 50, 3) := by decide +kernel
theorem lr_d_X_link_65 : decode prog_1_method_3_code 65 = .ok (.aload 5, 2) := by decide +kernel
theorem lr_d_X_link_67 : decode prog_1_method_3_code 67 = .ok (.getfield 60, 3) := by decide +kernel
theorem lr_d_X_link_70 : decode prog_1_method_3_code 70 = .ok (.iload_n 2, 1) := by decide +kernel
theorem lr_d_X_link_71 : decode prog_1_method_3_code 71 = .ok (.iaload, 1) := by decide +kernel
theorem lr_d_X_link_72 : decode prog_1_method_3_code 72 = .ok (.aaload, 1) := by decide +kernel
theorem lr_d_X_link_73 : decode prog_1_method_3_code 73 = .ok (.getfield 71, 3) := by decide +kernel
theorem lr_d_X_link_76 : decode prog_1_method_3_code 76 = .ok (.iload_n 3, 1) := by decide +kernel
theorem lr_d_X_link_77 : decode prog_1_method_3_code 77 = .ok (.iload 4, 2) := by decide +kernel
theorem lr_d_X_link_79 : decode prog_1_method_3_code 79 = .ok (.iconst (-1), 1) := by decide +kernel
theorem lr_d_X_link_80 : decode prog_1_method_3_code 80 = .ok (.if_icmp .ne 7, 3) := by decide +kernel
theorem lr_d_X_link_83 : decode prog_1_method_3_code 83 = .ok (.iconst (-1), 1) := by decide +kernel
theorem lr_d_X_link_84 : decode prog_1_method_3_code 84 = .ok (.goto 11, 3) := by decide +kernel
theorem lr_d_X_link_87 : decode prog_1_method_3_code 87 = .ok (.aload 5, 2) := by decide +kernel
theorem lr_d_X_link_89 : decode prog_1_method_3_code 89 = .ok (.getfield 60, 3) := by decide +kernel
theorem lr_d_X_link_92 : decode prog_1_method_3_code 92 = .ok (.iload 4, 2) := by decide +kernel
theorem lr_d_X_link_94 : decode prog_1_method_3_code 94 = .ok (.iaload, 1) := by decide +kernel
theorem lr_d_X_link_95 : decode prog_1_method_3_code 95 = .ok (.iastore, 1) := by decide +kernel
theorem lr_d_X_link_96 : decode prog_1_method_3_code 96 = .ok (.iconst 1, 1) := by decide +kernel
theorem lr_d_X_link_97 : decode prog_1_method_3_code 97 = .ok (.ireturn, 1) := by decide +kernel
theorem lr_d_X_fetch_0 : decode prog_1_method_4_code 0 = .ok (.aload_n 0, 1) := by decide +kernel
theorem lr_d_X_fetch_1 : decode prog_1_method_4_code 1 = .ok (.iload_n 1, 1) := by decide +kernel
theorem lr_d_X_fetch_2 : decode prog_1_method_4_code 2 = .ok (.invokevirtual 39, 3) := by decide +kernel
theorem lr_d_X_fetch_5 : decode prog_1_method_4_code 5 = .ok (.ifCond .eq 25, 3) := by decide +kernel
theorem lr_d_X_fetch_8 : decode prog_1_method_4_code 8 = .ok (.iload_n 2, 1) := by decide +kernel
theorem lr_d_X_fetch_9 : decode prog_1_method_4_code 9 = .ok (.invokestatic 43, 3) := by decide +kernel
theorem lr_d_X_fetch_12 : decode prog_1_method_4_code 12 = .ok (.ifCond .eq 18, 3) := by decide +kernel
theorem lr_d_X_fetch_15 : decode prog_1_method_4_code 15 = .ok (.iload_n 3, 1) := by decide +kernel
theorem lr_d_X_fetch_16 : decode prog_1_method_4_code 16 = .ok (.invokestatic 64, 3) := by decide +kernel
theorem lr_d_X_fetch_19 : decode prog_1_method_4_code 19 = .ok (.ifCond .eq 11, 3) := by decide +kernel
theorem lr_d_X_fetch_22 : decode prog_1_method_4_code 22 = .ok (.iload 4, 2) := by decide +kernel
theorem lr_d_X_fetch_24 : decode prog_1_method_4_code 24 = .ok (.invokestatic 43, 3) := by decide +kernel
theorem lr_d_X_fetch_27 : decode prog_1_method_4_code 27 = .ok (.ifCond .ne 5, 3) := by decide +kernel
theorem lr_d_X_fetch_30 : decode prog_1_method_4_code 30 = .ok (.iconst 0, 1) := by decide +kernel
theorem lr_d_X_fetch_31 : decode prog_1_method_4_code 31 = .ok (.ireturn, 1) := by decide +kernel
theorem lr_d_X_fetch_32 : decode prog_1_method_4_code 32 = .ok (.aload_n 0, 1) := by decide +kernel
theorem lr_d_X_fetch_33 : decode prog_1_method_4_code 33 = .ok (.getfield 18, 3) := by decide +kernel
theorem lr_d_X_fetch_36 : decode prog_1_method_4_code 36 = .ok (.iload_n 1, 1) := by decide +kernel
theorem lr_d_X_fetch_37 : decode prog_1_method_4_code 37 = .ok (.aaload, 1) := by decide +kernel
theorem lr_d_X_fetch_38 : decode prog_1_method_4_code 38 = .ok (.astore 5, 2) := by decide +kernel
theorem lr_d_X_fetch_40 : decode prog_1_method_4_code 40 = .ok (.aload 5, 2) := by decide +kernel
theorem lr_d_X_fetch_42 : decode prog_1_method_4_code 42 = .ok (.iload_n 2, 1) := by decide +kernel
theorem lr_d_X_fetch_43 : decode prog_1_method_4_code 43 = .ok (.iconst 1, 1) := by decide +kernel
theorem lr_d_X_fetch_44 : decode prog_1_method_4_code 44 = .ok (.invokevirtual 67, 3) := by decide +kernel
theorem lr_d_X_fetch_47 : decode prog_1_method_4_code 47 = .ok (.ifCond .ne 5, 3) := by decide +kernel
theorem lr_d_X_fetch_50 : decode prog_1_method_4_code 50 = .ok (.iconst 0, 1) := by decide +kernel
theorem lr_d_X_fetch_51 : decode prog_1_method_4_code 51 = .ok (.ireturn, 1) := by decide +kernel
theorem lr_d_X_fetch_52 : decode prog_1_method_4_code 52 = .ok (.aload 5, 2) := by decide +kernel
theorem lr_d_X_fetch_54 : decode prog_1_method_4_code 54 = .ok (.getfield 60, 3) := by decide +kernel
theorem lr_d_X_fetch_57 : decode prog_1_method_4_code 57 = .ok (.iload 4, 2) := by decide +kernel
theorem lr_d_X_fetch_59 : decode prog_1_method_4_code 59 = .ok (.aload 5, 2) := by decide +kernel
theorem lr_d_X_fetch_61 : decode prog_1_method_4_code 61 = .ok (.getfield 50, 3) := by decide +kernel
theorem lr_d_X_fetch_64 : decode prog_1_method_4_code 64 = .ok (.aload 5, 2) := by decide +kernel
theorem lr_d_X_fetch_66 : decode prog_1_method_4_code 66 = .ok (.getfield 60, 3) := by decide +kernel
theorem lr_d_X_fetch_69 : decode prog_1_method_4_code 69 = .ok (.iload_n 2, 1) := by decide +kernel
theorem lr_d_X_fetch_70 : decode prog_1_method_4_code 70 = .ok (.iaload, 1) := by decide +kernel
theorem lr_d_X_fetch_71 : decode prog_1_method_4_code 71 = .ok (.aaload, 1) := by decide +kernel
theorem lr_d_X_fetch_72 : decode prog_1_method_4_code 72 = .ok (.getfield 71, 3) := by decide +kernel
theorem lr_d_X_fetch_75 : decode prog_1_method_4_code 75 = .ok (.iload_n 3, 1) := by decide +kernel
theorem lr_d_X_fetch_76 : decode prog_1_method_4_code 76 = .ok (.iaload, 1) := by decide +kernel
theorem lr_d_X_fetch_77 : decode prog_1_method_4_code 77 = .ok (.iastore, 1) := by decide +kernel
theorem lr_d_X_fetch_78 : decode prog_1_method_4_code 78 = .ok (.iconst 1, 1) := by decide +kernel
theorem lr_d_X_fetch_79 : decode prog_1_method_4_code 79 = .ok (.ireturn, 1) := by decide +kernel
theorem lr_d_X_drop_0 : decode prog_1_method_5_code 0 = .ok (.aload_n 0, 1) := by decide +kernel
theorem lr_d_X_drop_1 : decode prog_1_method_5_code 1 = .ok (.iload_n 1, 1) := by decide +kernel
theorem lr_d_X_drop_2 : decode prog_1_method_5_code 2 = .ok (.invokevirtual 39, 3) := by decide +kernel
theorem lr_d_X_drop_5 : decode prog_1_method_5_code 5 = .ok (.ifCond .eq 10, 3) := by decide +kernel
theorem lr_d_X_drop_8 : decode prog_1_method_5_code 8 = .ok (.iload_n 2, 1) := by decide +kernel
theorem lr_d_X_drop_9 : decode prog_1_method_5_code 9 = .ok (.invokestatic 43, 3) := by decide +kernel
theorem lr_d_X_drop_12 : decode prog_1_method_5_code 12 = .ok (.ifCond .ne 5, 3) := by decide +kernel
theorem lr_d_X_drop_15 : decode prog_1_method_5_code 15 = .ok (.iconst 0, 1) := by decide +kernel
theorem lr_d_X_drop_16 : decode prog_1_method_5_code 16 = .ok (.ireturn, 1) := by decide +kernel
theorem lr_d_X_drop_17 : decode prog_1_method_5_code 17 = .ok (.aload_n 0, 1) := by decide +kernel
theorem lr_d_X_drop_18 : decode prog_1_method_5_code 18 = .ok (.getfield 18, 3) := by decide +kernel
theorem lr_d_X_drop_21 : decode prog_1_method_5_code 21 = .ok (.iload_n 1, 1) := by decide +kernel
theorem lr_d_X_drop_22 : decode prog_1_method_5_code 22 = .ok (.aaload, 1) := by decide +kernel
theorem lr_d_X_drop_23 : decode prog_1_method_5_code 23 = .ok (.getfield 60, 3) := by decide +kernel
theorem lr_d_X_drop_26 : decode prog_1_method_5_code 26 = .ok (.iload_n 2, 1) := by decide +kernel
theorem lr_d_X_drop_27 : decode prog_1_method_5_code 27 = .ok (.iconst (-1), 1) := by decide +kernel
theorem lr_d_X_drop_28 : decode prog_1_method_5_code 28 = .ok (.iastore, 1) := by decide +kernel
theorem lr_d_X_drop_29 : decode prog_1_method_5_code 29 = .ok (.iconst 1, 1) := by decide +kernel
theorem lr_d_X_drop_30 : decode prog_1_method_5_code 30 = .ok (.ireturn, 1) := by decide +kernel
theorem lr_d_X_pass_0 : decode prog_1_method_6_code 0 = .ok (.aload_n 0, 1) := by decide +kernel
theorem lr_d_X_pass_1 : decode prog_1_method_6_code 1 = .ok (.iload_n 1, 1) := by decide +kernel
theorem lr_d_X_pass_2 : decode prog_1_method_6_code 2 = .ok (.invokevirtual 39, 3) := by decide +kernel
theorem lr_d_X_pass_5 : decode prog_1_method_6_code 5 = .ok (.ifCond .eq 30, 3) := by decide +kernel
theorem lr_d_X_pass_8 : decode prog_1_method_6_code 8 = .ok (.iload_n 2, 1) := by decide +kernel
theorem lr_d_X_pass_9 : decode prog_1_method_6_code 9 = .ok (.invokestatic 43, 3) := by decide +kernel
theorem lr_d_X_pass_12 : decode prog_1_method_6_code 12 = .ok (.ifCond .eq 23, 3) := by decide +kernel
theorem lr_d_X_pass_15 : decode prog_1_method_6_code 15 = .ok (.iload_n 3, 1) := by decide +kernel
theorem lr_d_X_pass_16 : decode prog_1_method_6_code 16 = .ok (.invokestatic 74, 3) := by decide +kernel
theorem lr_d_X_pass_19 : decode prog_1_method_6_code 19 = .ok (.ifCond .eq 16, 3) := by decide +kernel
theorem lr_d_X_pass_22 : decode prog_1_method_6_code 22 = .ok (.iload 4, 2) := by decide +kernel
theorem lr_d_X_pass_24 : decode prog_1_method_6_code 24 = .ok (.invokestatic 43, 3) := by decide +kernel
theorem lr_d_X_pass_27 : decode prog_1_method_6_code 27 = .ok (.ifCond .eq 8, 3) := by decide +kernel
theorem lr_d_X_pass_30 : decode prog_1_method_6_code 30 = .ok (.iload_n 3, 1) := by decide +kernel
theorem lr_d_X_pass_31 : decode prog_1_method_6_code 31 = .ok (.iload_n 1, 1) := by decide +kernel
theorem lr_d_X_pass_32 : decode prog_1_method_6_code 32 = .ok (.if_icmp .ne 5, 3) := by decide +kernel
theorem lr_d_X_pass_35 : decode prog_1_method_6_code 35 = .ok (.iconst (-1), 1) := by decide +kernel
theorem lr_d_X_pass_36 : decode prog_1_method_6_code 36 = .ok (.ireturn, 1) := by decide +kernel
theorem lr_d_X_pass_37 : decode prog_1_method_6_code 37 = .ok (.aload_n 0, 1) := by decide +kernel
theorem lr_d_X_pass_38 : decode prog_1_method_6_code 38 = .ok (.getfield 18, 3) := by decide +kernel
theorem lr_d_X_pass_41 : decode prog_1_method_6_code 41 = .ok (.iload_n 1, 1) := by decide +kernel
theorem lr_d_X_pass_42 : decode prog_1_method_6_code 42 = .ok (.aaload, 1) := by decide +kernel
theorem lr_d_X_pass_43 : decode prog_1_method_6_code 43 = .ok (.astore 5, 2) := by decide +kernel
theorem lr_d_X_pass_45 : decode prog_1_method_6_code 45 = .ok (.aload 5, 2) := by decide +kernel
theorem lr_d_X_pass_47 : decode prog_1_method_6_code 47 = .ok (.iload_n 2, 1) := by decide +kernel
theorem lr_d_X_pass_48 : decode prog_1_method_6_code 48 = .ok (.iconst 0, 1) := by decide +kernel
theorem lr_d_X_pass_49 : decode prog_1_method_6_code 49 = .ok (.invokevirtual 67, 3) := by decide +kernel
theorem lr_d_X_pass_52 : decode prog_1_method_6_code 52 = .ok (.ifCond .ne 13, 3) := by decide +kernel
theorem lr_d_X_pass_55 : decode prog_1_method_6_code 55 = .ok (.aload 5, 2) := by decide +kernel
theorem lr_d_X_pass_57 : decode prog_1_method_6_code 57 = .ok (.invokevirtual 77, 3) := by decide +kernel
theorem lr_d_X_pass_60 : decode prog_1_method_6_code 60 = .ok (.bipush 6, 2) := by decide +kernel
theorem lr_d_X_pass_62 : decode prog_1_method_6_code 62 = .ok (.if_icmp .ne 5, 3) := by decide +kernel
theorem lr_d_X_pass_65 : decode prog_1_method_6_code 65 = .ok (.iconst (-1), 1) := by decide +kernel
theorem lr_d_X_pass_66 : decode prog_1_method_6_code 66 = .ok (.ireturn, 1) := by decide +kernel
theorem lr_d_X_pass_67 : decode prog_1_method_6_code 67 = .ok (.aload 5, 2) := by decide +kernel
theorem lr_d_X_pass_69 : decode prog_1_method_6_code 69 = .ok (.iload_n 2, 1) := by decide +kernel
theorem lr_d_X_pass_70 : decode prog_1_method_6_code 70 = .ok (.iconst 2, 1) := by decide +kernel
theorem lr_d_X_pass_71 : decode prog_1_method_6_code 71 = .ok (.invokevirtual 67, 3) := by decide +kernel
theorem lr_d_X_pass_74 : decode prog_1_method_6_code 74 = .ok (.ifCond .eq 15, 3) := by decide +kernel
theorem lr_d_X_pass_77 : decode prog_1_method_6_code 77 = .ok (.aload 5, 2) := by decide +kernel
theorem lr_d_X_pass_79 : decode prog_1_method_6_code 79 = .ok (.iload_n 2, 1) := by decide +kernel
theorem lr_d_X_pass_80 : decode prog_1_method_6_code 80 = .ok (.invokevirtual 80, 3) := by decide +kernel
theorem lr_d_X_pass_83 : decode prog_1_method_6_code 83 = .ok (.ifCond .ne 6, 3) := by decide +kernel
theorem lr_d_X_pass_86 : decode prog_1_method_6_code 86 = .ok (.bipush (-2), 2) := by decide +kernel
theorem lr_d_X_pass_88 : decode prog_1_method_6_code 88 = .ok (.ireturn, 1) := by decide +kernel
theorem lr_d_X_pass_89 : decode prog_1_method_6_code 89 = .ok (.aload_n 0, 1) := by decide +kernel
theorem lr_d_X_pass_90 : decode prog_1_method_6_code 90 = .ok (.getfield 36, 3) := by decide +kernel
theorem lr_d_X_pass_93 : decode prog_1_method_6_code 93 = .ok (.istore 6, 2) := by decide +kernel
theorem lr_d_X_pass_95 : decode prog_1_method_6_code 95 = .ok (.aload_n 0, 1) := by decide +kernel
theorem lr_d_X_pass_96 : decode prog_1_method_6_code 96 = .ok (.dup, 1) := by decide +kernel
theorem lr_d_X_pass_97 : decode prog_1_method_6_code 97 = .ok (.getfield 36, 3) := by decide +kernel
theorem lr_d_X_pass_100 : decode prog_1_method_6_code 100 = .ok (.iconst 1, 1) := by decide +kernel
theorem lr_d_X_pass_101 : decode prog_1_method_6_code 101 = .ok (.iadd, 1) := by decide +kernel
theorem lr_d_X_pass_102 : decode prog_1_method_6_code 102 = .ok (.putfield 36, 3) := by decide +kernel
theorem lr_d_X_pass_105 : decode prog_1_method_6_code 105 = .ok (.aload 5, 2) := by decide +kernel
theorem lr_d_X_pass_107 : decode prog_1_method_6_code 107 = .ok (.iload_n 2, 1) := by decide +kernel
theorem lr_d_X_pass_108 : decode prog_1_method_6_code 108 = .ok (.iload_n 3, 1) := by decide +kernel
theorem lr_d_X_pass_109 : decode prog_1_method_6_code 109 = .ok (.iload 4, 2) := by decide +kernel
theorem lr_d_X_pass_111 : decode prog_1_method_6_code 111 = .ok (.iload 6, 2) := by decide +kernel
theorem lr_d_X_pass_113 : decode prog_1_method_6_code 113 = .ok (.invokevirtual 83, 3) := by decide +kernel
theorem lr_d_X_pass_116 : decode prog_1_method_6_code 116 = .ok (.iload 6, 2) := by decide +kernel
theorem lr_d_X_pass_118 : decode prog_1_method_6_code 118 = .ok (.ireturn, 1) := by decide +kernel
theorem lr_d_X_call_0 : decode prog_1_method_7_code 0 = .ok (.aload_n 0, 1) := by decide +kernel
theorem lr_d_X_call_1 : decode prog_1_method_7_code 1 = .ok (.iload_n 1, 1) := by decide +kernel
theorem lr_d_X_call_2 : decode prog_1_method_7_code 2 = .ok (.invokevirtual 39, 3) := by decide +kernel
theorem lr_d_X_call_5 : decode prog_1_method_7_code 5 = .ok (.ifCond .eq 10, 3) := by decide +kernel
theorem lr_d_X_call_8 : decode prog_1_method_7_code 8 = .ok (.iload_n 2, 1) := by decide +kernel
theorem lr_d_X_call_9 : decode prog_1_method_7_code 9 = .ok (.invokestatic 43, 3) := by decide +kernel
theorem lr_d_X_call_12 : decode prog_1_method_7_code 12 = .ok (.ifCond .ne 5, 3) := by decide +kernel
theorem lr_d_X_call_15 : decode prog_1_method_7_code 15 = .ok (.iconst (-1), 1) := by decide +kernel
theorem lr_d_X_call_16 : decode prog_1_method_7_code 16 = .ok (.ireturn, 1) := by decide +kernel
theorem lr_d_X_call_17 : decode prog_1_method_7_code 17 = .ok (.aload_n 0, 1) := by decide +kernel
theorem lr_d_X_call_18 : decode prog_1_method_7_code 18 = .ok (.getfield 18, 3) := by decide +kernel
theorem lr_d_X_call_21 : decode prog_1_method_7_code 21 = .ok (.iload_n 1, 1) := by decide +kernel
theorem lr_d_X_call_22 : decode prog_1_method_7_code 22 = .ok (.aaload, 1) := by decide +kernel
theorem lr_d_X_call_23 : decode prog_1_method_7_code 23 = .ok (.astore 4, 2) := by decide +kernel
theorem lr_d_X_call_25 : decode prog_1_method_7_code 25 = .ok (.aload 4, 2) := by decide +kernel
theorem lr_d_X_call_27 : decode prog_1_method_7_code 27 = .ok (.getfield 87, 3) := by decide +kernel
theorem lr_d_X_call_30 : decode prog_1_method_7_code 30 = .ok (.getfield 91, 3) := by decide +kernel
theorem lr_d_X_call_33 : decode prog_1_method_7_code 33 = .ok (.iconst 1, 1) := by decide +kernel
theorem lr_d_X_call_34 : decode prog_1_method_7_code 34 = .ok (.if_icmp .eq 13, 3) := by decide +kernel
theorem lr_d_X_call_37 : decode prog_1_method_7_code 37 = .ok (.aload 4, 2) := by decide +kernel
theorem lr_d_X_call_39 : decode prog_1_method_7_code 39 = .ok (.iload_n 2, 1) := by decide +kernel
theorem lr_d_X_call_40 : decode prog_1_method_7_code 40 = .ok (.iconst 2, 1) := by decide +kernel
theorem lr_d_X_call_41 : decode prog_1_method_7_code 41 = .ok (.invokevirtual 67, 3) := by decide +kernel
theorem lr_d_X_call_44 : decode prog_1_method_7_code 44 = .ok (.ifCond .ne 5, 3) := by decide +kernel
theorem lr_d_X_call_47 : decode prog_1_method_7_code 47 = .ok (.iconst (-1), 1) := by decide +kernel
theorem lr_d_X_call_48 : decode prog_1_method_7_code 48 = .ok (.ireturn, 1) := by decide +kernel
theorem lr_d_X_call_49 : decode prog_1_method_7_code 49 = .ok (.aload 4, 2) := by decide +kernel
theorem lr_d_X_call_51 : decode prog_1_method_7_code 51 = .ok (.iload_n 2, 1) := by decide +kernel
theorem lr_d_X_call_52 : decode prog_1_method_7_code 52 = .ok (.invokevirtual 80, 3) := by decide +kernel
theorem lr_d_X_call_55 : decode prog_1_method_7_code 55 = .ok (.ifCond .ne 6, 3) := by decide +kernel
theorem lr_d_X_call_58 : decode prog_1_method_7_code 58 = .ok (.bipush (-2), 2) := by decide +kernel
theorem lr_d_X_call_60 : decode prog_1_method_7_code 60 = .ok (.ireturn, 1) := by decide +kernel
theorem lr_d_X_call_61 : decode prog_1_method_7_code 61 = .ok (.aload 4, 2) := by decide +kernel
theorem lr_d_X_call_63 : decode prog_1_method_7_code 63 = .ok (.aload 4, 2) := by decide +kernel
theorem lr_d_X_call_65 : decode prog_1_method_7_code 65 = .ok (.getfield 60, 3) := by decide +kernel
theorem lr_d_X_call_68 : decode prog_1_method_7_code 68 = .ok (.iload_n 2, 1) := by decide +kernel
theorem lr_d_X_call_69 : decode prog_1_method_7_code 69 = .ok (.iaload, 1) := by decide +kernel
theorem lr_d_X_call_70 : decode prog_1_method_7_code 70 = .ok (.iload_n 3, 1) := by decide +kernel
theorem lr_d_X_call_71 : decode prog_1_method_7_code 71 = .ok (.invokevirtual 96, 3) := by decide +kernel
theorem lr_d_X_call_74 : decode prog_1_method_7_code 74 = .ok (.aload 4, 2) := by decide +kernel
theorem lr_d_X_call_76 : decode prog_1_method_7_code 76 = .ok (.getfield 87, 3) := by decide +kernel
theorem lr_d_X_call_79 : decode prog_1_method_7_code 79 = .ok (.getfield 100, 3) := by decide +kernel
theorem lr_d_X_call_82 : decode prog_1_method_7_code 82 = .ok (.ireturn, 1) := by decide +kernel
theorem lr_d_X_deliver_0 : decode prog_1_method_8_code 0 = .ok (.aload_n 0, 1) := by decide +kernel
theorem lr_d_X_deliver_1 : decode prog_1_method_8_code 1 = .ok (.getfield 10, 3) := by decide +kernel
theorem lr_d_X_deliver_4 : decode prog_1_method_8_code 4 = .ok (.iload_n 1, 1) := by decide +kernel
theorem lr_d_X_deliver_5 : decode prog_1_method_8_code 5 = .ok (.invokevirtual 103, 3) := by decide +kernel
theorem lr_d_X_deliver_8 : decode prog_1_method_8_code 8 = .ok (.ifCond .ne 5, 3) := by decide +kernel
theorem lr_d_X_deliver_11 : decode prog_1_method_8_code 11 = .ok (.iconst (-1), 1) := by decide +kernel
theorem lr_d_X_deliver_12 : decode prog_1_method_8_code 12 = .ok (.ireturn, 1) := by decide +kernel
theorem lr_d_X_deliver_13 : decode prog_1_method_8_code 13 = .ok (.aload_n 0, 1) := by decide +kernel
theorem lr_d_X_deliver_14 : decode prog_1_method_8_code 14 = .ok (.getfield 28, 3) := by decide +kernel
theorem lr_d_X_deliver_17 : decode prog_1_method_8_code 17 = .ok (.aload_n 0, 1) := by decide +kernel
theorem lr_d_X_deliver_18 : decode prog_1_method_8_code 18 = .ok (.getfield 10, 3) := by decide +kernel
theorem lr_d_X_deliver_21 : decode prog_1_method_8_code 21 = .ok (.getfield 106, 3) := by decide +kernel
theorem lr_d_X_deliver_24 : decode prog_1_method_8_code 24 = .ok (.iload_n 1, 1) := by decide +kernel
theorem lr_d_X_deliver_25 : decode prog_1_method_8_code 25 = .ok (.aaload, 1) := by decide +kernel
theorem lr_d_X_deliver_26 : decode prog_1_method_8_code 26 = .ok (.invokevirtual 110, 3) := by decide +kernel
theorem lr_d_X_deliver_29 : decode prog_1_method_8_code 29 = .ok (.aload_n 0, 1) := by decide +kernel
theorem lr_d_X_deliver_30 : decode prog_1_method_8_code 30 = .ok (.getfield 10, 3) := by decide +kernel
theorem lr_d_X_deliver_33 : decode prog_1_method_8_code 33 = .ok (.iload_n 1, 1) := by decide +kernel
theorem lr_d_X_deliver_34 : decode prog_1_method_8_code 34 = .ok (.invokevirtual 114, 3) := by decide +kernel
theorem lr_d_X_deliver_37 : decode prog_1_method_8_code 37 = .ok (.aload_n 0, 1) := by decide +kernel
theorem lr_d_X_deliver_38 : decode prog_1_method_8_code 38 = .ok (.getfield 18, 3) := by decide +kernel
theorem lr_d_X_deliver_41 : decode prog_1_method_8_code 41 = .ok (.aload_n 0, 1) := by decide +kernel
theorem lr_d_X_deliver_42 : decode prog_1_method_8_code 42 = .ok (.getfield 28, 3) := by decide +kernel
theorem lr_d_X_deliver_45 : decode prog_1_method_8_code 45 = .ok (.getfield 117, 3) := by decide +kernel
theorem lr_d_X_deliver_48 : decode prog_1_method_8_code 48 = .ok (.aaload, 1) := by decide +kernel
theorem lr_d_X_deliver_49 : decode prog_1_method_8_code 49 = .ok (.aload_n 0, 1) := by decide +kernel
theorem lr_d_X_deliver_50 : decode prog_1_method_8_code 50 = .ok (.getfield 28, 3) := by decide +kernel
theorem lr_d_X_deliver_53 : decode prog_1_method_8_code 53 = .ok (.invokevirtual 120, 3) := by decide +kernel
theorem lr_d_X_deliver_56 : decode prog_1_method_8_code 56 = .ok (.ifCond .eq 7, 3) := by decide +kernel
theorem lr_d_X_deliver_59 : decode prog_1_method_8_code 59 = .ok (.iconst 1, 1) := by decide +kernel
theorem lr_d_X_deliver_60 : decode prog_1_method_8_code 60 = .ok (.goto 4, 3) := by decide +kernel
theorem lr_d_X_deliver_63 : decode prog_1_method_8_code 63 = .ok (.iconst 0, 1) := by decide +kernel
theorem lr_d_X_deliver_64 : decode prog_1_method_8_code 64 = .ok (.ireturn, 1) := by decide +kernel
theorem lr_d_X_lose_0 : decode prog_1_method_9_code 0 = .ok (.aload_n 0, 1) := by decide +kernel
theorem lr_d_X_lose_1 : decode prog_1_method_9_code 1 = .ok (.getfield 10, 3) := by decide +kernel
theorem lr_d_X_lose_4 : decode prog_1_method_9_code 4 = .ok (.iload_n 1, 1) := by decide +kernel
theorem lr_d_X_lose_5 : decode prog_1_method_9_code 5 = .ok (.invokevirtual 103, 3) := by decide +kernel
theorem lr_d_X_lose_8 : decode prog_1_method_9_code 8 = .ok (.ifCond .ne 5, 3) := by decide +kernel
theorem lr_d_X_lose_11 : decode prog_1_method_9_code 11 = .ok (.iconst 0, 1) := by decide +kernel
theorem lr_d_X_lose_12 : decode prog_1_method_9_code 12 = .ok (.ireturn, 1) := by decide +kernel
theorem lr_d_X_lose_13 : decode prog_1_method_9_code 13 = .ok (.aload_n 0, 1) := by decide +kernel
theorem lr_d_X_lose_14 : decode prog_1_method_9_code 14 = .ok (.getfield 10, 3) := by decide +kernel
theorem lr_d_X_lose_17 : decode prog_1_method_9_code 17 = .ok (.iload_n 1, 1) := by decide +kernel
theorem lr_d_X_lose_18 : decode prog_1_method_9_code 18 = .ok (.invokevirtual 114, 3) := by decide +kernel
theorem lr_d_X_lose_21 : decode prog_1_method_9_code 21 = .ok (.iconst 1, 1) := by decide +kernel
theorem lr_d_X_lose_22 : decode prog_1_method_9_code 22 = .ok (.ireturn, 1) := by decide +kernel
theorem lr_d_X_copy_0 : decode prog_1_method_10_code 0 = .ok (.aload_n 0, 1) := by decide +kernel
theorem lr_d_X_copy_1 : decode prog_1_method_10_code 1 = .ok (.getfield 10, 3) := by decide +kernel
theorem lr_d_X_copy_4 : decode prog_1_method_10_code 4 = .ok (.iload_n 1, 1) := by decide +kernel
theorem lr_d_X_copy_5 : decode prog_1_method_10_code 5 = .ok (.invokevirtual 103, 3) := by decide +kernel
theorem lr_d_X_copy_8 : decode prog_1_method_10_code 8 = .ok (.ifCond .eq 15, 3) := by decide +kernel
theorem lr_d_X_copy_11 : decode prog_1_method_10_code 11 = .ok (.aload_n 0, 1) := by decide +kernel
theorem lr_d_X_copy_12 : decode prog_1_method_10_code 12 = .ok (.getfield 10, 3) := by decide +kernel
theorem lr_d_X_copy_15 : decode prog_1_method_10_code 15 = .ok (.getfield 124, 3) := by decide +kernel
theorem lr_d_X_copy_18 : decode prog_1_method_10_code 18 = .ok (.bipush 32, 2) := by decide +kernel
theorem lr_d_X_copy_20 : decode prog_1_method_10_code 20 = .ok (.if_icmp .ne 5, 3) := by decide +kernel
theorem lr_d_X_copy_23 : decode prog_1_method_10_code 23 = .ok (.iconst 0, 1) := by decide +kernel
theorem lr_d_X_copy_24 : decode prog_1_method_10_code 24 = .ok (.ireturn, 1) := by decide +kernel
theorem lr_d_X_copy_25 : decode prog_1_method_10_code 25 = .ok (.aload_n 0, 1) := by decide +kernel
theorem lr_d_X_copy_26 : decode prog_1_method_10_code 26 = .ok (.getfield 10, 3) := by decide +kernel
theorem lr_d_X_copy_29 : decode prog_1_method_10_code 29 = .ok (.aload_n 0, 1) := by decide +kernel
theorem lr_d_X_copy_30 : decode prog_1_method_10_code 30 = .ok (.getfield 10, 3) := by decide +kernel
theorem lr_d_X_copy_33 : decode prog_1_method_10_code 33 = .ok (.getfield 106, 3) := by decide +kernel
theorem lr_d_X_copy_36 : decode prog_1_method_10_code 36 = .ok (.iload_n 1, 1) := by decide +kernel
theorem lr_d_X_copy_37 : decode prog_1_method_10_code 37 = .ok (.aaload, 1) := by decide +kernel
theorem lr_d_X_copy_38 : decode prog_1_method_10_code 38 = .ok (.invokevirtual 127, 3) := by decide +kernel
theorem lr_d_X_copy_41 : decode prog_1_method_10_code 41 = .ok (.iconst 1, 1) := by decide +kernel
theorem lr_d_X_copy_42 : decode prog_1_method_10_code 42 = .ok (.ireturn, 1) := by decide +kernel
theorem lr_d_X_tick_0 : decode prog_1_method_11_code 0 = .ok (.iload_n 1, 1) := by decide +kernel
theorem lr_d_X_tick_1 : decode prog_1_method_11_code 1 = .ok (.iconst 1, 1) := by decide +kernel
theorem lr_d_X_tick_2 : decode prog_1_method_11_code 2 = .ok (.if_icmp .lt 9, 3) := by decide +kernel
theorem lr_d_X_tick_5 : decode prog_1_method_11_code 5 = .ok (.iload_n 1, 1) := by decide +kernel
theorem lr_d_X_tick_6 : decode prog_1_method_11_code 6 = .ok (.bipush 12, 2) := by decide +kernel
theorem lr_d_X_tick_8 : decode prog_1_method_11_code 8 = .ok (.if_icmp .le 5, 3) := by decide +kernel
theorem lr_d_X_tick_11 : decode prog_1_method_11_code 11 = .ok (.iconst 0, 1) := by decide +kernel
theorem lr_d_X_tick_12 : decode prog_1_method_11_code 12 = .ok (.ireturn, 1) := by decide +kernel
theorem lr_d_X_tick_13 : decode prog_1_method_11_code 13 = .ok (.iconst 0, 1) := by decide +kernel
theorem lr_d_X_tick_14 : decode prog_1_method_11_code 14 = .ok (.istore_n 2, 1) := by decide +kernel
theorem lr_d_X_tick_15 : decode prog_1_method_11_code 15 = .ok (.iload_n 2, 1) := by decide +kernel
theorem lr_d_X_tick_16 : decode prog_1_method_11_code 16 = .ok (.iload_n 1, 1) := by decide +kernel
theorem lr_d_X_tick_17 : decode prog_1_method_11_code 17 = .ok (.if_icmp .ge 44, 3) := by decide +kernel
theorem lr_d_X_tick_20 : decode prog_1_method_11_code 20 = .ok (.aload_n 0, 1) := by decide +kernel
theorem lr_d_X_tick_21 : decode prog_1_method_11_code 21 = .ok (.getfield 10, 3) := by decide +kernel
theorem lr_d_X_tick_24 : decode prog_1_method_11_code 24 = .ok (.dup, 1) := by decide +kernel
theorem lr_d_X_tick_25 : decode prog_1_method_11_code 25 = .ok (.getfield 130, 3) := by decide +kernel
theorem lr_d_X_tick_28 : decode prog_1_method_11_code 28 = .ok (.iconst 1, 1) := by decide +kernel
theorem lr_d_X_tick_29 : decode prog_1_method_11_code 29 = .ok (.iadd, 1) := by decide +kernel
theorem lr_d_X_tick_30 : decode prog_1_method_11_code 30 = .ok (.putfield 130, 3) := by decide +kernel
theorem lr_d_X_tick_33 : decode prog_1_method_11_code 33 = .ok (.iconst 0, 1) := by decide +kernel
theorem lr_d_X_tick_34 : decode prog_1_method_11_code 34 = .ok (.istore_n 3, 1) := by decide +kernel
theorem lr_d_X_tick_35 : decode prog_1_method_11_code 35 = .ok (.iload_n 3, 1) := by decide +kernel
theorem lr_d_X_tick_36 : decode prog_1_method_11_code 36 = .ok (.iconst 4, 1) := by decide +kernel
theorem lr_d_X_tick_37 : decode prog_1_method_11_code 37 = .ok (.if_icmp .ge 18, 3) := by decide +kernel
theorem lr_d_X_tick_40 : decode prog_1_method_11_code 40 = .ok (.aload_n 0, 1) := by decide +kernel
theorem lr_d_X_tick_41 : decode prog_1_method_11_code 41 = .ok (.getfield 18, 3) := by decide +kernel
theorem lr_d_X_tick_44 : decode prog_1_method_11_code 44 = .ok (.iload_n 3, 1) := by decide +kernel
theorem lr_d_X_tick_45 : decode prog_1_method_11_code 45 = .ok (.aaload, 1) := by decide +kernel
theorem lr_d_X_tick_46 : decode prog_1_method_11_code 46 = .ok (.invokevirtual 133, 3) := by decide +kernel
theorem lr_d_X_tick_49 : decode prog_1_method_11_code 49 = .ok (.iinc 3 1, 3) := by decide +kernel
theorem lr_d_X_tick_52 : decode prog_1_method_11_code 52 = .ok (.goto (-17), 3) := by decide +kernel
theorem lr_d_X_tick_55 : decode prog_1_method_11_code 55 = .ok (.iinc 2 1, 3) := by decide +kernel
theorem lr_d_X_tick_58 : decode prog_1_method_11_code 58 = .ok (.goto (-43), 3) := by decide +kernel
theorem lr_d_X_tick_61 : decode prog_1_method_11_code 61 = .ok (.iconst 1, 1) := by decide +kernel
theorem lr_d_X_tick_62 : decode prog_1_method_11_code 62 = .ok (.ireturn, 1) := by decide +kernel
theorem lr_d_X_collect_0 : decode prog_1_method_12_code 0 = .ok (.aload_n 0, 1) := by decide +kernel
theorem lr_d_X_collect_1 : decode prog_1_method_12_code 1 = .ok (.iload_n 1, 1) := by decide +kernel
theorem lr_d_X_collect_2 : decode prog_1_method_12_code 2 = .ok (.invokevirtual 39, 3) := by decide +kernel
theorem lr_d_X_collect_5 : decode prog_1_method_12_code 5 = .ok (.ifCond .eq 15, 3) := by decide +kernel
theorem lr_d_X_collect_8 : decode prog_1_method_12_code 8 = .ok (.aload_n 0, 1) := by decide +kernel
theorem lr_d_X_collect_9 : decode prog_1_method_12_code 9 = .ok (.getfield 18, 3) := by decide +kernel
theorem lr_d_X_collect_12 : decode prog_1_method_12_code 12 = .ok (.iload_n 1, 1) := by decide +kernel
theorem lr_d_X_collect_13 : decode prog_1_method_12_code 13 = .ok (.aaload, 1) := by decide +kernel
theorem lr_d_X_collect_14 : decode prog_1_method_12_code 14 = .ok (.invokevirtual 136, 3) := by decide +kernel
theorem lr_d_X_collect_17 : decode prog_1_method_12_code 17 = .ok (.goto 4, 3) := by decide +kernel
theorem lr_d_X_collect_20 : decode prog_1_method_12_code 20 = .ok (.iconst (-1), 1) := by decide +kernel
theorem lr_d_X_collect_21 : decode prog_1_method_12_code 21 = .ok (.ireturn, 1) := by decide +kernel
theorem lr_d_X_crash_0 : decode prog_1_method_13_code 0 = .ok (.aload_n 0, 1) := by decide +kernel
theorem lr_d_X_crash_1 : decode prog_1_method_13_code 1 = .ok (.iload_n 1, 1) := by decide +kernel
theorem lr_d_X_crash_2 : decode prog_1_method_13_code 2 = .ok (.invokevirtual 39, 3) := by decide +kernel
theorem lr_d_X_crash_5 : decode prog_1_method_13_code 5 = .ok (.ifCond .ne 5, 3) := by decide +kernel
theorem lr_d_X_crash_8 : decode prog_1_method_13_code 8 = .ok (.iconst 0, 1) := by decide +kernel
theorem lr_d_X_crash_9 : decode prog_1_method_13_code 9 = .ok (.ireturn, 1) := by decide +kernel
theorem lr_d_X_crash_10 : decode prog_1_method_13_code 10 = .ok (.aload_n 0, 1) := by decide +kernel
theorem lr_d_X_crash_11 : decode prog_1_method_13_code 11 = .ok (.getfield 18, 3) := by decide +kernel
theorem lr_d_X_crash_14 : decode prog_1_method_13_code 14 = .ok (.iload_n 1, 1) := by decide +kernel
theorem lr_d_X_crash_15 : decode prog_1_method_13_code 15 = .ok (.aaload, 1) := by decide +kernel
theorem lr_d_X_crash_16 : decode prog_1_method_13_code 16 = .ok (.iconst 1, 1) := by decide +kernel
theorem lr_d_X_crash_17 : decode prog_1_method_13_code 17 = .ok (.putfield 139, 3) := by decide +kernel
theorem lr_d_X_crash_20 : decode prog_1_method_13_code 20 = .ok (.iconst 1, 1) := by decide +kernel
theorem lr_d_X_crash_21 : decode prog_1_method_13_code 21 = .ok (.ireturn, 1) := by decide +kernel
theorem lr_d_X_flight_0 : decode prog_1_method_14_code 0 = .ok (.aload_n 0, 1) := by decide +kernel
theorem lr_d_X_flight_1 : decode prog_1_method_14_code 1 = .ok (.getfield 10, 3) := by decide +kernel
theorem lr_d_X_flight_4 : decode prog_1_method_14_code 4 = .ok (.getfield 124, 3) := by decide +kernel
theorem lr_d_X_flight_7 : decode prog_1_method_14_code 7 = .ok (.ireturn, 1) := by decide +kernel
theorem lr_d_X_message_0 : decode prog_1_method_15_code 0 = .ok (.aload_n 0, 1) := by decide +kernel
theorem lr_d_X_message_1 : decode prog_1_method_15_code 1 = .ok (.getfield 10, 3) := by decide +kernel
theorem lr_d_X_message_4 : decode prog_1_method_15_code 4 = .ok (.iload_n 1, 1) := by decide +kernel
theorem lr_d_X_message_5 : decode prog_1_method_15_code 5 = .ok (.invokevirtual 103, 3) := by decide +kernel
theorem lr_d_X_message_8 : decode prog_1_method_15_code 8 = .ok (.ifCond .eq 19, 3) := by decide +kernel
theorem lr_d_X_message_11 : decode prog_1_method_15_code 11 = .ok (.aload_n 0, 1) := by decide +kernel
theorem lr_d_X_message_12 : decode prog_1_method_15_code 12 = .ok (.getfield 10, 3) := by decide +kernel
theorem lr_d_X_message_15 : decode prog_1_method_15_code 15 = .ok (.getfield 106, 3) := by decide +kernel
theorem lr_d_X_message_18 : decode prog_1_method_15_code 18 = .ok (.iload_n 1, 1) := by decide +kernel
theorem lr_d_X_message_19 : decode prog_1_method_15_code 19 = .ok (.aaload, 1) := by decide +kernel
theorem lr_d_X_message_20 : decode prog_1_method_15_code 20 = .ok (.iload_n 2, 1) := by decide +kernel
theorem lr_d_X_message_21 : decode prog_1_method_15_code 21 = .ok (.invokevirtual 143, 3) := by decide +kernel
theorem lr_d_X_message_24 : decode prog_1_method_15_code 24 = .ok (.goto 4, 3) := by decide +kernel
theorem lr_d_X_message_27 : decode prog_1_method_15_code 27 = .ok (.iconst (-1), 1) := by decide +kernel
theorem lr_d_X_message_28 : decode prog_1_method_15_code 28 = .ok (.ireturn, 1) := by decide +kernel
theorem lr_d_X_root_0 : decode prog_1_method_16_code 0 = .ok (.iload_n 1, 1) := by decide +kernel
theorem lr_d_X_root_1 : decode prog_1_method_16_code 1 = .ok (.invokestatic 74, 3) := by decide +kernel
theorem lr_d_X_root_4 : decode prog_1_method_16_code 4 = .ok (.ifCond .eq 24, 3) := by decide +kernel
theorem lr_d_X_root_7 : decode prog_1_method_16_code 7 = .ok (.iload_n 2, 1) := by decide +kernel
theorem lr_d_X_root_8 : decode prog_1_method_16_code 8 = .ok (.invokestatic 43, 3) := by decide +kernel
theorem lr_d_X_root_11 : decode prog_1_method_16_code 11 = .ok (.ifCond .eq 17, 3) := by decide +kernel
theorem lr_d_X_root_14 : decode prog_1_method_16_code 14 = .ok (.aload_n 0, 1) := by decide +kernel
theorem lr_d_X_root_15 : decode prog_1_method_16_code 15 = .ok (.getfield 18, 3) := by decide +kernel
theorem lr_d_X_root_18 : decode prog_1_method_16_code 18 = .ok (.iload_n 1, 1) := by decide +kernel
theorem lr_d_X_root_19 : decode prog_1_method_16_code 19 = .ok (.aaload, 1) := by decide +kernel
theorem lr_d_X_root_20 : decode prog_1_method_16_code 20 = .ok (.getfield 60, 3) := by decide +kernel
theorem lr_d_X_root_23 : decode prog_1_method_16_code 23 = .ok (.iload_n 2, 1) := by decide +kernel
theorem lr_d_X_root_24 : decode prog_1_method_16_code 24 = .ok (.iaload, 1) := by decide +kernel
theorem lr_d_X_root_25 : decode prog_1_method_16_code 25 = .ok (.goto 4, 3) := by decide +kernel
theorem lr_d_X_root_28 : decode prog_1_method_16_code 28 = .ok (.iconst (-1), 1) := by decide +kernel
theorem lr_d_X_root_29 : decode prog_1_method_16_code 29 = .ok (.ireturn, 1) := by decide +kernel
theorem lr_d_X_isSlot_0 : decode prog_1_method_24_code 0 = .ok (.iload_n 0, 1) := by decide +kernel
theorem lr_d_X_isSlot_1 : decode prog_1_method_24_code 1 = .ok (.ifCond .lt 13, 3) := by decide +kernel
theorem lr_d_X_isSlot_4 : decode prog_1_method_24_code 4 = .ok (.iload_n 0, 1) := by decide +kernel
theorem lr_d_X_isSlot_5 : decode prog_1_method_24_code 5 = .ok (.bipush 8, 2) := by decide +kernel
theorem lr_d_X_isSlot_7 : decode prog_1_method_24_code 7 = .ok (.if_icmp .ge 7, 3) := by decide +kernel
theorem lr_d_X_isSlot_10 : decode prog_1_method_24_code 10 = .ok (.iconst 1, 1) := by decide +kernel
theorem lr_d_X_isSlot_11 : decode prog_1_method_24_code 11 = .ok (.goto 4, 3) := by decide +kernel
theorem lr_d_X_isSlot_14 : decode prog_1_method_24_code 14 = .ok (.iconst 0, 1) := by decide +kernel
theorem lr_d_X_isSlot_15 : decode prog_1_method_24_code 15 = .ok (.ireturn, 1) := by decide +kernel
theorem lr_d_X_slot_0 : decode prog_1_method_17_code 0 = .ok (.iload_n 1, 1) := by decide +kernel
theorem lr_d_X_slot_1 : decode prog_1_method_17_code 1 = .ok (.invokestatic 74, 3) := by decide +kernel
theorem lr_d_X_slot_4 : decode prog_1_method_17_code 4 = .ok (.ifCond .eq 35, 3) := by decide +kernel
theorem lr_d_X_slot_7 : decode prog_1_method_17_code 7 = .ok (.iload_n 2, 1) := by decide +kernel
theorem lr_d_X_slot_8 : decode prog_1_method_17_code 8 = .ok (.invokestatic 147, 3) := by decide +kernel
theorem lr_d_X_slot_11 : decode prog_1_method_17_code 11 = .ok (.ifCond .eq 28, 3) := by decide +kernel
theorem lr_d_X_slot_14 : decode prog_1_method_17_code 14 = .ok (.aload_n 0, 1) := by decide +kernel
theorem lr_d_X_slot_15 : decode prog_1_method_17_code 15 = .ok (.getfield 18, 3) := by decide +kernel
theorem lr_d_X_slot_18 : decode prog_1_method_17_code 18 = .ok (.iload_n 1, 1) := by decide +kernel
theorem lr_d_X_slot_19 : decode prog_1_method_17_code 19 = .ok (.aaload, 1) := by decide +kernel
theorem lr_d_X_slot_20 : decode prog_1_method_17_code 20 = .ok (.getfield 50, 3) := by decide +kernel
theorem lr_d_X_slot_23 : decode prog_1_method_17_code 23 = .ok (.iload_n 2, 1) := by decide +kernel
theorem lr_d_X_slot_24 : decode prog_1_method_17_code 24 = .ok (.aaload, 1) := by decide +kernel
theorem lr_d_X_slot_25 : decode prog_1_method_17_code 25 = .ok (.iload_n 3, 1) := by decide +kernel
theorem lr_d_X_slot_26 : decode prog_1_method_17_code 26 = .ok (.aload_n 0, 1) := by decide +kernel
theorem lr_d_X_slot_27 : decode prog_1_method_17_code 27 = .ok (.getfield 10, 3) := by decide +kernel
theorem lr_d_X_slot_30 : decode prog_1_method_17_code 30 = .ok (.getfield 130, 3) := by decide +kernel
theorem lr_d_X_slot_33 : decode prog_1_method_17_code 33 = .ok (.invokevirtual 150, 3) := by decide +kernel
theorem lr_d_X_slot_36 : decode prog_1_method_17_code 36 = .ok (.goto 4, 3) := by decide +kernel
theorem lr_d_X_slot_39 : decode prog_1_method_17_code 39 = .ok (.iconst (-1), 1) := by decide +kernel
theorem lr_d_X_slot_40 : decode prog_1_method_17_code 40 = .ok (.ireturn, 1) := by decide +kernel
theorem lr_d_X_listing_0 : decode prog_1_method_18_code 0 = .ok (.iload_n 1, 1) := by decide +kernel
theorem lr_d_X_listing_1 : decode prog_1_method_18_code 1 = .ok (.invokestatic 74, 3) := by decide +kernel
theorem lr_d_X_listing_4 : decode prog_1_method_18_code 4 = .ok (.ifCond .eq 22, 3) := by decide +kernel
theorem lr_d_X_listing_7 : decode prog_1_method_18_code 7 = .ok (.iload_n 2, 1) := by decide +kernel
theorem lr_d_X_listing_8 : decode prog_1_method_18_code 8 = .ok (.invokestatic 147, 3) := by decide +kernel
theorem lr_d_X_listing_11 : decode prog_1_method_18_code 11 = .ok (.ifCond .eq 15, 3) := by decide +kernel
theorem lr_d_X_listing_14 : decode prog_1_method_18_code 14 = .ok (.iload_n 3, 1) := by decide +kernel
theorem lr_d_X_listing_15 : decode prog_1_method_18_code 15 = .ok (.invokestatic 74, 3) := by decide +kernel
theorem lr_d_X_listing_18 : decode prog_1_method_18_code 18 = .ok (.ifCond .eq 8, 3) := by decide +kernel
theorem lr_d_X_listing_21 : decode prog_1_method_18_code 21 = .ok (.iload_n 3, 1) := by decide +kernel
theorem lr_d_X_listing_22 : decode prog_1_method_18_code 22 = .ok (.iload_n 1, 1) := by decide +kernel
theorem lr_d_X_listing_23 : decode prog_1_method_18_code 23 = .ok (.if_icmp .ne 5, 3) := by decide +kernel
theorem lr_d_X_listing_26 : decode prog_1_method_18_code 26 = .ok (.iconst (-1), 1) := by decide +kernel
theorem lr_d_X_listing_27 : decode prog_1_method_18_code 27 = .ok (.ireturn, 1) := by decide +kernel
theorem lr_d_X_listing_28 : decode prog_1_method_18_code 28 = .ok (.aload_n 0, 1) := by decide +kernel
theorem lr_d_X_listing_29 : decode prog_1_method_18_code 29 = .ok (.getfield 18, 3) := by decide +kernel
theorem lr_d_X_listing_32 : decode prog_1_method_18_code 32 = .ok (.iload_n 1, 1) := by decide +kernel
theorem lr_d_X_listing_33 : decode prog_1_method_18_code 33 = .ok (.aaload, 1) := by decide +kernel
theorem lr_d_X_listing_34 : decode prog_1_method_18_code 34 = .ok (.getfield 50, 3) := by decide +kernel
theorem lr_d_X_listing_37 : decode prog_1_method_18_code 37 = .ok (.iload_n 2, 1) := by decide +kernel
theorem lr_d_X_listing_38 : decode prog_1_method_18_code 38 = .ok (.aaload, 1) := by decide +kernel
theorem lr_d_X_listing_39 : decode prog_1_method_18_code 39 = .ok (.astore 4, 2) := by decide +kernel
theorem lr_d_X_listing_41 : decode prog_1_method_18_code 41 = .ok (.aload 4, 2) := by decide +kernel
theorem lr_d_X_listing_43 : decode prog_1_method_18_code 43 = .ok (.getfield 153, 3) := by decide +kernel
theorem lr_d_X_listing_46 : decode prog_1_method_18_code 46 = .ok (.iconst 1, 1) := by decide +kernel
theorem lr_d_X_listing_47 : decode prog_1_method_18_code 47 = .ok (.if_icmp .ne 25, 3) := by decide +kernel
theorem lr_d_X_listing_50 : decode prog_1_method_18_code 50 = .ok (.iconst 0, 1) := by decide +kernel
theorem lr_d_X_listing_51 : decode prog_1_method_18_code 51 = .ok (.aload 4, 2) := by decide +kernel
theorem lr_d_X_listing_53 : decode prog_1_method_18_code 53 = .ok (.getfield 156, 3) := by decide +kernel
theorem lr_d_X_listing_56 : decode prog_1_method_18_code 56 = .ok (.iload_n 3, 1) := by decide +kernel
theorem lr_d_X_listing_57 : decode prog_1_method_18_code 57 = .ok (.iaload, 1) := by decide +kernel
theorem lr_d_X_listing_58 : decode prog_1_method_18_code 58 = .ok (.aload_n 0, 1) := by decide +kernel
theorem lr_d_X_listing_59 : decode prog_1_method_18_code 59 = .ok (.getfield 10, 3) := by decide +kernel
theorem lr_d_X_listing_62 : decode prog_1_method_18_code 62 = .ok (.getfield 130, 3) := by decide +kernel
theorem lr_d_X_listing_65 : decode prog_1_method_18_code 65 = .ok (.isub, 1) := by decide +kernel
theorem lr_d_X_listing_66 : decode prog_1_method_18_code 66 = .ok (.invokestatic 159, 3) := by decide +kernel
theorem lr_d_X_listing_69 : decode prog_1_method_18_code 69 = .ok (.goto 4, 3) := by decide +kernel
theorem lr_d_X_listing_72 : decode prog_1_method_18_code 72 = .ok (.iconst (-1), 1) := by decide +kernel
theorem lr_d_X_listing_73 : decode prog_1_method_18_code 73 = .ok (.ireturn, 1) := by decide +kernel
theorem lr_d_X_pins_0 : decode prog_1_method_19_code 0 = .ok (.iload_n 1, 1) := by decide +kernel
theorem lr_d_X_pins_1 : decode prog_1_method_19_code 1 = .ok (.invokestatic 74, 3) := by decide +kernel
theorem lr_d_X_pins_4 : decode prog_1_method_19_code 4 = .ok (.ifCond .eq 15, 3) := by decide +kernel
theorem lr_d_X_pins_7 : decode prog_1_method_19_code 7 = .ok (.aload_n 0, 1) := by decide +kernel
theorem lr_d_X_pins_8 : decode prog_1_method_19_code 8 = .ok (.getfield 18, 3) := by decide +kernel
theorem lr_d_X_pins_11 : decode prog_1_method_19_code 11 = .ok (.iload_n 1, 1) := by decide +kernel
theorem lr_d_X_pins_12 : decode prog_1_method_19_code 12 = .ok (.aaload, 1) := by decide +kernel
theorem lr_d_X_pins_13 : decode prog_1_method_19_code 13 = .ok (.invokevirtual 77, 3) := by decide +kernel
theorem lr_d_X_pins_16 : decode prog_1_method_19_code 16 = .ok (.goto 4, 3) := by decide +kernel
theorem lr_d_X_pins_19 : decode prog_1_method_19_code 19 = .ok (.iconst (-1), 1) := by decide +kernel
theorem lr_d_X_pins_20 : decode prog_1_method_19_code 20 = .ok (.ireturn, 1) := by decide +kernel
theorem lr_d_X_outcome_0 : decode prog_1_method_20_code 0 = .ok (.iload_n 1, 1) := by decide +kernel
theorem lr_d_X_outcome_1 : decode prog_1_method_20_code 1 = .ok (.invokestatic 74, 3) := by decide +kernel
theorem lr_d_X_outcome_4 : decode prog_1_method_20_code 4 = .ok (.ifCond .eq 19, 3) := by decide +kernel
theorem lr_d_X_outcome_7 : decode prog_1_method_20_code 7 = .ok (.aload_n 0, 1) := by decide +kernel
theorem lr_d_X_outcome_8 : decode prog_1_method_20_code 8 = .ok (.getfield 18, 3) := by decide +kernel
theorem lr_d_X_outcome_11 : decode prog_1_method_20_code 11 = .ok (.iload_n 1, 1) := by decide +kernel
theorem lr_d_X_outcome_12 : decode prog_1_method_20_code 12 = .ok (.aaload, 1) := by decide +kernel
theorem lr_d_X_outcome_13 : decode prog_1_method_20_code 13 = .ok (.getfield 87, 3) := by decide +kernel
theorem lr_d_X_outcome_16 : decode prog_1_method_20_code 16 = .ok (.iload_n 2, 1) := by decide +kernel
theorem lr_d_X_outcome_17 : decode prog_1_method_20_code 17 = .ok (.invokevirtual 164, 3) := by decide +kernel
theorem lr_d_X_outcome_20 : decode prog_1_method_20_code 20 = .ok (.goto 4, 3) := by decide +kernel
theorem lr_d_X_outcome_23 : decode prog_1_method_20_code 23 = .ok (.iconst (-1), 1) := by decide +kernel
theorem lr_d_X_outcome_24 : decode prog_1_method_20_code 24 = .ok (.ireturn, 1) := by decide +kernel
