theorem lr_d_M_renew_0 : decode prog_9_method_21_code 0 = .ok (.bipush 8, 2) := by decide +kernel
theorem lr_d_M_renew_2 : decode prog_9_method_21_code 2 = .ok (.iload_n 1, 1) := by decide +kernel
theorem lr_d_M_renew_3 : decode prog_9_method_21_code 3 = .ok (.imul, 1) := by decide +kernel
theorem lr_d_M_renew_4 : decode prog_9_method_21_code 4 = .ok (.istore_n 2, 1) := by decide +kernel
theorem lr_d_M_renew_5 : decode prog_9_method_21_code 5 = .ok (.iload_n 2, 1) := by decide +kernel
theorem lr_d_M_renew_6 : decode prog_9_method_21_code 6 = .ok (.bipush 8, 2) := by decide +kernel
theorem lr_d_M_renew_8 : decode prog_9_method_21_code 8 = .ok (.iload_n 1, 1) := by decide +kernel
theorem lr_d_M_renew_9 : decode prog_9_method_21_code 9 = .ok (.imul, 1) := by decide +kernel
theorem lr_d_M_renew_10 : decode prog_9_method_21_code 10 = .ok (.bipush 8, 2) := by decide +kernel
theorem lr_d_M_renew_12 : decode prog_9_method_21_code 12 = .ok (.iadd, 1) := by decide +kernel
theorem lr_d_M_renew_13 : decode prog_9_method_21_code 13 = .ok (.if_icmp .ge 72, 3) := by decide +kernel
theorem lr_d_M_renew_16 : decode prog_9_method_21_code 16 = .ok (.aload_n 0, 1) := by decide +kernel
theorem lr_d_M_renew_17 : decode prog_9_method_21_code 17 = .ok (.getfield 20, 3) := by decide +kernel
theorem lr_d_M_renew_20 : decode prog_9_method_21_code 20 = .ok (.iload_n 2, 1) := by decide +kernel
theorem lr_d_M_renew_21 : decode prog_9_method_21_code 21 = .ok (.iaload, 1) := by decide +kernel
theorem lr_d_M_renew_22 : decode prog_9_method_21_code 22 = .ok (.iconst 2, 1) := by decide +kernel
theorem lr_d_M_renew_23 : decode prog_9_method_21_code 23 = .ok (.if_icmp .ne 56, 3) := by decide +kernel
theorem lr_d_M_renew_26 : decode prog_9_method_21_code 26 = .ok (.aload_n 0, 1) := by decide +kernel
theorem lr_d_M_renew_27 : decode prog_9_method_21_code 27 = .ok (.iload_n 2, 1) := by decide +kernel
theorem lr_d_M_renew_28 : decode prog_9_method_21_code 28 = .ok (.invokevirtual 149, 3) := by decide +kernel
theorem lr_d_M_renew_31 : decode prog_9_method_21_code 31 = .ok (.ifCond .ne 48, 3) := by decide +kernel
theorem lr_d_M_renew_34 : decode prog_9_method_21_code 34 = .ok (.aload_n 0, 1) := by decide +kernel
theorem lr_d_M_renew_35 : decode prog_9_method_21_code 35 = .ok (.getfield 119, 3) := by decide +kernel
theorem lr_d_M_renew_38 : decode prog_9_method_21_code 38 = .ok (.aload_n 0, 1) := by decide +kernel
theorem lr_d_M_renew_39 : decode prog_9_method_21_code 39 = .ok (.getfield 44, 3) := by decide +kernel
theorem lr_d_M_renew_42 : decode prog_9_method_21_code 42 = .ok (.iload_n 2, 1) := by decide +kernel
theorem lr_d_M_renew_43 : decode prog_9_method_21_code 43 = .ok (.iaload, 1) := by decide +kernel
theorem lr_d_M_renew_44 : decode prog_9_method_21_code 44 = .ok (.isub, 1) := by decide +kernel
theorem lr_d_M_renew_45 : decode prog_9_method_21_code 45 = .ok (.bipush 6, 2) := by decide +kernel
theorem lr_d_M_renew_47 : decode prog_9_method_21_code 47 = .ok (.if_icmp .lt 32, 3) := by decide +kernel
theorem lr_d_M_renew_50 : decode prog_9_method_21_code 50 = .ok (.aload_n 0, 1) := by decide +kernel
theorem lr_d_M_renew_51 : decode prog_9_method_21_code 51 = .ok (.iload_n 2, 1) := by decide +kernel
theorem lr_d_M_renew_52 : decode prog_9_method_21_code 52 = .ok (.invokevirtual 159, 3) := by decide +kernel
theorem lr_d_M_renew_55 : decode prog_9_method_21_code 55 = .ok (.istore_n 3, 1) := by decide +kernel
theorem lr_d_M_renew_56 : decode prog_9_method_21_code 56 = .ok (.aload_n 0, 1) := by decide +kernel
theorem lr_d_M_renew_57 : decode prog_9_method_21_code 57 = .ok (.getfield 44, 3) := by decide +kernel
theorem lr_d_M_renew_60 : decode prog_9_method_21_code 60 = .ok (.iload_n 2, 1) := by decide +kernel
theorem lr_d_M_renew_61 : decode prog_9_method_21_code 61 = .ok (.iload_n 3, 1) := by decide +kernel
theorem lr_d_M_renew_62 : decode prog_9_method_21_code 62 = .ok (.ifCond .le 10, 3) := by decide +kernel
theorem lr_d_M_renew_65 : decode prog_9_method_21_code 65 = .ok (.aload_n 0, 1) := by decide +kernel
theorem lr_d_M_renew_66 : decode prog_9_method_21_code 66 = .ok (.getfield 119, 3) := by decide +kernel
theorem lr_d_M_renew_69 : decode prog_9_method_21_code 69 = .ok (.goto 9, 3) := by decide +kernel
theorem lr_d_M_renew_72 : decode prog_9_method_21_code 72 = .ok (.aload_n 0, 1) := by decide +kernel
theorem lr_d_M_renew_73 : decode prog_9_method_21_code 73 = .ok (.getfield 44, 3) := by decide +kernel
theorem lr_d_M_renew_76 : decode prog_9_method_21_code 76 = .ok (.iload_n 2, 1) := by decide +kernel
theorem lr_d_M_renew_77 : decode prog_9_method_21_code 77 = .ok (.iaload, 1) := by decide +kernel
theorem lr_d_M_renew_78 : decode prog_9_method_21_code 78 = .ok (.iastore, 1) := by decide +kernel
theorem lr_d_M_renew_79 : decode prog_9_method_21_code 79 = .ok (.iinc 2 1, 3) := by decide +kernel
theorem lr_d_M_renew_82 : decode prog_9_method_21_code 82 = .ok (.goto (-77), 3) := by decide +kernel
theorem lr_d_M_renew_85 : decode prog_9_method_21_code 85 = .ok (.aload_n 0, 1) := by decide +kernel
theorem lr_d_M_renew_86 : decode prog_9_method_21_code 86 = .ok (.getfield 74, 3) := by decide +kernel
theorem lr_d_M_renew_89 : decode prog_9_method_21_code 89 = .ok (.iload_n 1, 1) := by decide +kernel
theorem lr_d_M_renew_90 : decode prog_9_method_21_code 90 = .ok (.iaload, 1) := by decide +kernel
theorem lr_d_M_renew_91 : decode prog_9_method_21_code 91 = .ok (.iconst 1, 1) := by decide +kernel
theorem lr_d_M_renew_92 : decode prog_9_method_21_code 92 = .ok (.if_icmp .ne 46, 3) := by decide +kernel
theorem lr_d_M_renew_95 : decode prog_9_method_21_code 95 = .ok (.aload_n 0, 1) := by decide +kernel
theorem lr_d_M_renew_96 : decode prog_9_method_21_code 96 = .ok (.getfield 119, 3) := by decide +kernel
theorem lr_d_M_renew_99 : decode prog_9_method_21_code 99 = .ok (.aload_n 0, 1) := by decide +kernel
theorem lr_d_M_renew_100 : decode prog_9_method_21_code 100 = .ok (.getfield 86, 3) := by decide +kernel
theorem lr_d_M_renew_103 : decode prog_9_method_21_code 103 = .ok (.iload_n 1, 1) := by decide +kernel
theorem lr_d_M_renew_104 : decode prog_9_method_21_code 104 = .ok (.iaload, 1) := by decide +kernel
theorem lr_d_M_renew_105 : decode prog_9_method_21_code 105 = .ok (.isub, 1) := by decide +kernel
theorem lr_d_M_renew_106 : decode prog_9_method_21_code 106 = .ok (.iconst 3, 1) := by decide +kernel
theorem lr_d_M_renew_107 : decode prog_9_method_21_code 107 = .ok (.if_icmp .lt 31, 3) := by decide +kernel
theorem lr_d_M_renew_110 : decode prog_9_method_21_code 110 = .ok (.aload_n 0, 1) := by decide +kernel
theorem lr_d_M_renew_111 : decode prog_9_method_21_code 111 = .ok (.aload_n 0, 1) := by decide +kernel
theorem lr_d_M_renew_112 : decode prog_9_method_21_code 112 = .ok (.getfield 80, 3) := by decide +kernel
theorem lr_d_M_renew_115 : decode prog_9_method_21_code 115 = .ok (.iload_n 1, 1) := by decide +kernel
theorem lr_d_M_renew_116 : decode prog_9_method_21_code 116 = .ok (.iaload, 1) := by decide +kernel
theorem lr_d_M_renew_117 : decode prog_9_method_21_code 117 = .ok (.invokevirtual 149, 3) := by decide +kernel
theorem lr_d_M_renew_120 : decode prog_9_method_21_code 120 = .ok (.ifCond .eq 13, 3) := by decide +kernel
theorem lr_d_M_renew_123 : decode prog_9_method_21_code 123 = .ok (.aload_n 0, 1) := by decide +kernel
theorem lr_d_M_renew_124 : decode prog_9_method_21_code 124 = .ok (.getfield 74, 3) := by decide +kernel
theorem lr_d_M_renew_127 : decode prog_9_method_21_code 127 = .ok (.iload_n 1, 1) := by decide +kernel
theorem lr_d_M_renew_128 : decode prog_9_method_21_code 128 = .ok (.iconst 3, 1) := by decide +kernel
theorem lr_d_M_renew_129 : decode prog_9_method_21_code 129 = .ok (.iastore, 1) := by decide +kernel
theorem lr_d_M_renew_130 : decode prog_9_method_21_code 130 = .ok (.goto 8, 3) := by decide +kernel
theorem lr_d_M_renew_133 : decode prog_9_method_21_code 133 = .ok (.aload_n 0, 1) := by decide +kernel
theorem lr_d_M_renew_134 : decode prog_9_method_21_code 134 = .ok (.iload_n 1, 1) := by decide +kernel
theorem lr_d_M_renew_135 : decode prog_9_method_21_code 135 = .ok (.invokevirtual 152, 3) := by decide +kernel
theorem lr_d_M_renew_138 : decode prog_9_method_21_code 138 = .ok (.return_, 1) := by decide +kernel
theorem lr_d_M_tick_0 : decode prog_9_method_20_code 0 = .ok (.iload_n 1, 1) := by decide +kernel
theorem lr_d_M_tick_1 : decode prog_9_method_20_code 1 = .ok (.iconst 1, 1) := by decide +kernel
theorem lr_d_M_tick_2 : decode prog_9_method_20_code 2 = .ok (.if_icmp .lt 9, 3) := by decide +kernel
theorem lr_d_M_tick_5 : decode prog_9_method_20_code 5 = .ok (.iload_n 1, 1) := by decide +kernel
theorem lr_d_M_tick_6 : decode prog_9_method_20_code 6 = .ok (.bipush 12, 2) := by decide +kernel
theorem lr_d_M_tick_8 : decode prog_9_method_20_code 8 = .ok (.if_icmp .le 5, 3) := by decide +kernel
theorem lr_d_M_tick_11 : decode prog_9_method_20_code 11 = .ok (.iconst 0, 1) := by decide +kernel
theorem lr_d_M_tick_12 : decode prog_9_method_20_code 12 = .ok (.ireturn, 1) := by decide +kernel
theorem lr_d_M_tick_13 : decode prog_9_method_20_code 13 = .ok (.iconst 0, 1) := by decide +kernel
theorem lr_d_M_tick_14 : decode prog_9_method_20_code 14 = .ok (.istore_n 2, 1) := by decide +kernel
theorem lr_d_M_tick_15 : decode prog_9_method_20_code 15 = .ok (.iload_n 2, 1) := by decide +kernel
theorem lr_d_M_tick_16 : decode prog_9_method_20_code 16 = .ok (.iload_n 1, 1) := by decide +kernel
theorem lr_d_M_tick_17 : decode prog_9_method_20_code 17 = .ok (.if_icmp .ge 46, 3) := by decide +kernel
theorem lr_d_M_tick_20 : decode prog_9_method_20_code 20 = .ok (.aload_n 0, 1) := by decide +kernel
theorem lr_d_M_tick_21 : decode prog_9_method_20_code 21 = .ok (.dup, 1) := by decide +kernel
theorem lr_d_M_tick_22 : decode prog_9_method_20_code 22 = .ok (.getfield 119, 3) := by decide +kernel
theorem lr_d_M_tick_25 : decode prog_9_method_20_code 25 = .ok (.iconst 1, 1) := by decide +kernel
theorem lr_d_M_tick_26 : decode prog_9_method_20_code 26 = .ok (.iadd, 1) := by decide +kernel
theorem lr_d_M_tick_27 : decode prog_9_method_20_code 27 = .ok (.putfield 119, 3) := by decide +kernel
theorem lr_d_M_tick_30 : decode prog_9_method_20_code 30 = .ok (.iconst 0, 1) := by decide +kernel
theorem lr_d_M_tick_31 : decode prog_9_method_20_code 31 = .ok (.istore_n 3, 1) := by decide +kernel
theorem lr_d_M_tick_32 : decode prog_9_method_20_code 32 = .ok (.iload_n 3, 1) := by decide +kernel
theorem lr_d_M_tick_33 : decode prog_9_method_20_code 33 = .ok (.iconst 4, 1) := by decide +kernel
theorem lr_d_M_tick_34 : decode prog_9_method_20_code 34 = .ok (.if_icmp .ge 23, 3) := by decide +kernel
theorem lr_d_M_tick_37 : decode prog_9_method_20_code 37 = .ok (.aload_n 0, 1) := by decide +kernel
theorem lr_d_M_tick_38 : decode prog_9_method_20_code 38 = .ok (.getfield 7, 3) := by decide +kernel
theorem lr_d_M_tick_41 : decode prog_9_method_20_code 41 = .ok (.iload_n 3, 1) := by decide +kernel
theorem lr_d_M_tick_42 : decode prog_9_method_20_code 42 = .ok (.baload, 1) := by decide +kernel
theorem lr_d_M_tick_43 : decode prog_9_method_20_code 43 = .ok (.ifCond .ne 8, 3) := by decide +kernel
theorem lr_d_M_tick_46 : decode prog_9_method_20_code 46 = .ok (.aload_n 0, 1) := by decide +kernel
theorem lr_d_M_tick_47 : decode prog_9_method_20_code 47 = .ok (.iload_n 3, 1) := by decide +kernel
theorem lr_d_M_tick_48 : decode prog_9_method_20_code 48 = .ok (.invokevirtual 156, 3) := by decide +kernel
theorem lr_d_M_tick_51 : decode prog_9_method_20_code 51 = .ok (.iinc 3 1, 3) := by decide +kernel
theorem lr_d_M_tick_54 : decode prog_9_method_20_code 54 = .ok (.goto (-22), 3) := by decide +kernel
theorem lr_d_M_tick_57 : decode prog_9_method_20_code 57 = .ok (.iinc 2 1, 3) := by decide +kernel
theorem lr_d_M_tick_60 : decode prog_9_method_20_code 60 = .ok (.goto (-45), 3) := by decide +kernel
theorem lr_d_M_tick_63 : decode prog_9_method_20_code 63 = .ok (.iconst 1, 1) := by decide +kernel
theorem lr_d_M_tick_64 : decode prog_9_method_20_code 64 = .ok (.ireturn, 1) := by decide +kernel
theorem lr_d_M_listed_0 : decode prog_9_method_22_code 0 = .ok (.iconst 0, 1) := by decide +kernel
theorem lr_d_M_listed_1 : decode prog_9_method_22_code 1 = .ok (.istore_n 2, 1) := by decide +kernel
theorem lr_d_M_listed_2 : decode prog_9_method_22_code 2 = .ok (.iconst 0, 1) := by decide +kernel
theorem lr_d_M_listed_3 : decode prog_9_method_22_code 3 = .ok (.istore_n 3, 1) := by decide +kernel
theorem lr_d_M_listed_4 : decode prog_9_method_22_code 4 = .ok (.iload_n 3, 1) := by decide +kernel
theorem lr_d_M_listed_5 : decode prog_9_method_22_code 5 = .ok (.iconst 4, 1) := by decide +kernel
theorem lr_d_M_listed_6 : decode prog_9_method_22_code 6 = .ok (.if_icmp .ge 36, 3) := by decide +kernel
theorem lr_d_M_listed_9 : decode prog_9_method_22_code 9 = .ok (.iload_n 2, 1) := by decide +kernel
theorem lr_d_M_listed_10 : decode prog_9_method_22_code 10 = .ok (.ifCond .ne 20, 3) := by decide +kernel
theorem lr_d_M_listed_13 : decode prog_9_method_22_code 13 = .ok (.aload_n 0, 1) := by decide +kernel
theorem lr_d_M_listed_14 : decode prog_9_method_22_code 14 = .ok (.getfield 35, 3) := by decide +kernel
theorem lr_d_M_listed_17 : decode prog_9_method_22_code 17 = .ok (.iconst 4, 1) := by decide +kernel
theorem lr_d_M_listed_18 : decode prog_9_method_22_code 18 = .ok (.iload_n 1, 1) := by decide +kernel
theorem lr_d_M_listed_19 : decode prog_9_method_22_code 19 = .ok (.imul, 1) := by decide +kernel
theorem lr_d_M_listed_20 : decode prog_9_method_22_code 20 = .ok (.iload_n 3, 1) := by decide +kernel
theorem lr_d_M_listed_21 : decode prog_9_method_22_code 21 = .ok (.iadd, 1) := by decide +kernel
theorem lr_d_M_listed_22 : decode prog_9_method_22_code 22 = .ok (.iaload, 1) := by decide +kernel
theorem lr_d_M_listed_23 : decode prog_9_method_22_code 23 = .ok (.aload_n 0, 1) := by decide +kernel
theorem lr_d_M_listed_24 : decode prog_9_method_22_code 24 = .ok (.getfield 119, 3) := by decide +kernel
theorem lr_d_M_listed_27 : decode prog_9_method_22_code 27 = .ok (.if_icmp .le 7, 3) := by decide +kernel
theorem lr_d_M_listed_30 : decode prog_9_method_22_code 30 = .ok (.iconst 1, 1) := by decide +kernel
theorem lr_d_M_listed_31 : decode prog_9_method_22_code 31 = .ok (.goto 4, 3) := by decide +kernel
theorem lr_d_M_listed_34 : decode prog_9_method_22_code 34 = .ok (.iconst 0, 1) := by decide +kernel
theorem lr_d_M_listed_35 : decode prog_9_method_22_code 35 = .ok (.istore_n 2, 1) := by decide +kernel
theorem lr_d_M_listed_36 : decode prog_9_method_22_code 36 = .ok (.iinc 3 1, 3) := by decide +kernel
theorem lr_d_M_listed_39 : decode prog_9_method_22_code 39 = .ok (.goto (-35), 3) := by decide +kernel
theorem lr_d_M_listed_42 : decode prog_9_method_22_code 42 = .ok (.iload_n 2, 1) := by decide +kernel
theorem lr_d_M_listed_43 : decode prog_9_method_22_code 43 = .ok (.ireturn, 1) := by decide +kernel
theorem lr_d_M_keep_0 : decode prog_9_method_23_code 0 = .ok (.iload_n 1, 1) := by decide +kernel
theorem lr_d_M_keep_1 : decode prog_9_method_23_code 1 = .ok (.ifCond .lt 10, 3) := by decide +kernel
theorem lr_d_M_keep_4 : decode prog_9_method_23_code 4 = .ok (.aload_n 0, 1) := by decide +kernel
theorem lr_d_M_keep_5 : decode prog_9_method_23_code 5 = .ok (.getfield 104, 3) := by decide +kernel
theorem lr_d_M_keep_8 : decode prog_9_method_23_code 8 = .ok (.iload_n 1, 1) := by decide +kernel
theorem lr_d_M_keep_9 : decode prog_9_method_23_code 9 = .ok (.iconst 1, 1) := by decide +kernel
theorem lr_d_M_keep_10 : decode prog_9_method_23_code 10 = .ok (.bastore, 1) := by decide +kernel
theorem lr_d_M_keep_11 : decode prog_9_method_23_code 11 = .ok (.return_, 1) := by decide +kernel
theorem lr_d_M_mark_0 : decode prog_9_method_24_code 0 = .ok (.iconst 0, 1) := by decide +kernel
theorem lr_d_M_mark_1 : decode prog_9_method_24_code 1 = .ok (.istore_n 2, 1) := by decide +kernel
theorem lr_d_M_mark_2 : decode prog_9_method_24_code 2 = .ok (.iload_n 2, 1) := by decide +kernel
theorem lr_d_M_mark_3 : decode prog_9_method_24_code 3 = .ok (.bipush 8, 2) := by decide +kernel
theorem lr_d_M_mark_5 : decode prog_9_method_24_code 5 = .ok (.if_icmp .ge 65, 3) := by decide +kernel
theorem lr_d_M_mark_8 : decode prog_9_method_24_code 8 = .ok (.bipush 8, 2) := by decide +kernel
theorem lr_d_M_mark_10 : decode prog_9_method_24_code 10 = .ok (.iload_n 1, 1) := by decide +kernel
theorem lr_d_M_mark_11 : decode prog_9_method_24_code 11 = .ok (.imul, 1) := by decide +kernel
theorem lr_d_M_mark_12 : decode prog_9_method_24_code 12 = .ok (.iload_n 2, 1) := by decide +kernel
theorem lr_d_M_mark_13 : decode prog_9_method_24_code 13 = .ok (.iadd, 1) := by decide +kernel
theorem lr_d_M_mark_14 : decode prog_9_method_24_code 14 = .ok (.istore_n 3, 1) := by decide +kernel
theorem lr_d_M_mark_15 : decode prog_9_method_24_code 15 = .ok (.aload_n 0, 1) := by decide +kernel
theorem lr_d_M_mark_16 : decode prog_9_method_24_code 16 = .ok (.getfield 104, 3) := by decide +kernel
theorem lr_d_M_mark_19 : decode prog_9_method_24_code 19 = .ok (.iload_n 2, 1) := by decide +kernel
theorem lr_d_M_mark_20 : decode prog_9_method_24_code 20 = .ok (.aload_n 0, 1) := by decide +kernel
theorem lr_d_M_mark_21 : decode prog_9_method_24_code 21 = .ok (.getfield 20, 3) := by decide +kernel
theorem lr_d_M_mark_24 : decode prog_9_method_24_code 24 = .ok (.iload_n 3, 1) := by decide +kernel
theorem lr_d_M_mark_25 : decode prog_9_method_24_code 25 = .ok (.iaload, 1) := by decide +kernel
theorem lr_d_M_mark_26 : decode prog_9_method_24_code 26 = .ok (.iconst 1, 1) := by decide +kernel
theorem lr_d_M_mark_27 : decode prog_9_method_24_code 27 = .ok (.if_icmp .ne 11, 3) := by decide +kernel
theorem lr_d_M_mark_30 : decode prog_9_method_24_code 30 = .ok (.aload_n 0, 1) := by decide +kernel
theorem lr_d_M_mark_31 : decode prog_9_method_24_code 31 = .ok (.iload_n 3, 1) := by decide +kernel
theorem lr_d_M_mark_32 : decode prog_9_method_24_code 32 = .ok (.invokevirtual 162, 3) := by decide +kernel
theorem lr_d_M_mark_35 : decode prog_9_method_24_code 35 = .ok (.ifCond .ne 23, 3) := by decide +kernel
theorem lr_d_M_mark_38 : decode prog_9_method_24_code 38 = .ok (.aload_n 0, 1) := by decide +kernel
theorem lr_d_M_mark_39 : decode prog_9_method_24_code 39 = .ok (.getfield 74, 3) := by decide +kernel
theorem lr_d_M_mark_42 : decode prog_9_method_24_code 42 = .ok (.iload_n 1, 1) := by decide +kernel
theorem lr_d_M_mark_43 : decode prog_9_method_24_code 43 = .ok (.iaload, 1) := by decide +kernel
theorem lr_d_M_mark_44 : decode prog_9_method_24_code 44 = .ok (.iconst 1, 1) := by decide +kernel
theorem lr_d_M_mark_45 : decode prog_9_method_24_code 45 = .ok (.if_icmp .ne 17, 3) := by decide +kernel
theorem lr_d_M_mark_48 : decode prog_9_method_24_code 48 = .ok (.aload_n 0, 1) := by decide +kernel
theorem lr_d_M_mark_49 : decode prog_9_method_24_code 49 = .ok (.getfield 80, 3) := by decide +kernel
theorem lr_d_M_mark_52 : decode prog_9_method_24_code 52 = .ok (.iload_n 1, 1) := by decide +kernel
theorem lr_d_M_mark_53 : decode prog_9_method_24_code 53 = .ok (.iaload, 1) := by decide +kernel
theorem lr_d_M_mark_54 : decode prog_9_method_24_code 54 = .ok (.iload_n 3, 1) := by decide +kernel
theorem lr_d_M_mark_55 : decode prog_9_method_24_code 55 = .ok (.if_icmp .ne 7, 3) := by decide +kernel
theorem lr_d_M_mark_58 : decode prog_9_method_24_code 58 = .ok (.iconst 1, 1) := by decide +kernel
theorem lr_d_M_mark_59 : decode prog_9_method_24_code 59 = .ok (.goto 4, 3) := by decide +kernel
theorem lr_d_M_mark_62 : decode prog_9_method_24_code 62 = .ok (.iconst 0, 1) := by decide +kernel
theorem lr_d_M_mark_63 : decode prog_9_method_24_code 63 = .ok (.bastore, 1) := by decide +kernel
theorem lr_d_M_mark_64 : decode prog_9_method_24_code 64 = .ok (.iinc 2 1, 3) := by decide +kernel
theorem lr_d_M_mark_67 : decode prog_9_method_24_code 67 = .ok (.goto (-65), 3) := by decide +kernel
theorem lr_d_M_mark_70 : decode prog_9_method_24_code 70 = .ok (.iconst 0, 1) := by decide +kernel
theorem lr_d_M_mark_71 : decode prog_9_method_24_code 71 = .ok (.istore_n 2, 1) := by decide +kernel
theorem lr_d_M_mark_72 : decode prog_9_method_24_code 72 = .ok (.iload_n 2, 1) := by decide +kernel
theorem lr_d_M_mark_73 : decode prog_9_method_24_code 73 = .ok (.iconst 3, 1) := by decide +kernel
theorem lr_d_M_mark_74 : decode prog_9_method_24_code 74 = .ok (.if_icmp .ge 23, 3) := by decide +kernel
theorem lr_d_M_mark_77 : decode prog_9_method_24_code 77 = .ok (.aload_n 0, 1) := by decide +kernel
theorem lr_d_M_mark_78 : decode prog_9_method_24_code 78 = .ok (.aload_n 0, 1) := by decide +kernel
theorem lr_d_M_mark_79 : decode prog_9_method_24_code 79 = .ok (.getfield 13, 3) := by decide +kernel
theorem lr_d_M_mark_82 : decode prog_9_method_24_code 82 = .ok (.iconst 3, 1) := by decide +kernel
theorem lr_d_M_mark_83 : decode prog_9_method_24_code 83 = .ok (.iload_n 1, 1) := by decide +kernel
theorem lr_d_M_mark_84 : decode prog_9_method_24_code 84 = .ok (.imul, 1) := by decide +kernel
theorem lr_d_M_mark_85 : decode prog_9_method_24_code 85 = .ok (.iload_n 2, 1) := by decide +kernel
theorem lr_d_M_mark_86 : decode prog_9_method_24_code 86 = .ok (.iadd, 1) := by decide +kernel
theorem lr_d_M_mark_87 : decode prog_9_method_24_code 87 = .ok (.iaload, 1) := by decide +kernel
theorem lr_d_M_mark_88 : decode prog_9_method_24_code 88 = .ok (.invokevirtual 165, 3) := by decide +kernel
theorem lr_d_M_mark_91 : decode prog_9_method_24_code 91 = .ok (.iinc 2 1, 3) := by decide +kernel
theorem lr_d_M_mark_94 : decode prog_9_method_24_code 94 = .ok (.goto (-22), 3) := by decide +kernel
theorem lr_d_M_mark_97 : decode prog_9_method_24_code 97 = .ok (.iconst 0, 1) := by decide +kernel
theorem lr_d_M_mark_98 : decode prog_9_method_24_code 98 = .ok (.istore_n 2, 1) := by decide +kernel
theorem lr_d_M_mark_99 : decode prog_9_method_24_code 99 = .ok (.iload_n 2, 1) := by decide +kernel
theorem lr_d_M_mark_100 : decode prog_9_method_24_code 100 = .ok (.aload_n 0, 1) := by decide +kernel
theorem lr_d_M_mark_101 : decode prog_9_method_24_code 101 = .ok (.getfield 140, 3) := by decide +kernel
theorem lr_d_M_mark_104 : decode prog_9_method_24_code 104 = .ok (.if_icmp .ge 43, 3) := by decide +kernel
theorem lr_d_M_mark_107 : decode prog_9_method_24_code 107 = .ok (.aload_n 0, 1) := by decide +kernel
theorem lr_d_M_mark_108 : decode prog_9_method_24_code 108 = .ok (.getfield 65, 3) := by decide +kernel
theorem lr_d_M_mark_111 : decode prog_9_method_24_code 111 = .ok (.iload_n 2, 1) := by decide +kernel
theorem lr_d_M_mark_112 : decode prog_9_method_24_code 112 = .ok (.iaload, 1) := by decide +kernel
theorem lr_d_M_mark_113 : decode prog_9_method_24_code 113 = .ok (.bipush 8, 2) := by decide +kernel
theorem lr_d_M_mark_115 : decode prog_9_method_24_code 115 = .ok (.idiv, 1) := by decide +kernel
theorem lr_d_M_mark_116 : decode prog_9_method_24_code 116 = .ok (.iload_n 1, 1) := by decide +kernel
theorem lr_d_M_mark_117 : decode prog_9_method_24_code 117 = .ok (.if_icmp .ne 24, 3) := by decide +kernel
theorem lr_d_M_mark_120 : decode prog_9_method_24_code 120 = .ok (.aload_n 0, 1) := by decide +kernel
theorem lr_d_M_mark_121 : decode prog_9_method_24_code 121 = .ok (.iload_n 2, 1) := by decide +kernel
theorem lr_d_M_mark_122 : decode prog_9_method_24_code 122 = .ok (.invokevirtual 143, 3) := by decide +kernel
theorem lr_d_M_mark_125 : decode prog_9_method_24_code 125 = .ok (.ifCond .eq 16, 3) := by decide +kernel
theorem lr_d_M_mark_128 : decode prog_9_method_24_code 128 = .ok (.aload_n 0, 1) := by decide +kernel
theorem lr_d_M_mark_129 : decode prog_9_method_24_code 129 = .ok (.aload_n 0, 1) := by decide +kernel
theorem lr_d_M_mark_130 : decode prog_9_method_24_code 130 = .ok (.getfield 65, 3) := by decide +kernel
theorem lr_d_M_mark_133 : decode prog_9_method_24_code 133 = .ok (.iload_n 2, 1) := by decide +kernel
theorem lr_d_M_mark_134 : decode prog_9_method_24_code 134 = .ok (.iaload, 1) := by decide +kernel
theorem lr_d_M_mark_135 : decode prog_9_method_24_code 135 = .ok (.bipush 8, 2) := by decide +kernel
theorem lr_d_M_mark_137 : decode prog_9_method_24_code 137 = .ok (.irem, 1) := by decide +kernel
theorem lr_d_M_mark_138 : decode prog_9_method_24_code 138 = .ok (.invokevirtual 165, 3) := by decide +kernel
theorem lr_d_M_mark_141 : decode prog_9_method_24_code 141 = .ok (.iinc 2 1, 3) := by decide +kernel
theorem lr_d_M_mark_144 : decode prog_9_method_24_code 144 = .ok (.goto (-45), 3) := by decide +kernel
theorem lr_d_M_mark_147 : decode prog_9_method_24_code 147 = .ok (.iconst 0, 1) := by decide +kernel
theorem lr_d_M_mark_148 : decode prog_9_method_24_code 148 = .ok (.istore_n 2, 1) := by decide +kernel
theorem lr_d_M_mark_149 : decode prog_9_method_24_code 149 = .ok (.iload_n 2, 1) := by decide +kernel
theorem lr_d_M_mark_150 : decode prog_9_method_24_code 150 = .ok (.bipush 8, 2) := by decide +kernel
theorem lr_d_M_mark_152 : decode prog_9_method_24_code 152 = .ok (.if_icmp .ge 83, 3) := by decide +kernel
theorem lr_d_M_mark_155 : decode prog_9_method_24_code 155 = .ok (.iconst 0, 1) := by decide +kernel
theorem lr_d_M_mark_156 : decode prog_9_method_24_code 156 = .ok (.istore_n 3, 1) := by decide +kernel
theorem lr_d_M_mark_157 : decode prog_9_method_24_code 157 = .ok (.iload_n 3, 1) := by decide +kernel
theorem lr_d_M_mark_158 : decode prog_9_method_24_code 158 = .ok (.bipush 8, 2) := by decide +kernel
theorem lr_d_M_mark_160 : decode prog_9_method_24_code 160 = .ok (.if_icmp .ge 69, 3) := by decide +kernel
theorem lr_d_M_mark_163 : decode prog_9_method_24_code 163 = .ok (.aload_n 0, 1) := by decide +kernel
theorem lr_d_M_mark_164 : decode prog_9_method_24_code 164 = .ok (.getfield 104, 3) := by decide +kernel
theorem lr_d_M_mark_167 : decode prog_9_method_24_code 167 = .ok (.iload_n 3, 1) := by decide +kernel
theorem lr_d_M_mark_168 : decode prog_9_method_24_code 168 = .ok (.baload, 1) := by decide +kernel
theorem lr_d_M_mark_169 : decode prog_9_method_24_code 169 = .ok (.ifCond .eq 54, 3) := by decide +kernel
theorem lr_d_M_mark_172 : decode prog_9_method_24_code 172 = .ok (.aload_n 0, 1) := by decide +kernel
theorem lr_d_M_mark_173 : decode prog_9_method_24_code 173 = .ok (.getfield 20, 3) := by decide +kernel
theorem lr_d_M_mark_176 : decode prog_9_method_24_code 176 = .ok (.bipush 8, 2) := by decide +kernel
theorem lr_d_M_mark_178 : decode prog_9_method_24_code 178 = .ok (.iload_n 1, 1) := by decide +kernel
theorem lr_d_M_mark_179 : decode prog_9_method_24_code 179 = .ok (.imul, 1) := by decide +kernel
theorem lr_d_M_mark_180 : decode prog_9_method_24_code 180 = .ok (.iload_n 3, 1) := by decide +kernel
theorem lr_d_M_mark_181 : decode prog_9_method_24_code 181 = .ok (.iadd, 1) := by decide +kernel
theorem lr_d_M_mark_182 : decode prog_9_method_24_code 182 = .ok (.iaload, 1) := by decide +kernel
theorem lr_d_M_mark_183 : decode prog_9_method_24_code 183 = .ok (.iconst 1, 1) := by decide +kernel
theorem lr_d_M_mark_184 : decode prog_9_method_24_code 184 = .ok (.if_icmp .ne 39, 3) := by decide +kernel
theorem lr_d_M_mark_187 : decode prog_9_method_24_code 187 = .ok (.aload_n 0, 1) := by decide +kernel
theorem lr_d_M_mark_188 : decode prog_9_method_24_code 188 = .ok (.aload_n 0, 1) := by decide +kernel
theorem lr_d_M_mark_189 : decode prog_9_method_24_code 189 = .ok (.getfield 29, 3) := by decide +kernel
theorem lr_d_M_mark_192 : decode prog_9_method_24_code 192 = .ok (.bipush 16, 2) := by decide +kernel
theorem lr_d_M_mark_194 : decode prog_9_method_24_code 194 = .ok (.iload_n 1, 1) := by decide +kernel
theorem lr_d_M_mark_195 : decode prog_9_method_24_code 195 = .ok (.imul, 1) := by decide +kernel
theorem lr_d_M_mark_196 : decode prog_9_method_24_code 196 = .ok (.iconst 2, 1) := by decide +kernel
theorem lr_d_M_mark_197 : decode prog_9_method_24_code 197 = .ok (.iload_n 3, 1) := by decide +kernel
theorem lr_d_M_mark_198 : decode prog_9_method_24_code 198 = .ok (.imul, 1) := by decide +kernel
theorem lr_d_M_mark_199 : decode prog_9_method_24_code 199 = .ok (.iadd, 1) := by decide +kernel
theorem lr_d_M_mark_200 : decode prog_9_method_24_code 200 = .ok (.iaload, 1) := by decide +kernel
theorem lr_d_M_mark_201 : decode prog_9_method_24_code 201 = .ok (.invokevirtual 165, 3) := by decide +kernel
theorem lr_d_M_mark_204 : decode prog_9_method_24_code 204 = .ok (.aload_n 0, 1) := by decide +kernel
theorem lr_d_M_mark_205 : decode prog_9_method_24_code 205 = .ok (.aload_n 0, 1) := by decide +kernel
theorem lr_d_M_mark_206 : decode prog_9_method_24_code 206 = .ok (.getfield 29, 3) := by decide +kernel
theorem lr_d_M_mark_209 : decode prog_9_method_24_code 209 = .ok (.bipush 16, 2) := by decide +kernel
theorem lr_d_M_mark_211 : decode prog_9_method_24_code 211 = .ok (.iload_n 1, 1) := by decide +kernel
theorem lr_d_M_mark_212 : decode prog_9_method_24_code 212 = .ok (.imul, 1) := by decide +kernel
theorem lr_d_M_mark_213 : decode prog_9_method_24_code 213 = .ok (.iconst 2, 1) := by decide +kernel
theorem lr_d_M_mark_214 : decode prog_9_method_24_code 214 = .ok (.iload_n 3, 1) := by decide +kernel
theorem lr_d_M_mark_215 : decode prog_9_method_24_code 215 = .ok (.imul, 1) := by decide +kernel
theorem lr_d_M_mark_216 : decode prog_9_method_24_code 216 = .ok (.iadd, 1) := by decide +kernel
theorem lr_d_M_mark_217 : decode prog_9_method_24_code 217 = .ok (.iconst 1, 1) := by decide +kernel
theorem lr_d_M_mark_218 : decode prog_9_method_24_code 218 = .ok (.iadd, 1) := by decide +kernel
theorem lr_d_M_mark_219 : decode prog_9_method_24_code 219 = .ok (.iaload, 1) := by decide +kernel
theorem lr_d_M_mark_220 : decode prog_9_method_24_code 220 = .ok (.invokevirtual 165, 3) := by decide +kernel
theorem lr_d_M_mark_223 : decode prog_9_method_24_code 223 = .ok (.iinc 3 1, 3) := by decide +kernel
theorem lr_d_M_mark_226 : decode prog_9_method_24_code 226 = .ok (.goto (-69), 3) := by decide +kernel
theorem lr_d_M_mark_229 : decode prog_9_method_24_code 229 = .ok (.iinc 2 1, 3) := by decide +kernel
theorem lr_d_M_mark_232 : decode prog_9_method_24_code 232 = .ok (.goto (-83), 3) := by decide +kernel
theorem lr_d_M_mark_235 : decode prog_9_method_24_code 235 = .ok (.return_, 1) := by decide +kernel
theorem lr_d_M_collect_0 : decode prog_9_method_25_code 0 = .ok (.aload_n 0, 1) := by decide +kernel
theorem lr_d_M_collect_1 : decode prog_9_method_25_code 1 = .ok (.iload_n 1, 1) := by decide +kernel
theorem lr_d_M_collect_2 : decode prog_9_method_25_code 2 = .ok (.invokevirtual 115, 3) := by decide +kernel
theorem lr_d_M_collect_5 : decode prog_9_method_25_code 5 = .ok (.ifCond .ne 5, 3) := by decide +kernel
theorem lr_d_M_collect_8 : decode prog_9_method_25_code 8 = .ok (.iconst (-1), 1) := by decide +kernel
theorem lr_d_M_collect_9 : decode prog_9_method_25_code 9 = .ok (.ireturn, 1) := by decide +kernel
theorem lr_d_M_collect_10 : decode prog_9_method_25_code 10 = .ok (.aload_n 0, 1) := by decide +kernel
theorem lr_d_M_collect_11 : decode prog_9_method_25_code 11 = .ok (.iload_n 1, 1) := by decide +kernel
theorem lr_d_M_collect_12 : decode prog_9_method_25_code 12 = .ok (.invokevirtual 168, 3) := by decide +kernel
theorem lr_d_M_collect_15 : decode prog_9_method_25_code 15 = .ok (.iconst 0, 1) := by decide +kernel
theorem lr_d_M_collect_16 : decode prog_9_method_25_code 16 = .ok (.istore_n 2, 1) := by decide +kernel
theorem lr_d_M_collect_17 : decode prog_9_method_25_code 17 = .ok (.iconst 0, 1) := by decide +kernel
theorem lr_d_M_collect_18 : decode prog_9_method_25_code 18 = .ok (.istore_n 3, 1) := by decide +kernel
theorem lr_d_M_collect_19 : decode prog_9_method_25_code 19 = .ok (.iload_n 3, 1) := by decide +kernel
theorem lr_d_M_collect_20 : decode prog_9_method_25_code 20 = .ok (.bipush 8, 2) := by decide +kernel
theorem lr_d_M_collect_22 : decode prog_9_method_25_code 22 = .ok (.if_icmp .ge 88, 3) := by decide +kernel
theorem lr_d_M_collect_25 : decode prog_9_method_25_code 25 = .ok (.bipush 8, 2) := by decide +kernel
theorem lr_d_M_collect_27 : decode prog_9_method_25_code 27 = .ok (.iload_n 1, 1) := by decide +kernel
theorem lr_d_M_collect_28 : decode prog_9_method_25_code 28 = .ok (.imul, 1) := by decide +kernel
theorem lr_d_M_collect_29 : decode prog_9_method_25_code 29 = .ok (.iload_n 3, 1) := by decide +kernel
theorem lr_d_M_collect_30 : decode prog_9_method_25_code 30 = .ok (.iadd, 1) := by decide +kernel
theorem lr_d_M_collect_31 : decode prog_9_method_25_code 31 = .ok (.istore 4, 2) := by decide +kernel
theorem lr_d_M_collect_33 : decode prog_9_method_25_code 33 = .ok (.aload_n 0, 1) := by decide +kernel
theorem lr_d_M_collect_34 : decode prog_9_method_25_code 34 = .ok (.getfield 20, 3) := by decide +kernel
theorem lr_d_M_collect_37 : decode prog_9_method_25_code 37 = .ok (.iload 4, 2) := by decide +kernel
theorem lr_d_M_collect_39 : decode prog_9_method_25_code 39 = .ok (.iaload, 1) := by decide +kernel
theorem lr_d_M_collect_40 : decode prog_9_method_25_code 40 = .ok (.ifCond .eq 64, 3) := by decide +kernel
theorem lr_d_M_collect_43 : decode prog_9_method_25_code 43 = .ok (.aload_n 0, 1) := by decide +kernel
theorem lr_d_M_collect_44 : decode prog_9_method_25_code 44 = .ok (.getfield 104, 3) := by decide +kernel
theorem lr_d_M_collect_47 : decode prog_9_method_25_code 47 = .ok (.iload_n 3, 1) := by decide +kernel
theorem lr_d_M_collect_48 : decode prog_9_method_25_code 48 = .ok (.baload, 1) := by decide +kernel
theorem lr_d_M_collect_49 : decode prog_9_method_25_code 49 = .ok (.ifCond .ne 55, 3) := by decide +kernel
theorem lr_d_M_collect_52 : decode prog_9_method_25_code 52 = .ok (.aload_n 0, 1) := by decide +kernel
theorem lr_d_M_collect_53 : decode prog_9_method_25_code 53 = .ok (.getfield 20, 3) := by decide +kernel
theorem lr_d_M_collect_56 : decode prog_9_method_25_code 56 = .ok (.iload 4, 2) := by decide +kernel
theorem lr_d_M_collect_58 : decode prog_9_method_25_code 58 = .ok (.iaload, 1) := by decide +kernel
theorem lr_d_M_collect_59 : decode prog_9_method_25_code 59 = .ok (.iconst 2, 1) := by decide +kernel
theorem lr_d_M_collect_60 : decode prog_9_method_25_code 60 = .ok (.if_icmp .ne 33, 3) := by decide +kernel
theorem lr_d_M_collect_63 : decode prog_9_method_25_code 63 = .ok (.aload_n 0, 1) := by decide +kernel
theorem lr_d_M_collect_64 : decode prog_9_method_25_code 64 = .ok (.iload_n 1, 1) := by decide +kernel
theorem lr_d_M_collect_65 : decode prog_9_method_25_code 65 = .ok (.invokevirtual 122, 3) := by decide +kernel
theorem lr_d_M_collect_68 : decode prog_9_method_25_code 68 = .ok (.istore 5, 2) := by decide +kernel
theorem lr_d_M_collect_70 : decode prog_9_method_25_code 70 = .ok (.aload_n 0, 1) := by decide +kernel
theorem lr_d_M_collect_71 : decode prog_9_method_25_code 71 = .ok (.iconst 5, 1) := by decide +kernel
theorem lr_d_M_collect_72 : decode prog_9_method_25_code 72 = .ok (.iload_n 1, 1) := by decide +kernel
theorem lr_d_M_collect_73 : decode prog_9_method_25_code 73 = .ok (.aload_n 0, 1) := by decide +kernel
theorem lr_d_M_collect_74 : decode prog_9_method_25_code 74 = .ok (.getfield 38, 3) := by decide +kernel
theorem lr_d_M_collect_77 : decode prog_9_method_25_code 77 = .ok (.iload 4, 2) := by decide +kernel
theorem lr_d_M_collect_79 : decode prog_9_method_25_code 79 = .ok (.iaload, 1) := by decide +kernel
theorem lr_d_M_collect_80 : decode prog_9_method_25_code 80 = .ok (.aload_n 0, 1) := by decide +kernel
theorem lr_d_M_collect_81 : decode prog_9_method_25_code 81 = .ok (.getfield 23, 3) := by decide +kernel
theorem lr_d_M_collect_84 : decode prog_9_method_25_code 84 = .ok (.iload 4, 2) := by decide +kernel
theorem lr_d_M_collect_86 : decode prog_9_method_25_code 86 = .ok (.iaload, 1) := by decide +kernel
theorem lr_d_M_collect_87 : decode prog_9_method_25_code 87 = .ok (.iload 5, 2) := by decide +kernel
theorem lr_d_M_collect_89 : decode prog_9_method_25_code 89 = .ok (.iconst 0, 1) := by decide +kernel
theorem lr_d_M_collect_90 : decode prog_9_method_25_code 90 = .ok (.invokevirtual 126, 3) := by decide +kernel
theorem lr_d_M_collect_93 : decode prog_9_method_25_code 93 = .ok (.aload_n 0, 1) := by decide +kernel
theorem lr_d_M_collect_94 : decode prog_9_method_25_code 94 = .ok (.getfield 20, 3) := by decide +kernel
theorem lr_d_M_collect_97 : decode prog_9_method_25_code 97 = .ok (.iload 4, 2) := by decide +kernel
theorem lr_d_M_collect_99 : decode prog_9_method_25_code 99 = .ok (.iconst 0, 1) := by decide +kernel
theorem lr_d_M_collect_100 : decode prog_9_method_25_code 100 = .ok (.iastore, 1) := by decide +kernel
theorem lr_d_M_collect_101 : decode prog_9_method_25_code 101 = .ok (.iinc 2 1, 3) := by decide +kernel
theorem lr_d_M_collect_104 : decode prog_9_method_25_code 104 = .ok (.iinc 3 1, 3) := by decide +kernel
theorem lr_d_M_collect_107 : decode prog_9_method_25_code 107 = .ok (.goto (-88), 3) := by decide +kernel
theorem lr_d_M_collect_110 : decode prog_9_method_25_code 110 = .ok (.iload_n 2, 1) := by decide +kernel
theorem lr_d_M_collect_111 : decode prog_9_method_25_code 111 = .ok (.ireturn, 1) := by decide +kernel
theorem lr_d_M_crash_0 : decode prog_9_method_26_code 0 = .ok (.aload_n 0, 1) := by decide +kernel
theorem lr_d_M_crash_1 : decode prog_9_method_26_code 1 = .ok (.iload_n 1, 1) := by decide +kernel
theorem lr_d_M_crash_2 : decode prog_9_method_26_code 2 = .ok (.invokevirtual 115, 3) := by decide +kernel
theorem lr_d_M_crash_5 : decode prog_9_method_26_code 5 = .ok (.ifCond .ne 5, 3) := by decide +kernel
theorem lr_d_M_crash_8 : decode prog_9_method_26_code 8 = .ok (.iconst 0, 1) := by decide +kernel
theorem lr_d_M_crash_9 : decode prog_9_method_26_code 9 = .ok (.ireturn, 1) := by decide +kernel
theorem lr_d_M_crash_10 : decode prog_9_method_26_code 10 = .ok (.aload_n 0, 1) := by decide +kernel
theorem lr_d_M_crash_11 : decode prog_9_method_26_code 11 = .ok (.getfield 7, 3) := by decide +kernel
theorem lr_d_M_crash_14 : decode prog_9_method_26_code 14 = .ok (.iload_n 1, 1) := by decide +kernel
theorem lr_d_M_crash_15 : decode prog_9_method_26_code 15 = .ok (.iconst 1, 1) := by decide +kernel
theorem lr_d_M_crash_16 : decode prog_9_method_26_code 16 = .ok (.bastore, 1) := by decide +kernel
theorem lr_d_M_crash_17 : decode prog_9_method_26_code 17 = .ok (.iconst 1, 1) := by decide +kernel
theorem lr_d_M_crash_18 : decode prog_9_method_26_code 18 = .ok (.ireturn, 1) := by decide +kernel
theorem lr_d_M_takeOut_0 : decode prog_9_method_27_code 0 = .ok (.bipush 6, 2) := by decide +kernel
theorem lr_d_M_takeOut_2 : decode prog_9_method_27_code 2 = .ok (.iload_n 1, 1) := by decide +kernel
theorem lr_d_M_takeOut_3 : decode prog_9_method_27_code 3 = .ok (.imul, 1) := by decide +kernel
theorem lr_d_M_takeOut_4 : decode prog_9_method_27_code 4 = .ok (.istore_n 2, 1) := by decide +kernel
theorem lr_d_M_takeOut_5 : decode prog_9_method_27_code 5 = .ok (.iload_n 2, 1) := by decide +kernel
theorem lr_d_M_takeOut_6 : decode prog_9_method_27_code 6 = .ok (.bipush 6, 2) := by decide +kernel
theorem lr_d_M_takeOut_8 : decode prog_9_method_27_code 8 = .ok (.aload_n 0, 1) := by decide +kernel
theorem lr_d_M_takeOut_9 : decode prog_9_method_27_code 9 = .ok (.getfield 111, 3) := by decide +kernel
theorem lr_d_M_takeOut_12 : decode prog_9_method_27_code 12 = .ok (.imul, 1) := by decide +kernel
theorem lr_d_M_takeOut_13 : decode prog_9_method_27_code 13 = .ok (.bipush 6, 2) := by decide +kernel
theorem lr_d_M_takeOut_15 : decode prog_9_method_27_code 15 = .ok (.isub, 1) := by decide +kernel
theorem lr_d_M_takeOut_16 : decode prog_9_method_27_code 16 = .ok (.if_icmp .ge 24, 3) := by decide +kernel
theorem lr_d_M_takeOut_19 : decode prog_9_method_27_code 19 = .ok (.aload_n 0, 1) := by decide +kernel
theorem lr_d_M_takeOut_20 : decode prog_9_method_27_code 20 = .ok (.getfield 59, 3) := by decide +kernel
theorem lr_d_M_takeOut_23 : decode prog_9_method_27_code 23 = .ok (.iload_n 2, 1) := by decide +kernel
theorem lr_d_M_takeOut_24 : decode prog_9_method_27_code 24 = .ok (.aload_n 0, 1) := by decide +kernel
theorem lr_d_M_takeOut_25 : decode prog_9_method_27_code 25 = .ok (.getfield 59, 3) := by decide +kernel
theorem lr_d_M_takeOut_28 : decode prog_9_method_27_code 28 = .ok (.iload_n 2, 1) := by decide +kernel
theorem lr_d_M_takeOut_29 : decode prog_9_method_27_code 29 = .ok (.bipush 6, 2) := by decide +kernel
theorem lr_d_M_takeOut_31 : decode prog_9_method_27_code 31 = .ok (.iadd, 1) := by decide +kernel
theorem lr_d_M_takeOut_32 : decode prog_9_method_27_code 32 = .ok (.iaload, 1) := by decide +kernel
theorem lr_d_M_takeOut_33 : decode prog_9_method_27_code 33 = .ok (.iastore, 1) := by decide +kernel
theorem lr_d_M_takeOut_34 : decode prog_9_method_27_code 34 = .ok (.iinc 2 1, 3) := by decide +kernel
theorem lr_d_M_takeOut_37 : decode prog_9_method_27_code 37 = .ok (.goto (-32), 3) := by decide +kernel
theorem lr_d_M_takeOut_40 : decode prog_9_method_27_code 40 = .ok (.aload_n 0, 1) := by decide +kernel
theorem lr_d_M_takeOut_41 : decode prog_9_method_27_code 41 = .ok (.dup, 1) := by decide +kernel
theorem lr_d_M_takeOut_42 : decode prog_9_method_27_code 42 = .ok (.getfield 111, 3) := by decide +kernel
theorem lr_d_M_takeOut_45 : decode prog_9_method_27_code 45 = .ok (.iconst 1, 1) := by decide +kernel
theorem lr_d_M_takeOut_46 : decode prog_9_method_27_code 46 = .ok (.isub, 1) := by decide +kernel
theorem lr_d_M_takeOut_47 : decode prog_9_method_27_code 47 = .ok (.putfield 111, 3) := by decide +kernel
theorem lr_d_M_takeOut_50 : decode prog_9_method_27_code 50 = .ok (.return_, 1) := by decide +kernel
theorem lr_d_M_passComes_0 : decode prog_9_method_30_code 0 = .ok (.iconst 3, 1) := by decide +kernel
theorem lr_d_M_passComes_1 : decode prog_9_method_30_code 1 = .ok (.iload_n 1, 1) := by decide +kernel
theorem lr_d_M_passComes_2 : decode prog_9_method_30_code 2 = .ok (.imul, 1) := by decide +kernel
theorem lr_d_M_passComes_3 : decode prog_9_method_30_code 3 = .ok (.aload_n 0, 1) := by decide +kernel
theorem lr_d_M_passComes_4 : decode prog_9_method_30_code 4 = .ok (.getfield 62, 3) := by decide +kernel
theorem lr_d_M_passComes_7 : decode prog_9_method_30_code 7 = .ok (.iconst 5, 1) := by decide +kernel
theorem lr_d_M_passComes_8 : decode prog_9_method_30_code 8 = .ok (.iaload, 1) := by decide +kernel
theorem lr_d_M_passComes_9 : decode prog_9_method_30_code 9 = .ok (.iconst 4, 1) := by decide +kernel
theorem lr_d_M_passComes_10 : decode prog_9_method_30_code 10 = .ok (.idiv, 1) := by decide +kernel
theorem lr_d_M_passComes_11 : decode prog_9_method_30_code 11 = .ok (.iadd, 1) := by decide +kernel
theorem lr_d_M_passComes_12 : decode prog_9_method_30_code 12 = .ok (.istore_n 3, 1) := by decide +kernel
theorem lr_d_M_passComes_13 : decode prog_9_method_30_code 13 = .ok (.aload_n 0, 1) := by decide +kernel
theorem lr_d_M_passComes_14 : decode prog_9_method_30_code 14 = .ok (.getfield 62, 3) := by decide +kernel
theorem lr_d_M_passComes_17 : decode prog_9_method_30_code 17 = .ok (.iconst 5, 1) := by decide +kernel
theorem lr_d_M_passComes_18 : decode prog_9_method_30_code 18 = .ok (.iaload, 1) := by decide +kernel
theorem lr_d_M_passComes_19 : decode prog_9_method_30_code 19 = .ok (.iconst 4, 1) := by decide +kernel
theorem lr_d_M_passComes_20 : decode prog_9_method_30_code 20 = .ok (.irem, 1) := by decide +kernel
theorem lr_d_M_passComes_21 : decode prog_9_method_30_code 21 = .ok (.istore 4, 2) := by decide +kernel
theorem lr_d_M_passComes_23 : decode prog_9_method_30_code 23 = .ok (.aload_n 0, 1) := by decide +kernel
theorem lr_d_M_passComes_24 : decode prog_9_method_30_code 24 = .ok (.iload_n 1, 1) := by decide +kernel
theorem lr_d_M_passComes_25 : decode prog_9_method_30_code 25 = .ok (.iload 4, 2) := by decide +kernel
theorem lr_d_M_passComes_27 : decode prog_9_method_30_code 27 = .ok (.iload_n 1, 1) := by decide +kernel
theorem lr_d_M_passComes_28 : decode prog_9_method_30_code 28 = .ok (.if_icmp .ne 7, 3) := by decide +kernel
theorem lr_d_M_passComes_31 : decode prog_9_method_30_code 31 = .ok (.iconst 1, 1) := by decide +kernel
theorem lr_d_M_passComes_32 : decode prog_9_method_30_code 32 = .ok (.goto 4, 3) := by decide +kernel
theorem lr_d_M_passComes_35 : decode prog_9_method_30_code 35 = .ok (.iconst 2, 1) := by decide +kernel
theorem lr_d_M_passComes_36 : decode prog_9_method_30_code 36 = .ok (.aload_n 0, 1) := by decide +kernel
theorem lr_d_M_passComes_37 : decode prog_9_method_30_code 37 = .ok (.getfield 62, 3) := by decide +kernel
theorem lr_d_M_passComes_40 : decode prog_9_method_30_code 40 = .ok (.iconst 3, 1) := by decide +kernel
theorem lr_d_M_passComes_41 : decode prog_9_method_30_code 41 = .ok (.iaload, 1) := by decide +kernel
theorem lr_d_M_passComes_42 : decode prog_9_method_30_code 42 = .ok (.invokevirtual 199, 3) := by decide +kernel
theorem lr_d_M_passComes_45 : decode prog_9_method_30_code 45 = .ok (.istore 5, 2) := by decide +kernel
theorem lr_d_M_passComes_47 : decode prog_9_method_30_code 47 = .ok (.iload 4, 2) := by decide +kernel
theorem lr_d_M_passComes_49 : decode prog_9_method_30_code 49 = .ok (.iload_n 1, 1) := by decide +kernel
theorem lr_d_M_passComes_50 : decode prog_9_method_30_code 50 = .ok (.if_icmp .ne 10, 3) := by decide +kernel
theorem lr_d_M_passComes_53 : decode prog_9_method_30_code 53 = .ok (.iload 5, 2) := by decide +kernel
theorem lr_d_M_passComes_55 : decode prog_9_method_30_code 55 = .ok (.ifCond .ge 5, 3) := by decide +kernel
theorem lr_d_M_passComes_58 : decode prog_9_method_30_code 58 = .ok (.iconst 0, 1) := by decide +kernel
theorem lr_d_M_passComes_59 : decode prog_9_method_30_code 59 = .ok (.ireturn, 1) := by decide +kernel
theorem lr_d_M_passComes_60 : decode prog_9_method_30_code 60 = .ok (.iload 5, 2) := by decide +kernel
theorem lr_d_M_passComes_62 : decode prog_9_method_30_code 62 = .ok (.ifCond .lt 61, 3) := by decide +kernel
theorem lr_d_M_passComes_65 : decode prog_9_method_30_code 65 = .ok (.iload 4, 2) := by decide +kernel
theorem lr_d_M_passComes_67 : decode prog_9_method_30_code 67 = .ok (.iload_n 1, 1) := by decide +kernel
theorem lr_d_M_passComes_68 : decode prog_9_method_30_code 68 = .ok (.if_icmp .eq 22, 3) := by decide +kernel
theorem lr_d_M_passComes_71 : decode prog_9_method_30_code 71 = .ok (.aload_n 0, 1) := by decide +kernel
theorem lr_d_M_passComes_72 : decode prog_9_method_30_code 72 = .ok (.getfield 50, 3) := by decide +kernel
theorem lr_d_M_passComes_75 : decode prog_9_method_30_code 75 = .ok (.iload 5, 2) := by decide +kernel
theorem lr_d_M_passComes_77 : decode prog_9_method_30_code 77 = .ok (.baload, 1) := by decide +kernel
theorem lr_d_M_passComes_78 : decode prog_9_method_30_code 78 = .ok (.ifCond .eq 45, 3) := by decide +kernel
theorem lr_d_M_passComes_81 : decode prog_9_method_30_code 81 = .ok (.aload_n 0, 1) := by decide +kernel
theorem lr_d_M_passComes_82 : decode prog_9_method_30_code 82 = .ok (.iload 5, 2) := by decide +kernel
theorem lr_d_M_passComes_84 : decode prog_9_method_30_code 84 = .ok (.invokevirtual 149, 3) := by decide +kernel
theorem lr_d_M_passComes_87 : decode prog_9_method_30_code 87 = .ok (.ifCond .ne 36, 3) := by decide +kernel
theorem lr_d_M_passComes_90 : decode prog_9_method_30_code 90 = .ok (.aload_n 0, 1) := by decide +kernel
theorem lr_d_M_passComes_91 : decode prog_9_method_30_code 91 = .ok (.getfield 13, 3) := by decide +kernel
theorem lr_d_M_passComes_94 : decode prog_9_method_30_code 94 = .ok (.iload_n 3, 1) := by decide +kernel
theorem lr_d_M_passComes_95 : decode prog_9_method_30_code 95 = .ok (.iload 5, 2) := by decide +kernel
theorem lr_d_M_passComes_97 : decode prog_9_method_30_code 97 = .ok (.bipush 8, 2) := by decide +kernel
theorem lr_d_M_passComes_99 : decode prog_9_method_30_code 99 = .ok (.irem, 1) := by decide +kernel
theorem lr_d_M_passComes_100 : decode prog_9_method_30_code 100 = .ok (.iastore, 1) := by decide +kernel
theorem lr_d_M_passComes_101 : decode prog_9_method_30_code 101 = .ok (.aload_n 0, 1) := by decide +kernel
theorem lr_d_M_passComes_102 : decode prog_9_method_30_code 102 = .ok (.iconst 1, 1) := by decide +kernel
theorem lr_d_M_passComes_103 : decode prog_9_method_30_code 103 = .ok (.iload_n 1, 1) := by decide +kernel
theorem lr_d_M_passComes_104 : decode prog_9_method_30_code 104 = .ok (.iload_n 2, 1) := by decide +kernel
theorem lr_d_M_passComes_105 : decode prog_9_method_30_code 105 = .ok (.aload_n 0, 1) := by decide +kernel
theorem lr_d_M_passComes_106 : decode prog_9_method_30_code 106 = .ok (.getfield 62, 3) := by decide +kernel
theorem lr_d_M_passComes_109 : decode prog_9_method_30_code 109 = .ok (.iconst 3, 1) := by decide +kernel
theorem lr_d_M_passComes_110 : decode prog_9_method_30_code 110 = .ok (.iaload, 1) := by decide +kernel
theorem lr_d_M_passComes_111 : decode prog_9_method_30_code 111 = .ok (.aload_n 0, 1) := by decide +kernel
theorem lr_d_M_passComes_112 : decode prog_9_method_30_code 112 = .ok (.getfield 62, 3) := by decide +kernel
theorem lr_d_M_passComes_115 : decode prog_9_method_30_code 115 = .ok (.iconst 4, 1) := by decide +kernel
theorem lr_d_M_passComes_116 : decode prog_9_method_30_code 116 = .ok (.iaload, 1) := by decide +kernel
theorem lr_d_M_passComes_117 : decode prog_9_method_30_code 117 = .ok (.iconst 0, 1) := by decide +kernel
theorem lr_d_M_passComes_118 : decode prog_9_method_30_code 118 = .ok (.invokevirtual 126, 3) := by decide +kernel
theorem lr_d_M_passComes_121 : decode prog_9_method_30_code 121 = .ok (.iconst 1, 1) := by decide +kernel
theorem lr_d_M_passComes_122 : decode prog_9_method_30_code 122 = .ok (.ireturn, 1) := by decide +kernel
theorem lr_d_M_passComes_123 : decode prog_9_method_30_code 123 = .ok (.iload 5, 2) := by decide +kernel
theorem lr_d_M_passComes_125 : decode prog_9_method_30_code 125 = .ok (.ifCond .ge 7, 3) := by decide +kernel
theorem lr_d_M_passComes_128 : decode prog_9_method_30_code 128 = .ok (.iconst 1, 1) := by decide +kernel
theorem lr_d_M_passComes_129 : decode prog_9_method_30_code 129 = .ok (.goto 4, 3) := by decide +kernel
theorem lr_d_M_passComes_132 : decode prog_9_method_30_code 132 = .ok (.iconst 0, 1) := by decide +kernel
theorem lr_d_M_passComes_133 : decode prog_9_method_30_code 133 = .ok (.istore 6, 2) := by decide +kernel
theorem lr_d_M_passComes_135 : decode prog_9_method_30_code 135 = .ok (.iload 6, 2) := by decide +kernel
theorem lr_d_M_passComes_137 : decode prog_9_method_30_code 137 = .ok (.ifCond .eq 11, 3) := by decide +kernel
theorem lr_d_M_passComes_140 : decode prog_9_method_30_code 140 = .ok (.aload_n 0, 1) := by decide +kernel
theorem lr_d_M_passComes_141 : decode prog_9_method_30_code 141 = .ok (.iload_n 1, 1) := by decide +kernel
theorem lr_d_M_passComes_142 : decode prog_9_method_30_code 142 = .ok (.invokevirtual 130, 3) := by decide +kernel
theorem lr_d_M_passComes_145 : decode prog_9_method_30_code 145 = .ok (.goto 5, 3) := by decide +kernel
theorem lr_d_M_passComes_148 : decode prog_9_method_30_code 148 = .ok (.iload 5, 2) := by decide +kernel
theorem lr_d_M_passComes_150 : decode prog_9_method_30_code 150 = .ok (.istore 5, 2) := by decide +kernel
theorem lr_d_M_passComes_152 : decode prog_9_method_30_code 152 = .ok (.iload 5, 2) := by decide +kernel
theorem lr_d_M_passComes_154 : decode prog_9_method_30_code 154 = .ok (.ifCond .ge 5, 3) := by decide +kernel
theorem lr_d_M_passComes_157 : decode prog_9_method_30_code 157 = .ok (.iconst 0, 1) := by decide +kernel
theorem lr_d_M_passComes_158 : decode prog_9_method_30_code 158 = .ok (.ireturn, 1) := by decide +kernel
theorem lr_d_M_passComes_159 : decode prog_9_method_30_code 159 = .ok (.iload 6, 2) := by decide +kernel
theorem lr_d_M_passComes_161 : decode prog_9_method_30_code 161 = .ok (.ifCond .eq 33, 3) := by decide +kernel
theorem lr_d_M_passComes_164 : decode prog_9_method_30_code 164 = .ok (.aload_n 0, 1) := by decide +kernel
theorem lr_d_M_passComes_165 : decode prog_9_method_30_code 165 = .ok (.getfield 20, 3) := by decide +kernel
theorem lr_d_M_passComes_168 : decode prog_9_method_30_code 168 = .ok (.iload 5, 2) := by decide +kernel
theorem lr_d_M_passComes_170 : decode prog_9_method_30_code 170 = .ok (.iconst 2, 1) := by decide +kernel
theorem lr_d_M_passComes_171 : decode prog_9_method_30_code 171 = .ok (.iastore, 1) := by decide +kernel
theorem lr_d_M_passComes_172 : decode prog_9_method_30_code 172 = .ok (.aload_n 0, 1) := by decide +kernel
theorem lr_d_M_passComes_173 : decode prog_9_method_30_code 173 = .ok (.getfield 23, 3) := by decide +kernel
theorem lr_d_M_passComes_176 : decode prog_9_method_30_code 176 = .ok (.iload 5, 2) := by decide +kernel
theorem lr_d_M_passComes_178 : decode prog_9_method_30_code 178 = .ok (.aload_n 0, 1) := by decide +kernel
theorem lr_d_M_passComes_179 : decode prog_9_method_30_code 179 = .ok (.getfield 62, 3) := by decide +kernel
theorem lr_d_M_passComes_182 : decode prog_9_method_30_code 182 = .ok (.iconst 3, 1) := by decide +kernel
theorem lr_d_M_passComes_183 : decode prog_9_method_30_code 183 = .ok (.iaload, 1) := by decide +kernel
theorem lr_d_M_passComes_184 : decode prog_9_method_30_code 184 = .ok (.iastore, 1) := by decide +kernel
theorem lr_d_M_passComes_185 : decode prog_9_method_30_code 185 = .ok (.aload_n 0, 1) := by decide +kernel
theorem lr_d_M_passComes_186 : decode prog_9_method_30_code 186 = .ok (.getfield 38, 3) := by decide +kernel
theorem lr_d_M_passComes_189 : decode prog_9_method_30_code 189 = .ok (.iload 5, 2) := by decide +kernel
theorem lr_d_M_passComes_191 : decode prog_9_method_30_code 191 = .ok (.iload 4, 2) := by decide +kernel
theorem lr_d_M_passComes_193 : decode prog_9_method_30_code 193 = .ok (.iastore, 1) := by decide +kernel
theorem lr_d_M_passComes_194 : decode prog_9_method_30_code 194 = .ok (.iload 6, 2) := by decide +kernel
theorem lr_d_M_passComes_196 : decode prog_9_method_30_code 196 = .ok (.ifCond .ne 12, 3) := by decide +kernel
theorem lr_d_M_passComes_199 : decode prog_9_method_30_code 199 = .ok (.aload_n 0, 1) := by decide +kernel
theorem lr_d_M_passComes_200 : decode prog_9_method_30_code 200 = .ok (.iload 5, 2) := by decide +kernel
theorem lr_d_M_passComes_202 : decode prog_9_method_30_code 202 = .ok (.invokevirtual 149, 3) := by decide +kernel
theorem lr_d_M_passComes_205 : decode prog_9_method_30_code 205 = .ok (.ifCond .eq 38, 3) := by decide +kernel
theorem lr_d_M_passComes_208 : decode prog_9_method_30_code 208 = .ok (.aload_n 0, 1) := by decide +kernel
theorem lr_d_M_passComes_209 : decode prog_9_method_30_code 209 = .ok (.getfield 50, 3) := by decide +kernel
theorem lr_d_M_passComes_212 : decode prog_9_method_30_code 212 = .ok (.iload 5, 2) := by decide +kernel
theorem lr_d_M_passComes_214 : decode prog_9_method_30_code 214 = .ok (.iconst 0, 1) := by decide +kernel
theorem lr_d_M_passComes_215 : decode prog_9_method_30_code 215 = .ok (.bastore, 1) := by decide +kernel
theorem lr_d_M_passComes_216 : decode prog_9_method_30_code 216 = .ok (.aload_n 0, 1) := by decide +kernel
theorem lr_d_M_passComes_217 : decode prog_9_method_30_code 217 = .ok (.getfield 47, 3) := by decide +kernel
theorem lr_d_M_passComes_220 : decode prog_9_method_30_code 220 = .ok (.iload 5, 2) := by decide +kernel
theorem lr_d_M_passComes_222 : decode prog_9_method_30_code 222 = .ok (.aload_n 0, 1) := by decide +kernel
theorem lr_d_M_passComes_223 : decode prog_9_method_30_code 223 = .ok (.getfield 119, 3) := by decide +kernel
theorem lr_d_M_passComes_226 : decode prog_9_method_30_code 226 = .ok (.bipush 24, 2) := by decide +kernel
theorem lr_d_M_passComes_228 : decode prog_9_method_30_code 228 = .ok (.iadd, 1) := by decide +kernel
theorem lr_d_M_passComes_229 : decode prog_9_method_30_code 229 = .ok (.iastore, 1) := by decide +kernel
theorem lr_d_M_passComes_230 : decode prog_9_method_30_code 230 = .ok (.aload_n 0, 1) := by decide +kernel
theorem lr_d_M_passComes_231 : decode prog_9_method_30_code 231 = .ok (.getfield 41, 3) := by decide +kernel
theorem lr_d_M_passComes_234 : decode prog_9_method_30_code 234 = .ok (.iload 5, 2) := by decide +kernel
theorem lr_d_M_passComes_236 : decode prog_9_method_30_code 236 = .ok (.aload_n 0, 1) := by decide +kernel
theorem lr_d_M_passComes_237 : decode prog_9_method_30_code 237 = .ok (.iload 5, 2) := by decide +kernel
theorem lr_d_M_passComes_239 : decode prog_9_method_30_code 239 = .ok (.invokevirtual 159, 3) := by decide +kernel
theorem lr_d_M_passComes_242 : decode prog_9_method_30_code 242 = .ok (.iastore, 1) := by decide +kernel
theorem lr_d_M_passComes_243 : decode prog_9_method_30_code 243 = .ok (.aload_n 0, 1) := by decide +kernel
theorem lr_d_M_passComes_244 : decode prog_9_method_30_code 244 = .ok (.getfield 53, 3) := by decide +kernel
theorem lr_d_M_passComes_247 : decode prog_9_method_30_code 247 = .ok (.iload 5, 2) := by decide +kernel
theorem lr_d_M_passComes_249 : decode prog_9_method_30_code 249 = .ok (.aload_n 0, 1) := by decide +kernel
theorem lr_d_M_passComes_250 : decode prog_9_method_30_code 250 = .ok (.getfield 62, 3) := by decide +kernel
theorem lr_d_M_passComes_253 : decode prog_9_method_30_code 253 = .ok (.iconst 4, 1) := by decide +kernel
theorem lr_d_M_passComes_254 : decode prog_9_method_30_code 254 = .ok (.iaload, 1) := by decide +kernel
theorem lr_d_M_passComes_255 : decode prog_9_method_30_code 255 = .ok (.iastore, 1) := by decide +kernel
theorem lr_d_M_passComes_256 : decode prog_9_method_30_code 256 = .ok (.aload_n 0, 1) := by decide +kernel
theorem lr_d_M_passComes_257 : decode prog_9_method_30_code 257 = .ok (.getfield 56, 3) := by decide +kernel
theorem lr_d_M_passComes_260 : decode prog_9_method_30_code 260 = .ok (.iload 5, 2) := by decide +kernel
theorem lr_d_M_passComes_262 : decode prog_9_method_30_code 262 = .ok (.iload_n 2, 1) := by decide +kernel
theorem lr_d_M_passComes_263 : decode prog_9_method_30_code 263 = .ok (.iastore, 1) := by decide +kernel
theorem lr_d_M_passComes_264 : decode prog_9_method_30_code 264 = .ok (.aload_n 0, 1) := by decide +kernel
theorem lr_d_M_passComes_265 : decode prog_9_method_30_code 265 = .ok (.getfield 13, 3) := by decide +kernel
theorem lr_d_M_passComes_268 : decode prog_9_method_30_code 268 = .ok (.iload_n 3, 1) := by decide +kernel
theorem lr_d_M_passComes_269 : decode prog_9_method_30_code 269 = .ok (.iload 5, 2) := by decide +kernel
theorem lr_d_M_passComes_271 : decode prog_9_method_30_code 271 = .ok (.bipush 8, 2) := by decide +kernel
theorem lr_d_M_passComes_273 : decode prog_9_method_30_code 273 = .ok (.irem, 1) := by decide +kernel
theorem lr_d_M_passComes_274 : decode prog_9_method_30_code 274 = .ok (.iastore, 1) := by decide +kernel
theorem lr_d_M_passComes_275 : decode prog_9_method_30_code 275 = .ok (.iconst 1, 1) := by decide +kernel
theorem lr_d_M_passComes_276 : decode prog_9_method_30_code 276 = .ok (.ireturn, 1) := by decide +kernel
theorem lr_d_M_takenComes_0 : decode prog_9_method_31_code 0 = .ok (.aload_n 0, 1) := by decide +kernel
theorem lr_d_M_takenComes_1 : decode prog_9_method_31_code 1 = .ok (.getfield 62, 3) := by decide +kernel
theorem lr_d_M_takenComes_4 : decode prog_9_method_31_code 4 = .ok (.iconst 4, 1) := by decide +kernel
theorem lr_d_M_takenComes_5 : decode prog_9_method_31_code 5 = .ok (.iaload, 1) := by decide +kernel
theorem lr_d_M_takenComes_6 : decode prog_9_method_31_code 6 = .ok (.istore_n 2, 1) := by decide +kernel
theorem lr_d_M_takenComes_7 : decode prog_9_method_31_code 7 = .ok (.iload_n 2, 1) := by decide +kernel
theorem lr_d_M_takenComes_8 : decode prog_9_method_31_code 8 = .ok (.aload_n 0, 1) := by decide +kernel
theorem lr_d_M_takenComes_9 : decode prog_9_method_31_code 9 = .ok (.getfield 140, 3) := by decide +kernel
theorem lr_d_M_takenComes_12 : decode prog_9_method_31_code 12 = .ok (.invokestatic 107, 3) := by decide +kernel
theorem lr_d_M_takenComes_15 : decode prog_9_method_31_code 15 = .ok (.ifCond .eq 28, 3) := by decide +kernel
theorem lr_d_M_takenComes_18 : decode prog_9_method_31_code 18 = .ok (.aload_n 0, 1) := by decide +kernel
theorem lr_d_M_takenComes_19 : decode prog_9_method_31_code 19 = .ok (.getfield 65, 3) := by decide +kernel
theorem lr_d_M_takenComes_22 : decode prog_9_method_31_code 22 = .ok (.iload_n 2, 1) := by decide +kernel
theorem lr_d_M_takenComes_23 : decode prog_9_method_31_code 23 = .ok (.iaload, 1) := by decide +kernel
theorem lr_d_M_takenComes_24 : decode prog_9_method_31_code 24 = .ok (.bipush 8, 2) := by decide +kernel
theorem lr_d_M_takenComes_26 : decode prog_9_method_31_code 26 = .ok (.idiv, 1) := by decide +kernel
theorem lr_d_M_takenComes_27 : decode prog_9_method_31_code 27 = .ok (.iload_n 1, 1) := by decide +kernel
theorem lr_d_M_takenComes_28 : decode prog_9_method_31_code 28 = .ok (.if_icmp .ne 15, 3) := by decide +kernel
theorem lr_d_M_takenComes_31 : decode prog_9_method_31_code 31 = .ok (.aload_n 0, 1) := by decide +kernel
theorem lr_d_M_takenComes_32 : decode prog_9_method_31_code 32 = .ok (.iload_n 2, 1) := by decide +kernel
theorem lr_d_M_takenComes_33 : decode prog_9_method_31_code 33 = .ok (.invokevirtual 143, 3) := by decide +kernel
theorem lr_d_M_takenComes_36 : decode prog_9_method_31_code 36 = .ok (.ifCond .eq 7, 3) := by decide +kernel
theorem lr_d_M_takenComes_39 : decode prog_9_method_31_code 39 = .ok (.iconst 1, 1) := by decide +kernel
theorem lr_d_M_takenComes_40 : decode prog_9_method_31_code 40 = .ok (.goto 4, 3) := by decide +kernel
theorem lr_d_M_takenComes_43 : decode prog_9_method_31_code 43 = .ok (.iconst 0, 1) := by decide +kernel
theorem lr_d_M_takenComes_44 : decode prog_9_method_31_code 44 = .ok (.istore_n 3, 1) := by decide +kernel
theorem lr_d_M_takenComes_45 : decode prog_9_method_31_code 45 = .ok (.iload_n 3, 1) := by decide +kernel
theorem lr_d_M_takenComes_46 : decode prog_9_method_31_code 46 = .ok (.ifCond .eq 10, 3) := by decide +kernel
theorem lr_d_M_takenComes_49 : decode prog_9_method_31_code 49 = .ok (.aload_n 0, 1) := by decide +kernel
theorem lr_d_M_takenComes_50 : decode prog_9_method_31_code 50 = .ok (.getfield 71, 3) := by decide +kernel
theorem lr_d_M_takenComes_53 : decode prog_9_method_31_code 53 = .ok (.iload_n 2, 1) := by decide +kernel
theorem lr_d_M_takenComes_54 : decode prog_9_method_31_code 54 = .ok (.iconst 1, 1) := by decide +kernel
theorem lr_d_M_takenComes_55 : decode prog_9_method_31_code 55 = .ok (.bastore, 1) := by decide +kernel
theorem lr_d_M_takenComes_56 : decode prog_9_method_31_code 56 = .ok (.iload_n 3, 1) := by decide +kernel
theorem lr_d_M_takenComes_57 : decode prog_9_method_31_code 57 = .ok (.ireturn, 1) := by decide +kernel
