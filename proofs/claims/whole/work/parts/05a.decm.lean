theorem lr_d_M_within_0 : decode prog_9_method_2_code 0 = .ok (.iload_n 0, 1) := by decide +kernel
theorem lr_d_M_within_1 : decode prog_9_method_2_code 1 = .ok (.ifCond .lt 12, 3) := by decide +kernel
theorem lr_d_M_within_4 : decode prog_9_method_2_code 4 = .ok (.iload_n 0, 1) := by decide +kernel
theorem lr_d_M_within_5 : decode prog_9_method_2_code 5 = .ok (.iload_n 1, 1) := by decide +kernel
theorem lr_d_M_within_6 : decode prog_9_method_2_code 6 = .ok (.if_icmp .ge 7, 3) := by decide +kernel
theorem lr_d_M_within_9 : decode prog_9_method_2_code 9 = .ok (.iconst 1, 1) := by decide +kernel
theorem lr_d_M_within_10 : decode prog_9_method_2_code 10 = .ok (.goto 4, 3) := by decide +kernel
theorem lr_d_M_within_13 : decode prog_9_method_2_code 13 = .ok (.iconst 0, 1) := by decide +kernel
theorem lr_d_M_within_14 : decode prog_9_method_2_code 14 = .ok (.ireturn, 1) := by decide +kernel
theorem lr_d_M_lives_0 : decode prog_9_method_3_code 0 = .ok (.iload_n 1, 1) := by decide +kernel
theorem lr_d_M_lives_1 : decode prog_9_method_3_code 1 = .ok (.iconst 4, 1) := by decide +kernel
theorem lr_d_M_lives_2 : decode prog_9_method_3_code 2 = .ok (.invokestatic 107, 3) := by decide +kernel
theorem lr_d_M_lives_5 : decode prog_9_method_3_code 5 = .ok (.ifCond .eq 16, 3) := by decide +kernel
theorem lr_d_M_lives_8 : decode prog_9_method_3_code 8 = .ok (.aload_n 0, 1) := by decide +kernel
theorem lr_d_M_lives_9 : decode prog_9_method_3_code 9 = .ok (.getfield 7, 3) := by decide +kernel
theorem lr_d_M_lives_12 : decode prog_9_method_3_code 12 = .ok (.iload_n 1, 1) := by decide +kernel
theorem lr_d_M_lives_13 : decode prog_9_method_3_code 13 = .ok (.baload, 1) := by decide +kernel
theorem lr_d_M_lives_14 : decode prog_9_method_3_code 14 = .ok (.ifCond .ne 7, 3) := by decide +kernel
theorem lr_d_M_lives_17 : decode prog_9_method_3_code 17 = .ok (.iconst 1, 1) := by decide +kernel
theorem lr_d_M_lives_18 : decode prog_9_method_3_code 18 = .ok (.goto 4, 3) := by decide +kernel
theorem lr_d_M_lives_21 : decode prog_9_method_3_code 21 = .ok (.iconst 0, 1) := by decide +kernel
theorem lr_d_M_lives_22 : decode prog_9_method_3_code 22 = .ok (.ireturn, 1) := by decide +kernel
theorem lr_d_M_send_0 : decode prog_9_method_4_code 0 = .ok (.aload_n 0, 1) := by decide +kernel
theorem lr_d_M_send_1 : decode prog_9_method_4_code 1 = .ok (.getfield 111, 3) := by decide +kernel
theorem lr_d_M_send_4 : decode prog_9_method_4_code 4 = .ok (.bipush 32, 2) := by decide +kernel
theorem lr_d_M_send_6 : decode prog_9_method_4_code 6 = .ok (.if_icmp .ne 4, 3) := by decide +kernel
theorem lr_d_M_send_9 : decode prog_9_method_4_code 9 = .ok (.return_, 1) := by decide +kernel
theorem lr_d_M_send_10 : decode prog_9_method_4_code 10 = .ok (.bipush 6, 2) := by decide +kernel
theorem lr_d_M_send_12 : decode prog_9_method_4_code 12 = .ok (.aload_n 0, 1) := by decide +kernel
theorem lr_d_M_send_13 : decode prog_9_method_4_code 13 = .ok (.getfield 111, 3) := by decide +kernel
theorem lr_d_M_send_16 : decode prog_9_method_4_code 16 = .ok (.imul, 1) := by decide +kernel
theorem lr_d_M_send_17 : decode prog_9_method_4_code 17 = .ok (.istore 7, 2) := by decide +kernel
theorem lr_d_M_send_19 : decode prog_9_method_4_code 19 = .ok (.aload_n 0, 1) := by decide +kernel
theorem lr_d_M_send_20 : decode prog_9_method_4_code 20 = .ok (.getfield 59, 3) := by decide +kernel
theorem lr_d_M_send_23 : decode prog_9_method_4_code 23 = .ok (.iload 7, 2) := by decide +kernel
theorem lr_d_M_send_25 : decode prog_9_method_4_code 25 = .ok (.iload_n 1, 1) := by decide +kernel
theorem lr_d_M_send_26 : decode prog_9_method_4_code 26 = .ok (.iastore, 1) := by decide +kernel
theorem lr_d_M_send_27 : decode prog_9_method_4_code 27 = .ok (.aload_n 0, 1) := by decide +kernel
theorem lr_d_M_send_28 : decode prog_9_method_4_code 28 = .ok (.getfield 59, 3) := by decide +kernel
theorem lr_d_M_send_31 : decode prog_9_method_4_code 31 = .ok (.iload 7, 2) := by decide +kernel
theorem lr_d_M_send_33 : decode prog_9_method_4_code 33 = .ok (.iconst 1, 1) := by decide +kernel
theorem lr_d_M_send_34 : decode prog_9_method_4_code 34 = .ok (.iadd, 1) := by decide +kernel
theorem lr_d_M_send_35 : decode prog_9_method_4_code 35 = .ok (.iload_n 2, 1) := by decide +kernel
theorem lr_d_M_send_36 : decode prog_9_method_4_code 36 = .ok (.iastore, 1) := by decide +kernel
theorem lr_d_M_send_37 : decode prog_9_method_4_code 37 = .ok (.aload_n 0, 1) := by decide +kernel
theorem lr_d_M_send_38 : decode prog_9_method_4_code 38 = .ok (.getfield 59, 3) := by decide +kernel
theorem lr_d_M_send_41 : decode prog_9_method_4_code 41 = .ok (.iload 7, 2) := by decide +kernel
theorem lr_d_M_send_43 : decode prog_9_method_4_code 43 = .ok (.iconst 2, 1) := by decide +kernel
theorem lr_d_M_send_44 : decode prog_9_method_4_code 44 = .ok (.iadd, 1) := by decide +kernel
theorem lr_d_M_send_45 : decode prog_9_method_4_code 45 = .ok (.iload_n 3, 1) := by decide +kernel
theorem lr_d_M_send_46 : decode prog_9_method_4_code 46 = .ok (.iastore, 1) := by decide +kernel
theorem lr_d_M_send_47 : decode prog_9_method_4_code 47 = .ok (.aload_n 0, 1) := by decide +kernel
theorem lr_d_M_send_48 : decode prog_9_method_4_code 48 = .ok (.getfield 59, 3) := by decide +kernel
theorem lr_d_M_send_51 : decode prog_9_method_4_code 51 = .ok (.iload 7, 2) := by decide +kernel
theorem lr_d_M_send_53 : decode prog_9_method_4_code 53 = .ok (.iconst 3, 1) := by decide +kernel
theorem lr_d_M_send_54 : decode prog_9_method_4_code 54 = .ok (.iadd, 1) := by decide +kernel
theorem lr_d_M_send_55 : decode prog_9_method_4_code 55 = .ok (.iload 4, 2) := by decide +kernel
theorem lr_d_M_send_57 : decode prog_9_method_4_code 57 = .ok (.iastore, 1) := by decide +kernel
theorem lr_d_M_send_58 : decode prog_9_method_4_code 58 = .ok (.aload_n 0, 1) := by decide +kernel
theorem lr_d_M_send_59 : decode prog_9_method_4_code 59 = .ok (.getfield 59, 3) := by decide +kernel
theorem lr_d_M_send_62 : decode prog_9_method_4_code 62 = .ok (.iload 7, 2) := by decide +kernel
theorem lr_d_M_send_64 : decode prog_9_method_4_code 64 = .ok (.iconst 4, 1) := by decide +kernel
theorem lr_d_M_send_65 : decode prog_9_method_4_code 65 = .ok (.iadd, 1) := by decide +kernel
theorem lr_d_M_send_66 : decode prog_9_method_4_code 66 = .ok (.iload 5, 2) := by decide +kernel
theorem lr_d_M_send_68 : decode prog_9_method_4_code 68 = .ok (.iastore, 1) := by decide +kernel
theorem lr_d_M_send_69 : decode prog_9_method_4_code 69 = .ok (.aload_n 0, 1) := by decide +kernel
theorem lr_d_M_send_70 : decode prog_9_method_4_code 70 = .ok (.getfield 59, 3) := by decide +kernel
theorem lr_d_M_send_73 : decode prog_9_method_4_code 73 = .ok (.iload 7, 2) := by decide +kernel
theorem lr_d_M_send_75 : decode prog_9_method_4_code 75 = .ok (.iconst 5, 1) := by decide +kernel
theorem lr_d_M_send_76 : decode prog_9_method_4_code 76 = .ok (.iadd, 1) := by decide +kernel
theorem lr_d_M_send_77 : decode prog_9_method_4_code 77 = .ok (.iload 6, 2) := by decide +kernel
theorem lr_d_M_send_79 : decode prog_9_method_4_code 79 = .ok (.iastore, 1) := by decide +kernel
theorem lr_d_M_send_80 : decode prog_9_method_4_code 80 = .ok (.aload_n 0, 1) := by decide +kernel
theorem lr_d_M_send_81 : decode prog_9_method_4_code 81 = .ok (.dup, 1) := by decide +kernel
theorem lr_d_M_send_82 : decode prog_9_method_4_code 82 = .ok (.getfield 111, 3) := by decide +kernel
theorem lr_d_M_send_85 : decode prog_9_method_4_code 85 = .ok (.iconst 1, 1) := by decide +kernel
theorem lr_d_M_send_86 : decode prog_9_method_4_code 86 = .ok (.iadd, 1) := by decide +kernel
theorem lr_d_M_send_87 : decode prog_9_method_4_code 87 = .ok (.putfield 111, 3) := by decide +kernel
theorem lr_d_M_send_90 : decode prog_9_method_4_code 90 = .ok (.return_, 1) := by decide +kernel
theorem lr_d_M_at_0 : decode prog_9_method_5_code 0 = .ok (.aload_n 0, 1) := by decide +kernel
theorem lr_d_M_at_1 : decode prog_9_method_5_code 1 = .ok (.iload_n 1, 1) := by decide +kernel
theorem lr_d_M_at_2 : decode prog_9_method_5_code 2 = .ok (.invokevirtual 115, 3) := by decide +kernel
theorem lr_d_M_at_5 : decode prog_9_method_5_code 5 = .ok (.ifCond .eq 24, 3) := by decide +kernel
theorem lr_d_M_at_8 : decode prog_9_method_5_code 8 = .ok (.iload_n 2, 1) := by decide +kernel
theorem lr_d_M_at_9 : decode prog_9_method_5_code 9 = .ok (.iconst 3, 1) := by decide +kernel
theorem lr_d_M_at_10 : decode prog_9_method_5_code 10 = .ok (.invokestatic 107, 3) := by decide +kernel
theorem lr_d_M_at_13 : decode prog_9_method_5_code 13 = .ok (.ifCond .eq 16, 3) := by decide +kernel
theorem lr_d_M_at_16 : decode prog_9_method_5_code 16 = .ok (.aload_n 0, 1) := by decide +kernel
theorem lr_d_M_at_17 : decode prog_9_method_5_code 17 = .ok (.getfield 13, 3) := by decide +kernel
theorem lr_d_M_at_20 : decode prog_9_method_5_code 20 = .ok (.iconst 3, 1) := by decide +kernel
theorem lr_d_M_at_21 : decode prog_9_method_5_code 21 = .ok (.iload_n 1, 1) := by decide +kernel
theorem lr_d_M_at_22 : decode prog_9_method_5_code 22 = .ok (.imul, 1) := by decide +kernel
theorem lr_d_M_at_23 : decode prog_9_method_5_code 23 = .ok (.iload_n 2, 1) := by decide +kernel
theorem lr_d_M_at_24 : decode prog_9_method_5_code 24 = .ok (.iadd, 1) := by decide +kernel
theorem lr_d_M_at_25 : decode prog_9_method_5_code 25 = .ok (.iaload, 1) := by decide +kernel
theorem lr_d_M_at_26 : decode prog_9_method_5_code 26 = .ok (.ifCond .ge 5, 3) := by decide +kernel
theorem lr_d_M_at_29 : decode prog_9_method_5_code 29 = .ok (.iconst (-1), 1) := by decide +kernel
theorem lr_d_M_at_30 : decode prog_9_method_5_code 30 = .ok (.ireturn, 1) := by decide +kernel
theorem lr_d_M_at_31 : decode prog_9_method_5_code 31 = .ok (.bipush 8, 2) := by decide +kernel
theorem lr_d_M_at_33 : decode prog_9_method_5_code 33 = .ok (.iload_n 1, 1) := by decide +kernel
theorem lr_d_M_at_34 : decode prog_9_method_5_code 34 = .ok (.imul, 1) := by decide +kernel
theorem lr_d_M_at_35 : decode prog_9_method_5_code 35 = .ok (.aload_n 0, 1) := by decide +kernel
theorem lr_d_M_at_36 : decode prog_9_method_5_code 36 = .ok (.getfield 13, 3) := by decide +kernel
theorem lr_d_M_at_39 : decode prog_9_method_5_code 39 = .ok (.iconst 3, 1) := by decide +kernel
theorem lr_d_M_at_40 : decode prog_9_method_5_code 40 = .ok (.iload_n 1, 1) := by decide +kernel
theorem lr_d_M_at_41 : decode prog_9_method_5_code 41 = .ok (.imul, 1) := by decide +kernel
theorem lr_d_M_at_42 : decode prog_9_method_5_code 42 = .ok (.iload_n 2, 1) := by decide +kernel
theorem lr_d_M_at_43 : decode prog_9_method_5_code 43 = .ok (.iadd, 1) := by decide +kernel
theorem lr_d_M_at_44 : decode prog_9_method_5_code 44 = .ok (.iaload, 1) := by decide +kernel
theorem lr_d_M_at_45 : decode prog_9_method_5_code 45 = .ok (.iadd, 1) := by decide +kernel
theorem lr_d_M_at_46 : decode prog_9_method_5_code 46 = .ok (.ireturn, 1) := by decide +kernel
theorem lr_d_M_emptySlot_0 : decode prog_9_method_6_code 0 = .ok (.bipush 8, 2) := by decide +kernel
theorem lr_d_M_emptySlot_2 : decode prog_9_method_6_code 2 = .ok (.iload_n 1, 1) := by decide +kernel
theorem lr_d_M_emptySlot_3 : decode prog_9_method_6_code 3 = .ok (.imul, 1) := by decide +kernel
theorem lr_d_M_emptySlot_4 : decode prog_9_method_6_code 4 = .ok (.istore_n 2, 1) := by decide +kernel
theorem lr_d_M_emptySlot_5 : decode prog_9_method_6_code 5 = .ok (.iload_n 2, 1) := by decide +kernel
theorem lr_d_M_emptySlot_6 : decode prog_9_method_6_code 6 = .ok (.bipush 8, 2) := by decide +kernel
theorem lr_d_M_emptySlot_8 : decode prog_9_method_6_code 8 = .ok (.iload_n 1, 1) := by decide +kernel
theorem lr_d_M_emptySlot_9 : decode prog_9_method_6_code 9 = .ok (.imul, 1) := by decide +kernel
theorem lr_d_M_emptySlot_10 : decode prog_9_method_6_code 10 = .ok (.bipush 8, 2) := by decide +kernel
theorem lr_d_M_emptySlot_12 : decode prog_9_method_6_code 12 = .ok (.iadd, 1) := by decide +kernel
theorem lr_d_M_emptySlot_13 : decode prog_9_method_6_code 13 = .ok (.if_icmp .ge 20, 3) := by decide +kernel
theorem lr_d_M_emptySlot_16 : decode prog_9_method_6_code 16 = .ok (.aload_n 0, 1) := by decide +kernel
theorem lr_d_M_emptySlot_17 : decode prog_9_method_6_code 17 = .ok (.getfield 20, 3) := by decide +kernel
theorem lr_d_M_emptySlot_20 : decode prog_9_method_6_code 20 = .ok (.iload_n 2, 1) := by decide +kernel
theorem lr_d_M_emptySlot_21 : decode prog_9_method_6_code 21 = .ok (.iaload, 1) := by decide +kernel
theorem lr_d_M_emptySlot_22 : decode prog_9_method_6_code 22 = .ok (.ifCond .ne 5, 3) := by decide +kernel
theorem lr_d_M_emptySlot_25 : decode prog_9_method_6_code 25 = .ok (.iload_n 2, 1) := by decide +kernel
theorem lr_d_M_emptySlot_26 : decode prog_9_method_6_code 26 = .ok (.ireturn, 1) := by decide +kernel
theorem lr_d_M_emptySlot_27 : decode prog_9_method_6_code 27 = .ok (.iinc 2 1, 3) := by decide +kernel
theorem lr_d_M_emptySlot_30 : decode prog_9_method_6_code 30 = .ok (.goto (-25), 3) := by decide +kernel
theorem lr_d_M_emptySlot_33 : decode prog_9_method_6_code 33 = .ok (.iconst (-1), 1) := by decide +kernel
theorem lr_d_M_emptySlot_34 : decode prog_9_method_6_code 34 = .ok (.ireturn, 1) := by decide +kernel
theorem lr_d_M_find_0 : decode prog_9_method_7_code 0 = .ok (.bipush 8, 2) := by decide +kernel
theorem lr_d_M_find_2 : decode prog_9_method_7_code 2 = .ok (.iload_n 1, 1) := by decide +kernel
theorem lr_d_M_find_3 : decode prog_9_method_7_code 3 = .ok (.imul, 1) := by decide +kernel
theorem lr_d_M_find_4 : decode prog_9_method_7_code 4 = .ok (.istore 4, 2) := by decide +kernel
theorem lr_d_M_find_6 : decode prog_9_method_7_code 6 = .ok (.iload 4, 2) := by decide +kernel
theorem lr_d_M_find_8 : decode prog_9_method_7_code 8 = .ok (.bipush 8, 2) := by decide +kernel
theorem lr_d_M_find_10 : decode prog_9_method_7_code 10 = .ok (.iload_n 1, 1) := by decide +kernel
theorem lr_d_M_find_11 : decode prog_9_method_7_code 11 = .ok (.imul, 1) := by decide +kernel
theorem lr_d_M_find_12 : decode prog_9_method_7_code 12 = .ok (.bipush 8, 2) := by decide +kernel
theorem lr_d_M_find_14 : decode prog_9_method_7_code 14 = .ok (.iadd, 1) := by decide +kernel
theorem lr_d_M_find_15 : decode prog_9_method_7_code 15 = .ok (.if_icmp .ge 34, 3) := by decide +kernel
theorem lr_d_M_find_18 : decode prog_9_method_7_code 18 = .ok (.aload_n 0, 1) := by decide +kernel
theorem lr_d_M_find_19 : decode prog_9_method_7_code 19 = .ok (.getfield 20, 3) := by decide +kernel
theorem lr_d_M_find_22 : decode prog_9_method_7_code 22 = .ok (.iload 4, 2) := by decide +kernel
theorem lr_d_M_find_24 : decode prog_9_method_7_code 24 = .ok (.iaload, 1) := by decide +kernel
theorem lr_d_M_find_25 : decode prog_9_method_7_code 25 = .ok (.iload_n 2, 1) := by decide +kernel
theorem lr_d_M_find_26 : decode prog_9_method_7_code 26 = .ok (.if_icmp .ne 17, 3) := by decide +kernel
theorem lr_d_M_find_29 : decode prog_9_method_7_code 29 = .ok (.aload_n 0, 1) := by decide +kernel
theorem lr_d_M_find_30 : decode prog_9_method_7_code 30 = .ok (.getfield 23, 3) := by decide +kernel
theorem lr_d_M_find_33 : decode prog_9_method_7_code 33 = .ok (.iload 4, 2) := by decide +kernel
theorem lr_d_M_find_35 : decode prog_9_method_7_code 35 = .ok (.iaload, 1) := by decide +kernel
theorem lr_d_M_find_36 : decode prog_9_method_7_code 36 = .ok (.iload_n 3, 1) := by decide +kernel
theorem lr_d_M_find_37 : decode prog_9_method_7_code 37 = .ok (.if_icmp .ne 6, 3) := by decide +kernel
theorem lr_d_M_find_40 : decode prog_9_method_7_code 40 = .ok (.iload 4, 2) := by decide +kernel
theorem lr_d_M_find_42 : decode prog_9_method_7_code 42 = .ok (.ireturn, 1) := by decide +kernel
theorem lr_d_M_find_43 : decode prog_9_method_7_code 43 = .ok (.iinc 4 1, 3) := by decide +kernel
theorem lr_d_M_find_46 : decode prog_9_method_7_code 46 = .ok (.goto (-40), 3) := by decide +kernel
theorem lr_d_M_find_49 : decode prog_9_method_7_code 49 = .ok (.iconst (-1), 1) := by decide +kernel
theorem lr_d_M_find_50 : decode prog_9_method_7_code 50 = .ok (.ireturn, 1) := by decide +kernel
theorem lr_d_M_stale_0 : decode prog_9_method_8_code 0 = .ok (.aload_n 0, 1) := by decide +kernel
theorem lr_d_M_stale_1 : decode prog_9_method_8_code 1 = .ok (.getfield 119, 3) := by decide +kernel
theorem lr_d_M_stale_4 : decode prog_9_method_8_code 4 = .ok (.aload_n 0, 1) := by decide +kernel
theorem lr_d_M_stale_5 : decode prog_9_method_8_code 5 = .ok (.getfield 47, 3) := by decide +kernel
theorem lr_d_M_stale_8 : decode prog_9_method_8_code 8 = .ok (.iload_n 1, 1) := by decide +kernel
theorem lr_d_M_stale_9 : decode prog_9_method_8_code 9 = .ok (.iaload, 1) := by decide +kernel
theorem lr_d_M_stale_10 : decode prog_9_method_8_code 10 = .ok (.if_icmp .lt 7, 3) := by decide +kernel
theorem lr_d_M_stale_13 : decode prog_9_method_8_code 13 = .ok (.iconst 1, 1) := by decide +kernel
theorem lr_d_M_stale_14 : decode prog_9_method_8_code 14 = .ok (.goto 4, 3) := by decide +kernel
theorem lr_d_M_stale_17 : decode prog_9_method_8_code 17 = .ok (.iconst 0, 1) := by decide +kernel
theorem lr_d_M_stale_18 : decode prog_9_method_8_code 18 = .ok (.ireturn, 1) := by decide +kernel
theorem lr_d_M_nextNumber_0 : decode prog_9_method_9_code 0 = .ok (.aload_n 0, 1) := by decide +kernel
theorem lr_d_M_nextNumber_1 : decode prog_9_method_9_code 1 = .ok (.getfield 17, 3) := by decide +kernel
theorem lr_d_M_nextNumber_4 : decode prog_9_method_9_code 4 = .ok (.iload_n 1, 1) := by decide +kernel
theorem lr_d_M_nextNumber_5 : decode prog_9_method_9_code 5 = .ok (.dup2, 1) := by decide +kernel
theorem lr_d_M_nextNumber_6 : decode prog_9_method_9_code 6 = .ok (.iaload, 1) := by decide +kernel
theorem lr_d_M_nextNumber_7 : decode prog_9_method_9_code 7 = .ok (.iconst 1, 1) := by decide +kernel
theorem lr_d_M_nextNumber_8 : decode prog_9_method_9_code 8 = .ok (.iadd, 1) := by decide +kernel
theorem lr_d_M_nextNumber_9 : decode prog_9_method_9_code 9 = .ok (.iastore, 1) := by decide +kernel
theorem lr_d_M_nextNumber_10 : decode prog_9_method_9_code 10 = .ok (.aload_n 0, 1) := by decide +kernel
theorem lr_d_M_nextNumber_11 : decode prog_9_method_9_code 11 = .ok (.getfield 17, 3) := by decide +kernel
theorem lr_d_M_nextNumber_14 : decode prog_9_method_9_code 14 = .ok (.iload_n 1, 1) := by decide +kernel
theorem lr_d_M_nextNumber_15 : decode prog_9_method_9_code 15 = .ok (.iaload, 1) := by decide +kernel
theorem lr_d_M_nextNumber_16 : decode prog_9_method_9_code 16 = .ok (.ireturn, 1) := by decide +kernel
theorem lr_d_M_sendDirty_0 : decode prog_9_method_10_code 0 = .ok (.iload_n 1, 1) := by decide +kernel
theorem lr_d_M_sendDirty_1 : decode prog_9_method_10_code 1 = .ok (.bipush 8, 2) := by decide +kernel
theorem lr_d_M_sendDirty_3 : decode prog_9_method_10_code 3 = .ok (.idiv, 1) := by decide +kernel
theorem lr_d_M_sendDirty_4 : decode prog_9_method_10_code 4 = .ok (.istore_n 2, 1) := by decide +kernel
theorem lr_d_M_sendDirty_5 : decode prog_9_method_10_code 5 = .ok (.aload_n 0, 1) := by decide +kernel
theorem lr_d_M_sendDirty_6 : decode prog_9_method_10_code 6 = .ok (.iload_n 2, 1) := by decide +kernel
theorem lr_d_M_sendDirty_7 : decode prog_9_method_10_code 7 = .ok (.invokevirtual 122, 3) := by decide +kernel
theorem lr_d_M_sendDirty_10 : decode prog_9_method_10_code 10 = .ok (.istore_n 3, 1) := by decide +kernel
theorem lr_d_M_sendDirty_11 : decode prog_9_method_10_code 11 = .ok (.aload_n 0, 1) := by decide +kernel
theorem lr_d_M_sendDirty_12 : decode prog_9_method_10_code 12 = .ok (.iconst 2, 1) := by decide +kernel
theorem lr_d_M_sendDirty_13 : decode prog_9_method_10_code 13 = .ok (.iload_n 2, 1) := by decide +kernel
theorem lr_d_M_sendDirty_14 : decode prog_9_method_10_code 14 = .ok (.aload_n 0, 1) := by decide +kernel
theorem lr_d_M_sendDirty_15 : decode prog_9_method_10_code 15 = .ok (.getfield 38, 3) := by decide +kernel
theorem lr_d_M_sendDirty_18 : decode prog_9_method_10_code 18 = .ok (.iload_n 1, 1) := by decide +kernel
theorem lr_d_M_sendDirty_19 : decode prog_9_method_10_code 19 = .ok (.iaload, 1) := by decide +kernel
theorem lr_d_M_sendDirty_20 : decode prog_9_method_10_code 20 = .ok (.aload_n 0, 1) := by decide +kernel
theorem lr_d_M_sendDirty_21 : decode prog_9_method_10_code 21 = .ok (.getfield 23, 3) := by decide +kernel
theorem lr_d_M_sendDirty_24 : decode prog_9_method_10_code 24 = .ok (.iload_n 1, 1) := by decide +kernel
theorem lr_d_M_sendDirty_25 : decode prog_9_method_10_code 25 = .ok (.iaload, 1) := by decide +kernel
theorem lr_d_M_sendDirty_26 : decode prog_9_method_10_code 26 = .ok (.iload_n 3, 1) := by decide +kernel
theorem lr_d_M_sendDirty_27 : decode prog_9_method_10_code 27 = .ok (.aload_n 0, 1) := by decide +kernel
theorem lr_d_M_sendDirty_28 : decode prog_9_method_10_code 28 = .ok (.getfield 119, 3) := by decide +kernel
theorem lr_d_M_sendDirty_31 : decode prog_9_method_10_code 31 = .ok (.invokevirtual 126, 3) := by decide +kernel
theorem lr_d_M_sendDirty_34 : decode prog_9_method_10_code 34 = .ok (.aload_n 0, 1) := by decide +kernel
theorem lr_d_M_sendDirty_35 : decode prog_9_method_10_code 35 = .ok (.getfield 44, 3) := by decide +kernel
theorem lr_d_M_sendDirty_38 : decode prog_9_method_10_code 38 = .ok (.iload_n 1, 1) := by decide +kernel
theorem lr_d_M_sendDirty_39 : decode prog_9_method_10_code 39 = .ok (.aload_n 0, 1) := by decide +kernel
theorem lr_d_M_sendDirty_40 : decode prog_9_method_10_code 40 = .ok (.getfield 119, 3) := by decide +kernel
theorem lr_d_M_sendDirty_43 : decode prog_9_method_10_code 43 = .ok (.iastore, 1) := by decide +kernel
theorem lr_d_M_sendDirty_44 : decode prog_9_method_10_code 44 = .ok (.iload_n 3, 1) := by decide +kernel
theorem lr_d_M_sendDirty_45 : decode prog_9_method_10_code 45 = .ok (.ireturn, 1) := by decide +kernel
theorem lr_d_M_make_0 : decode prog_9_method_11_code 0 = .ok (.aload_n 0, 1) := by decide +kernel
theorem lr_d_M_make_1 : decode prog_9_method_11_code 1 = .ok (.iload_n 1, 1) := by decide +kernel
theorem lr_d_M_make_2 : decode prog_9_method_11_code 2 = .ok (.invokevirtual 115, 3) := by decide +kernel
theorem lr_d_M_make_5 : decode prog_9_method_11_code 5 = .ok (.ifCond .eq 11, 3) := by decide +kernel
theorem lr_d_M_make_8 : decode prog_9_method_11_code 8 = .ok (.iload_n 2, 1) := by decide +kernel
theorem lr_d_M_make_9 : decode prog_9_method_11_code 9 = .ok (.iconst 3, 1) := by decide +kernel
theorem lr_d_M_make_10 : decode prog_9_method_11_code 10 = .ok (.invokestatic 107, 3) := by decide +kernel
theorem lr_d_M_make_13 : decode prog_9_method_11_code 13 = .ok (.ifCond .ne 5, 3) := by decide +kernel
theorem lr_d_M_make_16 : decode prog_9_method_11_code 16 = .ok (.iconst (-1), 1) := by decide +kernel
theorem lr_d_M_make_17 : decode prog_9_method_11_code 17 = .ok (.ireturn, 1) := by decide +kernel
theorem lr_d_M_make_18 : decode prog_9_method_11_code 18 = .ok (.aload_n 0, 1) := by decide +kernel
theorem lr_d_M_make_19 : decode prog_9_method_11_code 19 = .ok (.iload_n 1, 1) := by decide +kernel
theorem lr_d_M_make_20 : decode prog_9_method_11_code 20 = .ok (.invokevirtual 130, 3) := by decide +kernel
theorem lr_d_M_make_23 : decode prog_9_method_11_code 23 = .ok (.istore_n 3, 1) := by decide +kernel
theorem lr_d_M_make_24 : decode prog_9_method_11_code 24 = .ok (.iload_n 3, 1) := by decide +kernel
theorem lr_d_M_make_25 : decode prog_9_method_11_code 25 = .ok (.ifCond .ge 5, 3) := by decide +kernel
theorem lr_d_M_make_28 : decode prog_9_method_11_code 28 = .ok (.iconst (-1), 1) := by decide +kernel
theorem lr_d_M_make_29 : decode prog_9_method_11_code 29 = .ok (.ireturn, 1) := by decide +kernel
theorem lr_d_M_make_30 : decode prog_9_method_11_code 30 = .ok (.aload_n 0, 1) := by decide +kernel
theorem lr_d_M_make_31 : decode prog_9_method_11_code 31 = .ok (.getfield 20, 3) := by decide +kernel
theorem lr_d_M_make_34 : decode prog_9_method_11_code 34 = .ok (.iload_n 3, 1) := by decide +kernel
theorem lr_d_M_make_35 : decode prog_9_method_11_code 35 = .ok (.iconst 1, 1) := by decide +kernel
theorem lr_d_M_make_36 : decode prog_9_method_11_code 36 = .ok (.iastore, 1) := by decide +kernel
theorem lr_d_M_make_37 : decode prog_9_method_11_code 37 = .ok (.aload_n 0, 1) := by decide +kernel
theorem lr_d_M_make_38 : decode prog_9_method_11_code 38 = .ok (.getfield 23, 3) := by decide +kernel
theorem lr_d_M_make_41 : decode prog_9_method_11_code 41 = .ok (.iload_n 3, 1) := by decide +kernel
theorem lr_d_M_make_42 : decode prog_9_method_11_code 42 = .ok (.aload_n 0, 1) := by decide +kernel
theorem lr_d_M_make_43 : decode prog_9_method_11_code 43 = .ok (.getfield 133, 3) := by decide +kernel
theorem lr_d_M_make_46 : decode prog_9_method_11_code 46 = .ok (.iastore, 1) := by decide +kernel
theorem lr_d_M_make_47 : decode prog_9_method_11_code 47 = .ok (.aload_n 0, 1) := by decide +kernel
theorem lr_d_M_make_48 : decode prog_9_method_11_code 48 = .ok (.getfield 26, 3) := by decide +kernel
theorem lr_d_M_make_51 : decode prog_9_method_11_code 51 = .ok (.iload_n 3, 1) := by decide +kernel
theorem lr_d_M_make_52 : decode prog_9_method_11_code 52 = .ok (.iconst 0, 1) := by decide +kernel
theorem lr_d_M_make_53 : decode prog_9_method_11_code 53 = .ok (.iastore, 1) := by decide +kernel
theorem lr_d_M_make_54 : decode prog_9_method_11_code 54 = .ok (.aload_n 0, 1) := by decide +kernel
theorem lr_d_M_make_55 : decode prog_9_method_11_code 55 = .ok (.getfield 29, 3) := by decide +kernel
theorem lr_d_M_make_58 : decode prog_9_method_11_code 58 = .ok (.iconst 2, 1) := by decide +kernel
theorem lr_d_M_make_59 : decode prog_9_method_11_code 59 = .ok (.iload_n 3, 1) := by decide +kernel
theorem lr_d_M_make_60 : decode prog_9_method_11_code 60 = .ok (.imul, 1) := by decide +kernel
theorem lr_d_M_make_61 : decode prog_9_method_11_code 61 = .ok (.iconst (-1), 1) := by decide +kernel
theorem lr_d_M_make_62 : decode prog_9_method_11_code 62 = .ok (.iastore, 1) := by decide +kernel
theorem lr_d_M_make_63 : decode prog_9_method_11_code 63 = .ok (.aload_n 0, 1) := by decide +kernel
theorem lr_d_M_make_64 : decode prog_9_method_11_code 64 = .ok (.getfield 29, 3) := by decide +kernel
theorem lr_d_M_make_67 : decode prog_9_method_11_code 67 = .ok (.iconst 2, 1) := by decide +kernel
theorem lr_d_M_make_68 : decode prog_9_method_11_code 68 = .ok (.iload_n 3, 1) := by decide +kernel
theorem lr_d_M_make_69 : decode prog_9_method_11_code 69 = .ok (.imul, 1) := by decide +kernel
theorem lr_d_M_make_70 : decode prog_9_method_11_code 70 = .ok (.iconst 1, 1) := by decide +kernel
theorem lr_d_M_make_71 : decode prog_9_method_11_code 71 = .ok (.iadd, 1) := by decide +kernel
theorem lr_d_M_make_72 : decode prog_9_method_11_code 72 = .ok (.iconst (-1), 1) := by decide +kernel
theorem lr_d_M_make_73 : decode prog_9_method_11_code 73 = .ok (.iastore, 1) := by decide +kernel
theorem lr_d_M_make_74 : decode prog_9_method_11_code 74 = .ok (.iconst 0, 1) := by decide +kernel
theorem lr_d_M_make_75 : decode prog_9_method_11_code 75 = .ok (.istore 4, 2) := by decide +kernel
theorem lr_d_M_make_77 : decode prog_9_method_11_code 77 = .ok (.iload 4, 2) := by decide +kernel
theorem lr_d_M_make_79 : decode prog_9_method_11_code 79 = .ok (.iconst 4, 1) := by decide +kernel
theorem lr_d_M_make_80 : decode prog_9_method_11_code 80 = .ok (.if_icmp .ge 33, 3) := by decide +kernel
theorem lr_d_M_make_83 : decode prog_9_method_11_code 83 = .ok (.aload_n 0, 1) := by decide +kernel
theorem lr_d_M_make_84 : decode prog_9_method_11_code 84 = .ok (.getfield 32, 3) := by decide +kernel
theorem lr_d_M_make_87 : decode prog_9_method_11_code 87 = .ok (.iconst 4, 1) := by decide +kernel
theorem lr_d_M_make_88 : decode prog_9_method_11_code 88 = .ok (.iload_n 3, 1) := by decide +kernel
theorem lr_d_M_make_89 : decode prog_9_method_11_code 89 = .ok (.imul, 1) := by decide +kernel
theorem lr_d_M_make_90 : decode prog_9_method_11_code 90 = .ok (.iload 4, 2) := by decide +kernel
theorem lr_d_M_make_92 : decode prog_9_method_11_code 92 = .ok (.iadd, 1) := by decide +kernel
theorem lr_d_M_make_93 : decode prog_9_method_11_code 93 = .ok (.iconst 0, 1) := by decide +kernel
theorem lr_d_M_make_94 : decode prog_9_method_11_code 94 = .ok (.iastore, 1) := by decide +kernel
theorem lr_d_M_make_95 : decode prog_9_method_11_code 95 = .ok (.aload_n 0, 1) := by decide +kernel
theorem lr_d_M_make_96 : decode prog_9_method_11_code 96 = .ok (.getfield 35, 3) := by decide +kernel
theorem lr_d_M_make_99 : decode prog_9_method_11_code 99 = .ok (.iconst 4, 1) := by decide +kernel
theorem lr_d_M_make_100 : decode prog_9_method_11_code 100 = .ok (.iload_n 3, 1) := by decide +kernel
theorem lr_d_M_make_101 : decode prog_9_method_11_code 101 = .ok (.imul, 1) := by decide +kernel
theorem lr_d_M_make_102 : decode prog_9_method_11_code 102 = .ok (.iload 4, 2) := by decide +kernel
theorem lr_d_M_make_104 : decode prog_9_method_11_code 104 = .ok (.iadd, 1) := by decide +kernel
theorem lr_d_M_make_105 : decode prog_9_method_11_code 105 = .ok (.iconst 0, 1) := by decide +kernel
theorem lr_d_M_make_106 : decode prog_9_method_11_code 106 = .ok (.iastore, 1) := by decide +kernel
theorem lr_d_M_make_107 : decode prog_9_method_11_code 107 = .ok (.iinc 4 1, 3) := by decide +kernel
theorem lr_d_M_make_110 : decode prog_9_method_11_code 110 = .ok (.goto (-33), 3) := by decide +kernel
theorem lr_d_M_make_113 : decode prog_9_method_11_code 113 = .ok (.aload_n 0, 1) := by decide +kernel
theorem lr_d_M_make_114 : decode prog_9_method_11_code 114 = .ok (.getfield 13, 3) := by decide +kernel
theorem lr_d_M_make_117 : decode prog_9_method_11_code 117 = .ok (.iconst 3, 1) := by decide +kernel
theorem lr_d_M_make_118 : decode prog_9_method_11_code 118 = .ok (.iload_n 1, 1) := by decide +kernel
theorem lr_d_M_make_119 : decode prog_9_method_11_code 119 = .ok (.imul, 1) := by decide +kernel
theorem lr_d_M_make_120 : decode prog_9_method_11_code 120 = .ok (.iload_n 2, 1) := by decide +kernel
theorem lr_d_M_make_121 : decode prog_9_method_11_code 121 = .ok (.iadd, 1) := by decide +kernel
theorem lr_d_M_make_122 : decode prog_9_method_11_code 122 = .ok (.iload_n 3, 1) := by decide +kernel
theorem lr_d_M_make_123 : decode prog_9_method_11_code 123 = .ok (.bipush 8, 2) := by decide +kernel
theorem lr_d_M_make_125 : decode prog_9_method_11_code 125 = .ok (.irem, 1) := by decide +kernel
theorem lr_d_M_make_126 : decode prog_9_method_11_code 126 = .ok (.iastore, 1) := by decide +kernel
theorem lr_d_M_make_127 : decode prog_9_method_11_code 127 = .ok (.aload_n 0, 1) := by decide +kernel
theorem lr_d_M_make_128 : decode prog_9_method_11_code 128 = .ok (.dup, 1) := by decide +kernel
theorem lr_d_M_make_129 : decode prog_9_method_11_code 129 = .ok (.getfield 133, 3) := by decide +kernel
theorem lr_d_M_make_132 : decode prog_9_method_11_code 132 = .ok (.iconst 1, 1) := by decide +kernel
theorem lr_d_M_make_133 : decode prog_9_method_11_code 133 = .ok (.iadd, 1) := by decide +kernel
theorem lr_d_M_make_134 : decode prog_9_method_11_code 134 = .ok (.putfield 133, 3) := by decide +kernel
theorem lr_d_M_make_137 : decode prog_9_method_11_code 137 = .ok (.aload_n 0, 1) := by decide +kernel
theorem lr_d_M_make_138 : decode prog_9_method_11_code 138 = .ok (.getfield 133, 3) := by decide +kernel
theorem lr_d_M_make_141 : decode prog_9_method_11_code 141 = .ok (.iconst 1, 1) := by decide +kernel
theorem lr_d_M_make_142 : decode prog_9_method_11_code 142 = .ok (.isub, 1) := by decide +kernel
theorem lr_d_M_make_143 : decode prog_9_method_11_code 143 = .ok (.ireturn, 1) := by decide +kernel
theorem lr_d_M_link_0 : decode prog_9_method_12_code 0 = .ok (.aload_n 0, 1) := by decide +kernel
theorem lr_d_M_link_1 : decode prog_9_method_12_code 1 = .ok (.iload_n 1, 1) := by decide +kernel
theorem lr_d_M_link_2 : decode prog_9_method_12_code 2 = .ok (.iload_n 2, 1) := by decide +kernel
theorem lr_d_M_link_3 : decode prog_9_method_12_code 3 = .ok (.invokevirtual 136, 3) := by decide +kernel
theorem lr_d_M_link_6 : decode prog_9_method_12_code 6 = .ok (.istore 5, 2) := by decide +kernel
theorem lr_d_M_link_8 : decode prog_9_method_12_code 8 = .ok (.iload 5, 2) := by decide +kernel
theorem lr_d_M_link_10 : decode prog_9_method_12_code 10 = .ok (.ifCond .lt 37, 3) := by decide +kernel
theorem lr_d_M_link_13 : decode prog_9_method_12_code 13 = .ok (.aload_n 0, 1) := by decide +kernel
theorem lr_d_M_link_14 : decode prog_9_method_12_code 14 = .ok (.getfield 20, 3) := by decide +kernel
theorem lr_d_M_link_17 : decode prog_9_method_12_code 17 = .ok (.iload 5, 2) := by decide +kernel
theorem lr_d_M_link_19 : decode prog_9_method_12_code 19 = .ok (.iaload, 1) := by decide +kernel
theorem lr_d_M_link_20 : decode prog_9_method_12_code 20 = .ok (.iconst 1, 1) := by decide +kernel
theorem lr_d_M_link_21 : decode prog_9_method_12_code 21 = .ok (.if_icmp .ne 26, 3) := by decide +kernel
theorem lr_d_M_link_24 : decode prog_9_method_12_code 24 = .ok (.iload_n 3, 1) := by decide +kernel
theorem lr_d_M_link_25 : decode prog_9_method_12_code 25 = .ok (.iconst 2, 1) := by decide +kernel
theorem lr_d_M_link_26 : decode prog_9_method_12_code 26 = .ok (.invokestatic 107, 3) := by decide +kernel
theorem lr_d_M_link_29 : decode prog_9_method_12_code 29 = .ok (.ifCond .eq 18, 3) := by decide +kernel
theorem lr_d_M_link_32 : decode prog_9_method_12_code 32 = .ok (.iload 4, 2) := by decide +kernel
theorem lr_d_M_link_34 : decode prog_9_method_12_code 34 = .ok (.iconst (-1), 1) := by decide +kernel
theorem lr_d_M_link_35 : decode prog_9_method_12_code 35 = .ok (.if_icmp .eq 14, 3) := by decide +kernel
theorem lr_d_M_link_38 : decode prog_9_method_12_code 38 = .ok (.iload 4, 2) := by decide +kernel
theorem lr_d_M_link_40 : decode prog_9_method_12_code 40 = .ok (.iconst 3, 1) := by decide +kernel
theorem lr_d_M_link_41 : decode prog_9_method_12_code 41 = .ok (.invokestatic 107, 3) := by decide +kernel
theorem lr_d_M_link_44 : decode prog_9_method_12_code 44 = .ok (.ifCond .ne 5, 3) := by decide +kernel
theorem lr_d_M_link_47 : decode prog_9_method_12_code 47 = .ok (.iconst 0, 1) := by decide +kernel
theorem lr_d_M_link_48 : decode prog_9_method_12_code 48 = .ok (.ireturn, 1) := by decide +kernel
theorem lr_d_M_link_49 : decode prog_9_method_12_code 49 = .ok (.aload_n 0, 1) := by decide +kernel
theorem lr_d_M_link_50 : decode prog_9_method_12_code 50 = .ok (.getfield 29, 3) := by decide +kernel
theorem lr_d_M_link_53 : decode prog_9_method_12_code 53 = .ok (.iconst 2, 1) := by decide +kernel
theorem lr_d_M_link_54 : decode prog_9_method_12_code 54 = .ok (.iload 5, 2) := by decide +kernel
theorem lr_d_M_link_56 : decode prog_9_method_12_code 56 = .ok (.imul, 1) := by decide +kernel
theorem lr_d_M_link_57 : decode prog_9_method_12_code 57 = .ok (.iload_n 3, 1) := by decide +kernel
theorem lr_d_M_link_58 : decode prog_9_method_12_code 58 = .ok (.iadd, 1) := by decide +kernel
theorem lr_d_M_link_59 : decode prog_9_method_12_code 59 = .ok (.iload 4, 2) := by decide +kernel
theorem lr_d_M_link_61 : decode prog_9_method_12_code 61 = .ok (.iconst (-1), 1) := by decide +kernel
theorem lr_d_M_link_62 : decode prog_9_method_12_code 62 = .ok (.if_icmp .ne 7, 3) := by decide +kernel
theorem lr_d_M_link_65 : decode prog_9_method_12_code 65 = .ok (.iconst (-1), 1) := by decide +kernel
theorem lr_d_M_link_66 : decode prog_9_method_12_code 66 = .ok (.goto 14, 3) := by decide +kernel
theorem lr_d_M_link_69 : decode prog_9_method_12_code 69 = .ok (.aload_n 0, 1) := by decide +kernel
theorem lr_d_M_link_70 : decode prog_9_method_12_code 70 = .ok (.getfield 13, 3) := by decide +kernel
theorem lr_d_M_link_73 : decode prog_9_method_12_code 73 = .ok (.iconst 3, 1) := by decide +kernel
theorem lr_d_M_link_74 : decode prog_9_method_12_code 74 = .ok (.iload_n 1, 1) := by decide +kernel
theorem lr_d_M_link_75 : decode prog_9_method_12_code 75 = .ok (.imul, 1) := by decide +kernel
theorem lr_d_M_link_76 : decode prog_9_method_12_code 76 = .ok (.iload 4, 2) := by decide +kernel
theorem lr_d_M_link_78 : decode prog_9_method_12_code 78 = .ok (.iadd, 1) := by decide +kernel
theorem lr_d_M_link_79 : decode prog_9_method_12_code 79 = .ok (.iaload, 1) := by decide +kernel
theorem lr_d_M_link_80 : decode prog_9_method_12_code 80 = .ok (.iastore, 1) := by decide +kernel
theorem lr_d_M_link_81 : decode prog_9_method_12_code 81 = .ok (.iconst 1, 1) := by decide +kernel
theorem lr_d_M_link_82 : decode prog_9_method_12_code 82 = .ok (.ireturn, 1) := by decide +kernel
theorem lr_d_M_fetch_0 : decode prog_9_method_13_code 0 = .ok (.aload_n 0, 1) := by decide +kernel
theorem lr_d_M_fetch_1 : decode prog_9_method_13_code 1 = .ok (.iload_n 1, 1) := by decide +kernel
theorem lr_d_M_fetch_2 : decode prog_9_method_13_code 2 = .ok (.iload_n 2, 1) := by decide +kernel
theorem lr_d_M_fetch_3 : decode prog_9_method_13_code 3 = .ok (.invokevirtual 136, 3) := by decide +kernel
theorem lr_d_M_fetch_6 : decode prog_9_method_13_code 6 = .ok (.istore 5, 2) := by decide +kernel
theorem lr_d_M_fetch_8 : decode prog_9_method_13_code 8 = .ok (.iload 5, 2) := by decide +kernel
theorem lr_d_M_fetch_10 : decode prog_9_method_13_code 10 = .ok (.ifCond .lt 31, 3) := by decide +kernel
theorem lr_d_M_fetch_13 : decode prog_9_method_13_code 13 = .ok (.aload_n 0, 1) := by decide +kernel
theorem lr_d_M_fetch_14 : decode prog_9_method_13_code 14 = .ok (.getfield 20, 3) := by decide +kernel
theorem lr_d_M_fetch_17 : decode prog_9_method_13_code 17 = .ok (.iload 5, 2) := by decide +kernel
theorem lr_d_M_fetch_19 : decode prog_9_method_13_code 19 = .ok (.iaload, 1) := by decide +kernel
theorem lr_d_M_fetch_20 : decode prog_9_method_13_code 20 = .ok (.iconst 1, 1) := by decide +kernel
theorem lr_d_M_fetch_21 : decode prog_9_method_13_code 21 = .ok (.if_icmp .ne 20, 3) := by decide +kernel
theorem lr_d_M_fetch_24 : decode prog_9_method_13_code 24 = .ok (.iload_n 3, 1) := by decide +kernel
theorem lr_d_M_fetch_25 : decode prog_9_method_13_code 25 = .ok (.iconst 2, 1) := by decide +kernel
theorem lr_d_M_fetch_26 : decode prog_9_method_13_code 26 = .ok (.invokestatic 107, 3) := by decide +kernel
theorem lr_d_M_fetch_29 : decode prog_9_method_13_code 29 = .ok (.ifCond .eq 12, 3) := by decide +kernel
theorem lr_d_M_fetch_32 : decode prog_9_method_13_code 32 = .ok (.iload 4, 2) := by decide +kernel
theorem lr_d_M_fetch_34 : decode prog_9_method_13_code 34 = .ok (.iconst 3, 1) := by decide +kernel
theorem lr_d_M_fetch_35 : decode prog_9_method_13_code 35 = .ok (.invokestatic 107, 3) := by decide +kernel
theorem lr_d_M_fetch_38 : decode prog_9_method_13_code 38 = .ok (.ifCond .ne 5, 3) := by decide +kernel
theorem lr_d_M_fetch_41 : decode prog_9_method_13_code 41 = .ok (.iconst 0, 1) := by decide +kernel
theorem lr_d_M_fetch_42 : decode prog_9_method_13_code 42 = .ok (.ireturn, 1) := by decide +kernel
theorem lr_d_M_fetch_43 : decode prog_9_method_13_code 43 = .ok (.aload_n 0, 1) := by decide +kernel
theorem lr_d_M_fetch_44 : decode prog_9_method_13_code 44 = .ok (.getfield 13, 3) := by decide +kernel
theorem lr_d_M_fetch_47 : decode prog_9_method_13_code 47 = .ok (.iconst 3, 1) := by decide +kernel
theorem lr_d_M_fetch_48 : decode prog_9_method_13_code 48 = .ok (.iload_n 1, 1) := by decide +kernel
theorem lr_d_M_fetch_49 : decode prog_9_method_13_code 49 = .ok (.imul, 1) := by decide +kernel
theorem lr_d_M_fetch_50 : decode prog_9_method_13_code 50 = .ok (.iload 4, 2) := by decide +kernel
theorem lr_d_M_fetch_52 : decode prog_9_method_13_code 52 = .ok (.iadd, 1) := by decide +kernel
theorem lr_d_M_fetch_53 : decode prog_9_method_13_code 53 = .ok (.aload_n 0, 1) := by decide +kernel
theorem lr_d_M_fetch_54 : decode prog_9_method_13_code 54 = .ok (.getfield 29, 3) := by decide +kernel
theorem lr_d_M_fetch_57 : decode prog_9_method_13_code 57 = .ok (.iconst 2, 1) := by decide +kernel
theorem lr_d_M_fetch_58 : decode prog_9_method_13_code 58 = .ok (.iload 5, 2) := by decide +kernel
theorem lr_d_M_fetch_60 : decode prog_9_method_13_code 60 = .ok (.imul, 1) := by decide +kernel
theorem lr_d_M_fetch_61 : decode prog_9_method_13_code 61 = .ok (.iload_n 3, 1) := by decide +kernel
theorem lr_d_M_fetch_62 : decode prog_9_method_13_code 62 = .ok (.iadd, 1) := by decide +kernel
theorem lr_d_M_fetch_63 : decode prog_9_method_13_code 63 = .ok (.iaload, 1) := by decide +kernel
theorem lr_d_M_fetch_64 : decode prog_9_method_13_code 64 = .ok (.iastore, 1) := by decide +kernel
theorem lr_d_M_fetch_65 : decode prog_9_method_13_code 65 = .ok (.iconst 1, 1) := by decide +kernel
theorem lr_d_M_fetch_66 : decode prog_9_method_13_code 66 = .ok (.ireturn, 1) := by decide +kernel
theorem lr_d_M_drop_0 : decode prog_9_method_14_code 0 = .ok (.aload_n 0, 1) := by decide +kernel
theorem lr_d_M_drop_1 : decode prog_9_method_14_code 1 = .ok (.iload_n 1, 1) := by decide +kernel
theorem lr_d_M_drop_2 : decode prog_9_method_14_code 2 = .ok (.invokevirtual 115, 3) := by decide +kernel
theorem lr_d_M_drop_5 : decode prog_9_method_14_code 5 = .ok (.ifCond .eq 11, 3) := by decide +kernel
theorem lr_d_M_drop_8 : decode prog_9_method_14_code 8 = .ok (.iload_n 2, 1) := by decide +kernel
theorem lr_d_M_drop_9 : decode prog_9_method_14_code 9 = .ok (.iconst 3, 1) := by decide +kernel
theorem lr_d_M_drop_10 : decode prog_9_method_14_code 10 = .ok (.invokestatic 107, 3) := by decide +kernel
theorem lr_d_M_drop_13 : decode prog_9_method_14_code 13 = .ok (.ifCond .ne 5, 3) := by decide +kernel
theorem lr_d_M_drop_16 : decode prog_9_method_14_code 16 = .ok (.iconst 0, 1) := by decide +kernel
theorem lr_d_M_drop_17 : decode prog_9_method_14_code 17 = .ok (.ireturn, 1) := by decide +kernel
theorem lr_d_M_drop_18 : decode prog_9_method_14_code 18 = .ok (.aload_n 0, 1) := by decide +kernel
theorem lr_d_M_drop_19 : decode prog_9_method_14_code 19 = .ok (.getfield 13, 3) := by decide +kernel
theorem lr_d_M_drop_22 : decode prog_9_method_14_code 22 = .ok (.iconst 3, 1) := by decide +kernel
theorem lr_d_M_drop_23 : decode prog_9_method_14_code 23 = .ok (.iload_n 1, 1) := by decide +kernel
theorem lr_d_M_drop_24 : decode prog_9_method_14_code 24 = .ok (.imul, 1) := by decide +kernel
theorem lr_d_M_drop_25 : decode prog_9_method_14_code 25 = .ok (.iload_n 2, 1) := by decide +kernel
theorem lr_d_M_drop_26 : decode prog_9_method_14_code 26 = .ok (.iadd, 1) := by decide +kernel
theorem lr_d_M_drop_27 : decode prog_9_method_14_code 27 = .ok (.iconst (-1), 1) := by decide +kernel
theorem lr_d_M_drop_28 : decode prog_9_method_14_code 28 = .ok (.iastore, 1) := by decide +kernel
theorem lr_d_M_drop_29 : decode prog_9_method_14_code 29 = .ok (.iconst 1, 1) := by decide +kernel
theorem lr_d_M_drop_30 : decode prog_9_method_14_code 30 = .ok (.ireturn, 1) := by decide +kernel
theorem lr_d_M_pinned_0 : decode prog_9_method_15_code 0 = .ok (.aload_n 0, 1) := by decide +kernel
theorem lr_d_M_pinned_1 : decode prog_9_method_15_code 1 = .ok (.getfield 71, 3) := by decide +kernel
theorem lr_d_M_pinned_4 : decode prog_9_method_15_code 4 = .ok (.iload_n 1, 1) := by decide +kernel
theorem lr_d_M_pinned_5 : decode prog_9_method_15_code 5 = .ok (.baload, 1) := by decide +kernel
theorem lr_d_M_pinned_6 : decode prog_9_method_15_code 6 = .ok (.ifCond .ne 23, 3) := by decide +kernel
theorem lr_d_M_pinned_9 : decode prog_9_method_15_code 9 = .ok (.aload_n 0, 1) := by decide +kernel
theorem lr_d_M_pinned_10 : decode prog_9_method_15_code 10 = .ok (.getfield 119, 3) := by decide +kernel
theorem lr_d_M_pinned_13 : decode prog_9_method_15_code 13 = .ok (.aload_n 0, 1) := by decide +kernel
theorem lr_d_M_pinned_14 : decode prog_9_method_15_code 14 = .ok (.getfield 68, 3) := by decide +kernel
theorem lr_d_M_pinned_17 : decode prog_9_method_15_code 17 = .ok (.iload_n 1, 1) := by decide +kernel
theorem lr_d_M_pinned_18 : decode prog_9_method_15_code 18 = .ok (.iaload, 1) := by decide +kernel
theorem lr_d_M_pinned_19 : decode prog_9_method_15_code 19 = .ok (.bipush 24, 2) := by decide +kernel
theorem lr_d_M_pinned_21 : decode prog_9_method_15_code 21 = .ok (.iadd, 1) := by decide +kernel
theorem lr_d_M_pinned_22 : decode prog_9_method_15_code 22 = .ok (.if_icmp .ge 7, 3) := by decide +kernel
theorem lr_d_M_pinned_25 : decode prog_9_method_15_code 25 = .ok (.iconst 1, 1) := by decide +kernel
theorem lr_d_M_pinned_26 : decode prog_9_method_15_code 26 = .ok (.goto 4, 3) := by decide +kernel
theorem lr_d_M_pinned_29 : decode prog_9_method_15_code 29 = .ok (.iconst 0, 1) := by decide +kernel
theorem lr_d_M_pinned_30 : decode prog_9_method_15_code 30 = .ok (.ireturn, 1) := by decide +kernel
theorem lr_d_M_pinsOf_0 : decode prog_9_method_16_code 0 = .ok (.iconst 0, 1) := by decide +kernel
theorem lr_d_M_pinsOf_1 : decode prog_9_method_16_code 1 = .ok (.istore_n 2, 1) := by decide +kernel
theorem lr_d_M_pinsOf_2 : decode prog_9_method_16_code 2 = .ok (.iconst 0, 1) := by decide +kernel
theorem lr_d_M_pinsOf_3 : decode prog_9_method_16_code 3 = .ok (.istore_n 3, 1) := by decide +kernel
theorem lr_d_M_pinsOf_4 : decode prog_9_method_16_code 4 = .ok (.iload_n 3, 1) := by decide +kernel
theorem lr_d_M_pinsOf_5 : decode prog_9_method_16_code 5 = .ok (.aload_n 0, 1) := by decide +kernel
theorem lr_d_M_pinsOf_6 : decode prog_9_method_16_code 6 = .ok (.getfield 140, 3) := by decide +kernel
theorem lr_d_M_pinsOf_9 : decode prog_9_method_16_code 9 = .ok (.if_icmp .ge 38, 3) := by decide +kernel
theorem lr_d_M_pinsOf_12 : decode prog_9_method_16_code 12 = .ok (.aload_n 0, 1) := by decide +kernel
theorem lr_d_M_pinsOf_13 : decode prog_9_method_16_code 13 = .ok (.getfield 65, 3) := by decide +kernel
theorem lr_d_M_pinsOf_16 : decode prog_9_method_16_code 16 = .ok (.iload_n 3, 1) := by decide +kernel
theorem lr_d_M_pinsOf_17 : decode prog_9_method_16_code 17 = .ok (.iaload, 1) := by decide +kernel
theorem lr_d_M_pinsOf_18 : decode prog_9_method_16_code 18 = .ok (.bipush 8, 2) := by decide +kernel
theorem lr_d_M_pinsOf_20 : decode prog_9_method_16_code 20 = .ok (.idiv, 1) := by decide +kernel
theorem lr_d_M_pinsOf_21 : decode prog_9_method_16_code 21 = .ok (.iload_n 1, 1) := by decide +kernel
theorem lr_d_M_pinsOf_22 : decode prog_9_method_16_code 22 = .ok (.if_icmp .ne 17, 3) := by decide +kernel
theorem lr_d_M_pinsOf_25 : decode prog_9_method_16_code 25 = .ok (.aload_n 0, 1) := by decide +kernel
theorem lr_d_M_pinsOf_26 : decode prog_9_method_16_code 26 = .ok (.iload_n 3, 1) := by decide +kernel
theorem lr_d_M_pinsOf_27 : decode prog_9_method_16_code 27 = .ok (.invokevirtual 143, 3) := by decide +kernel
theorem lr_d_M_pinsOf_30 : decode prog_9_method_16_code 30 = .ok (.ifCond .eq 9, 3) := by decide +kernel
theorem lr_d_M_pinsOf_33 : decode prog_9_method_16_code 33 = .ok (.iload_n 2, 1) := by decide +kernel
theorem lr_d_M_pinsOf_34 : decode prog_9_method_16_code 34 = .ok (.iconst 1, 1) := by decide +kernel
theorem lr_d_M_pinsOf_35 : decode prog_9_method_16_code 35 = .ok (.iadd, 1) := by decide +kernel
theorem lr_d_M_pinsOf_36 : decode prog_9_method_16_code 36 = .ok (.goto 4, 3) := by decide +kernel
theorem lr_d_M_pinsOf_39 : decode prog_9_method_16_code 39 = .ok (.iload_n 2, 1) := by decide +kernel
theorem lr_d_M_pinsOf_40 : decode prog_9_method_16_code 40 = .ok (.istore_n 2, 1) := by decide +kernel
theorem lr_d_M_pinsOf_41 : decode prog_9_method_16_code 41 = .ok (.iinc 3 1, 3) := by decide +kernel
theorem lr_d_M_pinsOf_44 : decode prog_9_method_16_code 44 = .ok (.goto (-40), 3) := by decide +kernel
theorem lr_d_M_pinsOf_47 : decode prog_9_method_16_code 47 = .ok (.iload_n 2, 1) := by decide +kernel
theorem lr_d_M_pinsOf_48 : decode prog_9_method_16_code 48 = .ok (.ireturn, 1) := by decide +kernel
theorem lr_d_M_pass_0 : decode prog_9_method_17_code 0 = .ok (.aload_n 0, 1) := by decide +kernel
theorem lr_d_M_pass_1 : decode prog_9_method_17_code 1 = .ok (.iload_n 1, 1) := by decide +kernel
theorem lr_d_M_pass_2 : decode prog_9_method_17_code 2 = .ok (.iload_n 2, 1) := by decide +kernel
theorem lr_d_M_pass_3 : decode prog_9_method_17_code 3 = .ok (.invokevirtual 136, 3) := by decide +kernel
theorem lr_d_M_pass_6 : decode prog_9_method_17_code 6 = .ok (.istore 5, 2) := by decide +kernel
theorem lr_d_M_pass_8 : decode prog_9_method_17_code 8 = .ok (.iload 5, 2) := by decide +kernel
theorem lr_d_M_pass_10 : decode prog_9_method_17_code 10 = .ok (.ifCond .lt 35, 3) := by decide +kernel
theorem lr_d_M_pass_13 : decode prog_9_method_17_code 13 = .ok (.iload_n 3, 1) := by decide +kernel
theorem lr_d_M_pass_14 : decode prog_9_method_17_code 14 = .ok (.iconst 4, 1) := by decide +kernel
theorem lr_d_M_pass_15 : decode prog_9_method_17_code 15 = .ok (.invokestatic 107, 3) := by decide +kernel
theorem lr_d_M_pass_18 : decode prog_9_method_17_code 18 = .ok (.ifCond .eq 27, 3) := by decide +kernel
theorem lr_d_M_pass_21 : decode prog_9_method_17_code 21 = .ok (.iload_n 3, 1) := by decide +kernel
theorem lr_d_M_pass_22 : decode prog_9_method_17_code 22 = .ok (.iload_n 1, 1) := by decide +kernel
theorem lr_d_M_pass_23 : decode prog_9_method_17_code 23 = .ok (.if_icmp .eq 22, 3) := by decide +kernel
theorem lr_d_M_pass_26 : decode prog_9_method_17_code 26 = .ok (.iload 4, 2) := by decide +kernel
theorem lr_d_M_pass_28 : decode prog_9_method_17_code 28 = .ok (.iconst 3, 1) := by decide +kernel
theorem lr_d_M_pass_29 : decode prog_9_method_17_code 29 = .ok (.invokestatic 107, 3) := by decide +kernel
theorem lr_d_M_pass_32 : decode prog_9_method_17_code 32 = .ok (.ifCond .eq 13, 3) := by decide +kernel
theorem lr_d_M_pass_35 : decode prog_9_method_17_code 35 = .ok (.aload_n 0, 1) := by decide +kernel
theorem lr_d_M_pass_36 : decode prog_9_method_17_code 36 = .ok (.iload_n 1, 1) := by decide +kernel
theorem lr_d_M_pass_37 : decode prog_9_method_17_code 37 = .ok (.invokevirtual 146, 3) := by decide +kernel
theorem lr_d_M_pass_40 : decode prog_9_method_17_code 40 = .ok (.bipush 6, 2) := by decide +kernel
theorem lr_d_M_pass_42 : decode prog_9_method_17_code 42 = .ok (.if_icmp .lt 5, 3) := by decide +kernel
theorem lr_d_M_pass_45 : decode prog_9_method_17_code 45 = .ok (.iconst (-1), 1) := by decide +kernel
theorem lr_d_M_pass_46 : decode prog_9_method_17_code 46 = .ok (.ireturn, 1) := by decide +kernel
theorem lr_d_M_pass_47 : decode prog_9_method_17_code 47 = .ok (.aload_n 0, 1) := by decide +kernel
theorem lr_d_M_pass_48 : decode prog_9_method_17_code 48 = .ok (.getfield 20, 3) := by decide +kernel
theorem lr_d_M_pass_51 : decode prog_9_method_17_code 51 = .ok (.iload 5, 2) := by decide +kernel
theorem lr_d_M_pass_53 : decode prog_9_method_17_code 53 = .ok (.iaload, 1) := by decide +kernel
theorem lr_d_M_pass_54 : decode prog_9_method_17_code 54 = .ok (.iconst 2, 1) := by decide +kernel
theorem lr_d_M_pass_55 : decode prog_9_method_17_code 55 = .ok (.if_icmp .ne 25, 3) := by decide +kernel
theorem lr_d_M_pass_58 : decode prog_9_method_17_code 58 = .ok (.aload_n 0, 1) := by decide +kernel
theorem lr_d_M_pass_59 : decode prog_9_method_17_code 59 = .ok (.getfield 50, 3) := by decide +kernel
theorem lr_d_M_pass_62 : decode prog_9_method_17_code 62 = .ok (.iload 5, 2) := by decide +kernel
theorem lr_d_M_pass_64 : decode prog_9_method_17_code 64 = .ok (.baload, 1) := by decide +kernel
theorem lr_d_M_pass_65 : decode prog_9_method_17_code 65 = .ok (.ifCond .eq 12, 3) := by decide +kernel
theorem lr_d_M_pass_68 : decode prog_9_method_17_code 68 = .ok (.aload_n 0, 1) := by decide +kernel
theorem lr_d_M_pass_69 : decode prog_9_method_17_code 69 = .ok (.iload 5, 2) := by decide +kernel
theorem lr_d_M_pass_71 : decode prog_9_method_17_code 71 = .ok (.invokevirtual 149, 3) := by decide +kernel
theorem lr_d_M_pass_74 : decode prog_9_method_17_code 74 = .ok (.ifCond .eq 6, 3) := by decide +kernel
theorem lr_d_M_pass_77 : decode prog_9_method_17_code 77 = .ok (.bipush (-2), 2) := by decide +kernel
theorem lr_d_M_pass_79 : decode prog_9_method_17_code 79 = .ok (.ireturn, 1) := by decide +kernel
theorem lr_d_M_pass_80 : decode prog_9_method_17_code 80 = .ok (.aload_n 0, 1) := by decide +kernel
theorem lr_d_M_pass_81 : decode prog_9_method_17_code 81 = .ok (.getfield 20, 3) := by decide +kernel
theorem lr_d_M_pass_84 : decode prog_9_method_17_code 84 = .ok (.iload 5, 2) := by decide +kernel
theorem lr_d_M_pass_86 : decode prog_9_method_17_code 86 = .ok (.iaload, 1) := by decide +kernel
theorem lr_d_M_pass_87 : decode prog_9_method_17_code 87 = .ok (.iconst 1, 1) := by decide +kernel
theorem lr_d_M_pass_88 : decode prog_9_method_17_code 88 = .ok (.if_icmp .ne 7, 3) := by decide +kernel
theorem lr_d_M_pass_91 : decode prog_9_method_17_code 91 = .ok (.iload_n 1, 1) := by decide +kernel
theorem lr_d_M_pass_92 : decode prog_9_method_17_code 92 = .ok (.goto 10, 3) := by decide +kernel
theorem lr_d_M_pass_95 : decode prog_9_method_17_code 95 = .ok (.aload_n 0, 1) := by decide +kernel
theorem lr_d_M_pass_96 : decode prog_9_method_17_code 96 = .ok (.getfield 38, 3) := by decide +kernel
theorem lr_d_M_pass_99 : decode prog_9_method_17_code 99 = .ok (.iload 5, 2) := by decide +kernel
theorem lr_d_M_pass_101 : decode prog_9_method_17_code 101 = .ok (.iaload, 1) := by decide +kernel
theorem lr_d_M_pass_102 : decode prog_9_method_17_code 102 = .ok (.istore 6, 2) := by decide +kernel
theorem lr_d_M_pass_104 : decode prog_9_method_17_code 104 = .ok (.aload_n 0, 1) := by decide +kernel
theorem lr_d_M_pass_105 : decode prog_9_method_17_code 105 = .ok (.getfield 65, 3) := by decide +kernel
theorem lr_d_M_pass_108 : decode prog_9_method_17_code 108 = .ok (.aload_n 0, 1) := by decide +kernel
theorem lr_d_M_pass_109 : decode prog_9_method_17_code 109 = .ok (.getfield 140, 3) := by decide +kernel
theorem lr_d_M_pass_112 : decode prog_9_method_17_code 112 = .ok (.iload 5, 2) := by decide +kernel
theorem lr_d_M_pass_114 : decode prog_9_method_17_code 114 = .ok (.iastore, 1) := by decide +kernel
theorem lr_d_M_pass_115 : decode prog_9_method_17_code 115 = .ok (.aload_n 0, 1) := by decide +kernel
theorem lr_d_M_pass_116 : decode prog_9_method_17_code 116 = .ok (.getfield 68, 3) := by decide +kernel
theorem lr_d_M_pass_119 : decode prog_9_method_17_code 119 = .ok (.aload_n 0, 1) := by decide +kernel
theorem lr_d_M_pass_120 : decode prog_9_method_17_code 120 = .ok (.getfield 140, 3) := by decide +kernel
theorem lr_d_M_pass_123 : decode prog_9_method_17_code 123 = .ok (.aload_n 0, 1) := by decide +kernel
theorem lr_d_M_pass_124 : decode prog_9_method_17_code 124 = .ok (.getfield 119, 3) := by decide +kernel
theorem lr_d_M_pass_127 : decode prog_9_method_17_code 127 = .ok (.iastore, 1) := by decide +kernel
theorem lr_d_M_pass_128 : decode prog_9_method_17_code 128 = .ok (.aload_n 0, 1) := by decide +kernel
theorem lr_d_M_pass_129 : decode prog_9_method_17_code 129 = .ok (.iconst 0, 1) := by decide +kernel
theorem lr_d_M_pass_130 : decode prog_9_method_17_code 130 = .ok (.iload_n 1, 1) := by decide +kernel
theorem lr_d_M_pass_131 : decode prog_9_method_17_code 131 = .ok (.iload_n 3, 1) := by decide +kernel
theorem lr_d_M_pass_132 : decode prog_9_method_17_code 132 = .ok (.aload_n 0, 1) := by decide +kernel
theorem lr_d_M_pass_133 : decode prog_9_method_17_code 133 = .ok (.getfield 23, 3) := by decide +kernel
theorem lr_d_M_pass_136 : decode prog_9_method_17_code 136 = .ok (.iload 5, 2) := by decide +kernel
theorem lr_d_M_pass_138 : decode prog_9_method_17_code 138 = .ok (.iaload, 1) := by decide +kernel
theorem lr_d_M_pass_139 : decode prog_9_method_17_code 139 = .ok (.aload_n 0, 1) := by decide +kernel
theorem lr_d_M_pass_140 : decode prog_9_method_17_code 140 = .ok (.getfield 140, 3) := by decide +kernel
theorem lr_d_M_pass_143 : decode prog_9_method_17_code 143 = .ok (.iconst 4, 1) := by decide +kernel
theorem lr_d_M_pass_144 : decode prog_9_method_17_code 144 = .ok (.iload 4, 2) := by decide +kernel
theorem lr_d_M_pass_146 : decode prog_9_method_17_code 146 = .ok (.imul, 1) := by decide +kernel
theorem lr_d_M_pass_147 : decode prog_9_method_17_code 147 = .ok (.iload 6, 2) := by decide +kernel
theorem lr_d_M_pass_149 : decode prog_9_method_17_code 149 = .ok (.iadd, 1) := by decide +kernel
theorem lr_d_M_pass_150 : decode prog_9_method_17_code 150 = .ok (.invokevirtual 126, 3) := by decide +kernel
theorem lr_d_M_pass_153 : decode prog_9_method_17_code 153 = .ok (.aload_n 0, 1) := by decide +kernel
theorem lr_d_M_pass_154 : decode prog_9_method_17_code 154 = .ok (.dup, 1) := by decide +kernel
theorem lr_d_M_pass_155 : decode prog_9_method_17_code 155 = .ok (.getfield 140, 3) := by decide +kernel
theorem lr_d_M_pass_158 : decode prog_9_method_17_code 158 = .ok (.iconst 1, 1) := by decide +kernel
theorem lr_d_M_pass_159 : decode prog_9_method_17_code 159 = .ok (.iadd, 1) := by decide +kernel
theorem lr_d_M_pass_160 : decode prog_9_method_17_code 160 = .ok (.putfield 140, 3) := by decide +kernel
theorem lr_d_M_pass_163 : decode prog_9_method_17_code 163 = .ok (.aload_n 0, 1) := by decide +kernel
theorem lr_d_M_pass_164 : decode prog_9_method_17_code 164 = .ok (.getfield 140, 3) := by decide +kernel
theorem lr_d_M_pass_167 : decode prog_9_method_17_code 167 = .ok (.iconst 1, 1) := by decide +kernel
theorem lr_d_M_pass_168 : decode prog_9_method_17_code 168 = .ok (.isub, 1) := by decide +kernel
theorem lr_d_M_pass_169 : decode prog_9_method_17_code 169 = .ok (.ireturn, 1) := by decide +kernel
theorem lr_d_M_sendCall_0 : decode prog_9_method_19_code 0 = .ok (.aload_n 0, 1) := by decide +kernel
theorem lr_d_M_sendCall_1 : decode prog_9_method_19_code 1 = .ok (.getfield 80, 3) := by decide +kernel
theorem lr_d_M_sendCall_4 : decode prog_9_method_19_code 4 = .ok (.iload_n 1, 1) := by decide +kernel
theorem lr_d_M_sendCall_5 : decode prog_9_method_19_code 5 = .ok (.iaload, 1) := by decide +kernel
theorem lr_d_M_sendCall_6 : decode prog_9_method_19_code 6 = .ok (.istore_n 2, 1) := by decide +kernel
theorem lr_d_M_sendCall_7 : decode prog_9_method_19_code 7 = .ok (.aload_n 0, 1) := by decide +kernel
theorem lr_d_M_sendCall_8 : decode prog_9_method_19_code 8 = .ok (.getfield 86, 3) := by decide +kernel
theorem lr_d_M_sendCall_11 : decode prog_9_method_19_code 11 = .ok (.iload_n 1, 1) := by decide +kernel
theorem lr_d_M_sendCall_12 : decode prog_9_method_19_code 12 = .ok (.aload_n 0, 1) := by decide +kernel
theorem lr_d_M_sendCall_13 : decode prog_9_method_19_code 13 = .ok (.getfield 119, 3) := by decide +kernel
theorem lr_d_M_sendCall_16 : decode prog_9_method_19_code 16 = .ok (.iastore, 1) := by decide +kernel
theorem lr_d_M_sendCall_17 : decode prog_9_method_19_code 17 = .ok (.aload_n 0, 1) := by decide +kernel
theorem lr_d_M_sendCall_18 : decode prog_9_method_19_code 18 = .ok (.bipush 6, 2) := by decide +kernel
theorem lr_d_M_sendCall_20 : decode prog_9_method_19_code 20 = .ok (.iload_n 1, 1) := by decide +kernel
theorem lr_d_M_sendCall_21 : decode prog_9_method_19_code 21 = .ok (.aload_n 0, 1) := by decide +kernel
theorem lr_d_M_sendCall_22 : decode prog_9_method_19_code 22 = .ok (.getfield 38, 3) := by decide +kernel
theorem lr_d_M_sendCall_25 : decode prog_9_method_19_code 25 = .ok (.iload_n 2, 1) := by decide +kernel
theorem lr_d_M_sendCall_26 : decode prog_9_method_19_code 26 = .ok (.iaload, 1) := by decide +kernel
theorem lr_d_M_sendCall_27 : decode prog_9_method_19_code 27 = .ok (.aload_n 0, 1) := by decide +kernel
theorem lr_d_M_sendCall_28 : decode prog_9_method_19_code 28 = .ok (.getfield 23, 3) := by decide +kernel
theorem lr_d_M_sendCall_31 : decode prog_9_method_19_code 31 = .ok (.iload_n 2, 1) := by decide +kernel
theorem lr_d_M_sendCall_32 : decode prog_9_method_19_code 32 = .ok (.iaload, 1) := by decide +kernel
theorem lr_d_M_sendCall_33 : decode prog_9_method_19_code 33 = .ok (.aload_n 0, 1) := by decide +kernel
theorem lr_d_M_sendCall_34 : decode prog_9_method_19_code 34 = .ok (.getfield 77, 3) := by decide +kernel
theorem lr_d_M_sendCall_37 : decode prog_9_method_19_code 37 = .ok (.iload_n 1, 1) := by decide +kernel
theorem lr_d_M_sendCall_38 : decode prog_9_method_19_code 38 = .ok (.iaload, 1) := by decide +kernel
theorem lr_d_M_sendCall_39 : decode prog_9_method_19_code 39 = .ok (.aload_n 0, 1) := by decide +kernel
theorem lr_d_M_sendCall_40 : decode prog_9_method_19_code 40 = .ok (.getfield 83, 3) := by decide +kernel
theorem lr_d_M_sendCall_43 : decode prog_9_method_19_code 43 = .ok (.iload_n 1, 1) := by decide +kernel
theorem lr_d_M_sendCall_44 : decode prog_9_method_19_code 44 = .ok (.iaload, 1) := by decide +kernel
theorem lr_d_M_sendCall_45 : decode prog_9_method_19_code 45 = .ok (.invokevirtual 126, 3) := by decide +kernel
theorem lr_d_M_sendCall_48 : decode prog_9_method_19_code 48 = .ok (.return_, 1) := by decide +kernel
theorem lr_d_M_call_0 : decode prog_9_method_18_code 0 = .ok (.aload_n 0, 1) := by decide +kernel
theorem lr_d_M_call_1 : decode prog_9_method_18_code 1 = .ok (.iload_n 1, 1) := by decide +kernel
theorem lr_d_M_call_2 : decode prog_9_method_18_code 2 = .ok (.iload_n 2, 1) := by decide +kernel
theorem lr_d_M_call_3 : decode prog_9_method_18_code 3 = .ok (.invokevirtual 136, 3) := by decide +kernel
theorem lr_d_M_call_6 : decode prog_9_method_18_code 6 = .ok (.istore 4, 2) := by decide +kernel
theorem lr_d_M_call_8 : decode prog_9_method_18_code 8 = .ok (.iload 4, 2) := by decide +kernel
theorem lr_d_M_call_10 : decode prog_9_method_18_code 10 = .ok (.ifCond .lt 24, 3) := by decide +kernel
theorem lr_d_M_call_13 : decode prog_9_method_18_code 13 = .ok (.aload_n 0, 1) := by decide +kernel
theorem lr_d_M_call_14 : decode prog_9_method_18_code 14 = .ok (.getfield 74, 3) := by decide +kernel
theorem lr_d_M_call_17 : decode prog_9_method_18_code 17 = .ok (.iload_n 1, 1) := by decide +kernel
theorem lr_d_M_call_18 : decode prog_9_method_18_code 18 = .ok (.iaload, 1) := by decide +kernel
theorem lr_d_M_call_19 : decode prog_9_method_18_code 19 = .ok (.iconst 1, 1) := by decide +kernel
theorem lr_d_M_call_20 : decode prog_9_method_18_code 20 = .ok (.if_icmp .eq 14, 3) := by decide +kernel
theorem lr_d_M_call_23 : decode prog_9_method_18_code 23 = .ok (.aload_n 0, 1) := by decide +kernel
theorem lr_d_M_call_24 : decode prog_9_method_18_code 24 = .ok (.getfield 20, 3) := by decide +kernel
theorem lr_d_M_call_27 : decode prog_9_method_18_code 27 = .ok (.iload 4, 2) := by decide +kernel
theorem lr_d_M_call_29 : decode prog_9_method_18_code 29 = .ok (.iaload, 1) := by decide +kernel
theorem lr_d_M_call_30 : decode prog_9_method_18_code 30 = .ok (.iconst 2, 1) := by decide +kernel
theorem lr_d_M_call_31 : decode prog_9_method_18_code 31 = .ok (.if_icmp .eq 5, 3) := by decide +kernel
theorem lr_d_M_call_34 : decode prog_9_method_18_code 34 = .ok (.iconst (-1), 1) := by decide +kernel
theorem lr_d_M_call_35 : decode prog_9_method_18_code 35 = .ok (.ireturn, 1) := by decide +kernel
theorem lr_d_M_call_36 : decode prog_9_method_18_code 36 = .ok (.aload_n 0, 1) := by decide +kernel
theorem lr_d_M_call_37 : decode prog_9_method_18_code 37 = .ok (.getfield 50, 3) := by decide +kernel
theorem lr_d_M_call_40 : decode prog_9_method_18_code 40 = .ok (.iload 4, 2) := by decide +kernel
theorem lr_d_M_call_42 : decode prog_9_method_18_code 42 = .ok (.baload, 1) := by decide +kernel
theorem lr_d_M_call_43 : decode prog_9_method_18_code 43 = .ok (.ifCond .eq 12, 3) := by decide +kernel
theorem lr_d_M_call_46 : decode prog_9_method_18_code 46 = .ok (.aload_n 0, 1) := by decide +kernel
theorem lr_d_M_call_47 : decode prog_9_method_18_code 47 = .ok (.iload 4, 2) := by decide +kernel
theorem lr_d_M_call_49 : decode prog_9_method_18_code 49 = .ok (.invokevirtual 149, 3) := by decide +kernel
theorem lr_d_M_call_52 : decode prog_9_method_18_code 52 = .ok (.ifCond .eq 6, 3) := by decide +kernel
theorem lr_d_M_call_55 : decode prog_9_method_18_code 55 = .ok (.bipush (-2), 2) := by decide +kernel
theorem lr_d_M_call_57 : decode prog_9_method_18_code 57 = .ok (.ireturn, 1) := by decide +kernel
theorem lr_d_M_call_58 : decode prog_9_method_18_code 58 = .ok (.aload_n 0, 1) := by decide +kernel
theorem lr_d_M_call_59 : decode prog_9_method_18_code 59 = .ok (.getfield 74, 3) := by decide +kernel
theorem lr_d_M_call_62 : decode prog_9_method_18_code 62 = .ok (.iload_n 1, 1) := by decide +kernel
theorem lr_d_M_call_63 : decode prog_9_method_18_code 63 = .ok (.iconst 1, 1) := by decide +kernel
theorem lr_d_M_call_64 : decode prog_9_method_18_code 64 = .ok (.iastore, 1) := by decide +kernel
theorem lr_d_M_call_65 : decode prog_9_method_18_code 65 = .ok (.aload_n 0, 1) := by decide +kernel
theorem lr_d_M_call_66 : decode prog_9_method_18_code 66 = .ok (.getfield 77, 3) := by decide +kernel
theorem lr_d_M_call_69 : decode prog_9_method_18_code 69 = .ok (.iload_n 1, 1) := by decide +kernel
theorem lr_d_M_call_70 : decode prog_9_method_18_code 70 = .ok (.dup2, 1) := by decide +kernel
theorem lr_d_M_call_71 : decode prog_9_method_18_code 71 = .ok (.iaload, 1) := by decide +kernel
theorem lr_d_M_call_72 : decode prog_9_method_18_code 72 = .ok (.iconst 1, 1) := by decide +kernel
theorem lr_d_M_call_73 : decode prog_9_method_18_code 73 = .ok (.iadd, 1) := by decide +kernel
theorem lr_d_M_call_74 : decode prog_9_method_18_code 74 = .ok (.iastore, 1) := by decide +kernel
theorem lr_d_M_call_75 : decode prog_9_method_18_code 75 = .ok (.aload_n 0, 1) := by decide +kernel
theorem lr_d_M_call_76 : decode prog_9_method_18_code 76 = .ok (.getfield 80, 3) := by decide +kernel
theorem lr_d_M_call_79 : decode prog_9_method_18_code 79 = .ok (.iload_n 1, 1) := by decide +kernel
theorem lr_d_M_call_80 : decode prog_9_method_18_code 80 = .ok (.iload 4, 2) := by decide +kernel
theorem lr_d_M_call_82 : decode prog_9_method_18_code 82 = .ok (.iastore, 1) := by decide +kernel
theorem lr_d_M_call_83 : decode prog_9_method_18_code 83 = .ok (.aload_n 0, 1) := by decide +kernel
theorem lr_d_M_call_84 : decode prog_9_method_18_code 84 = .ok (.getfield 83, 3) := by decide +kernel
theorem lr_d_M_call_87 : decode prog_9_method_18_code 87 = .ok (.iload_n 1, 1) := by decide +kernel
theorem lr_d_M_call_88 : decode prog_9_method_18_code 88 = .ok (.iload_n 3, 1) := by decide +kernel
theorem lr_d_M_call_89 : decode prog_9_method_18_code 89 = .ok (.iastore, 1) := by decide +kernel
theorem lr_d_M_call_90 : decode prog_9_method_18_code 90 = .ok (.aload_n 0, 1) := by decide +kernel
theorem lr_d_M_call_91 : decode prog_9_method_18_code 91 = .ok (.iload_n 1, 1) := by decide +kernel
theorem lr_d_M_call_92 : decode prog_9_method_18_code 92 = .ok (.invokevirtual 152, 3) := by decide +kernel
theorem lr_d_M_call_95 : decode prog_9_method_18_code 95 = .ok (.aload_n 0, 1) := by decide +kernel
theorem lr_d_M_call_96 : decode prog_9_method_18_code 96 = .ok (.getfield 77, 3) := by decide +kernel
theorem lr_d_M_call_99 : decode prog_9_method_18_code 99 = .ok (.iload_n 1, 1) := by decide +kernel
theorem lr_d_M_call_100 : decode prog_9_method_18_code 100 = .ok (.iaload, 1) := by decide +kernel
theorem lr_d_M_call_101 : decode prog_9_method_18_code 101 = .ok (.ireturn, 1) := by decide +kernel
