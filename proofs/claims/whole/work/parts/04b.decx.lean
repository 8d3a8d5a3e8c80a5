theorem lr_d_Node_receiveDirty_0 : decode prog_4_method_20_code 0 = .ok (.aload_n 1, 1) := by decide +kernel
theorem lr_d_Node_receiveDirty_1 : decode prog_4_method_20_code 1 = .ok (.getfield 181, 3) := by decide +kernel
theorem lr_d_Node_receiveDirty_4 : decode prog_4_method_20_code 4 = .ok (.istore_n 2, 1) := by decide +kernel
theorem lr_d_Node_receiveDirty_5 : decode prog_4_method_20_code 5 = .ok (.aload_n 0, 1) := by decide +kernel
theorem lr_d_Node_receiveDirty_6 : decode prog_4_method_20_code 6 = .ok (.aload_n 1, 1) := by decide +kernel
theorem lr_d_Node_receiveDirty_7 : decode prog_4_method_20_code 7 = .ok (.getfield 167, 3) := by decide +kernel
theorem lr_d_Node_receiveDirty_10 : decode prog_4_method_20_code 10 = .ok (.invokevirtual 168, 3) := by decide +kernel
theorem lr_d_Node_receiveDirty_13 : decode prog_4_method_20_code 13 = .ok (.istore_n 3, 1) := by decide +kernel
theorem lr_d_Node_receiveDirty_14 : decode prog_4_method_20_code 14 = .ok (.iload_n 3, 1) := by decide +kernel
theorem lr_d_Node_receiveDirty_15 : decode prog_4_method_20_code 15 = .ok (.iconst (-1), 1) := by decide +kernel
theorem lr_d_Node_receiveDirty_16 : decode prog_4_method_20_code 16 = .ok (.if_icmp .ne 30, 3) := by decide +kernel
theorem lr_d_Node_receiveDirty_19 : decode prog_4_method_20_code 19 = .ok (.aload_n 0, 1) := by decide +kernel
theorem lr_d_Node_receiveDirty_20 : decode prog_4_method_20_code 20 = .ok (.getfield 15, 3) := by decide +kernel
theorem lr_d_Node_receiveDirty_23 : decode prog_4_method_20_code 23 = .ok (.iconst 4, 1) := by decide +kernel
theorem lr_d_Node_receiveDirty_24 : decode prog_4_method_20_code 24 = .ok (.aload_n 0, 1) := by decide +kernel
theorem lr_d_Node_receiveDirty_25 : decode prog_4_method_20_code 25 = .ok (.getfield 9, 3) := by decide +kernel
theorem lr_d_Node_receiveDirty_28 : decode prog_4_method_20_code 28 = .ok (.iload_n 2, 1) := by decide +kernel
theorem lr_d_Node_receiveDirty_29 : decode prog_4_method_20_code 29 = .ok (.aload_n 1, 1) := by decide +kernel
theorem lr_d_Node_receiveDirty_30 : decode prog_4_method_20_code 30 = .ok (.getfield 167, 3) := by decide +kernel
theorem lr_d_Node_receiveDirty_33 : decode prog_4_method_20_code 33 = .ok (.aload_n 1, 1) := by decide +kernel
theorem lr_d_Node_receiveDirty_34 : decode prog_4_method_20_code 34 = .ok (.getfield 184, 3) := by decide +kernel
theorem lr_d_Node_receiveDirty_37 : decode prog_4_method_20_code 37 = .ok (.aload_n 1, 1) := by decide +kernel
theorem lr_d_Node_receiveDirty_38 : decode prog_4_method_20_code 38 = .ok (.getfield 171, 3) := by decide +kernel
theorem lr_d_Node_receiveDirty_41 : decode prog_4_method_20_code 41 = .ok (.invokevirtual 93, 3) := by decide +kernel
theorem lr_d_Node_receiveDirty_44 : decode prog_4_method_20_code 44 = .ok (.iconst 1, 1) := by decide +kernel
theorem lr_d_Node_receiveDirty_45 : decode prog_4_method_20_code 45 = .ok (.ireturn, 1) := by decide +kernel
theorem lr_d_Node_receiveDirty_46 : decode prog_4_method_20_code 46 = .ok (.aload_n 0, 1) := by decide +kernel
theorem lr_d_Node_receiveDirty_47 : decode prog_4_method_20_code 47 = .ok (.getfield 21, 3) := by decide +kernel
theorem lr_d_Node_receiveDirty_50 : decode prog_4_method_20_code 50 = .ok (.iload_n 3, 1) := by decide +kernel
theorem lr_d_Node_receiveDirty_51 : decode prog_4_method_20_code 51 = .ok (.aaload, 1) := by decide +kernel
theorem lr_d_Node_receiveDirty_52 : decode prog_4_method_20_code 52 = .ok (.astore 4, 2) := by decide +kernel
theorem lr_d_Node_receiveDirty_54 : decode prog_4_method_20_code 54 = .ok (.aload_n 1, 1) := by decide +kernel
theorem lr_d_Node_receiveDirty_55 : decode prog_4_method_20_code 55 = .ok (.getfield 184, 3) := by decide +kernel
theorem lr_d_Node_receiveDirty_58 : decode prog_4_method_20_code 58 = .ok (.aload 4, 2) := by decide +kernel
theorem lr_d_Node_receiveDirty_60 : decode prog_4_method_20_code 60 = .ok (.getfield 189, 3) := by decide +kernel
theorem lr_d_Node_receiveDirty_63 : decode prog_4_method_20_code 63 = .ok (.iload_n 2, 1) := by decide +kernel
theorem lr_d_Node_receiveDirty_64 : decode prog_4_method_20_code 64 = .ok (.iaload, 1) := by decide +kernel
theorem lr_d_Node_receiveDirty_65 : decode prog_4_method_20_code 65 = .ok (.if_icmp .le 34, 3) := by decide +kernel
theorem lr_d_Node_receiveDirty_68 : decode prog_4_method_20_code 68 = .ok (.aload 4, 2) := by decide +kernel
theorem lr_d_Node_receiveDirty_70 : decode prog_4_method_20_code 70 = .ok (.getfield 189, 3) := by decide +kernel
theorem lr_d_Node_receiveDirty_73 : decode prog_4_method_20_code 73 = .ok (.iload_n 2, 1) := by decide +kernel
theorem lr_d_Node_receiveDirty_74 : decode prog_4_method_20_code 74 = .ok (.aload_n 1, 1) := by decide +kernel
theorem lr_d_Node_receiveDirty_75 : decode prog_4_method_20_code 75 = .ok (.getfield 184, 3) := by decide +kernel
theorem lr_d_Node_receiveDirty_78 : decode prog_4_method_20_code 78 = .ok (.iastore, 1) := by decide +kernel
theorem lr_d_Node_receiveDirty_79 : decode prog_4_method_20_code 79 = .ok (.aload 4, 2) := by decide +kernel
theorem lr_d_Node_receiveDirty_81 : decode prog_4_method_20_code 81 = .ok (.getfield 192, 3) := by decide +kernel
theorem lr_d_Node_receiveDirty_84 : decode prog_4_method_20_code 84 = .ok (.iload_n 2, 1) := by decide +kernel
theorem lr_d_Node_receiveDirty_85 : decode prog_4_method_20_code 85 = .ok (.aload_n 0, 1) := by decide +kernel
theorem lr_d_Node_receiveDirty_86 : decode prog_4_method_20_code 86 = .ok (.getfield 15, 3) := by decide +kernel
theorem lr_d_Node_receiveDirty_89 : decode prog_4_method_20_code 89 = .ok (.getfield 71, 3) := by decide +kernel
theorem lr_d_Node_receiveDirty_92 : decode prog_4_method_20_code 92 = .ok (.bipush 24, 2) := by decide +kernel
theorem lr_d_Node_receiveDirty_94 : decode prog_4_method_20_code 94 = .ok (.iadd, 1) := by decide +kernel
theorem lr_d_Node_receiveDirty_95 : decode prog_4_method_20_code 95 = .ok (.iastore, 1) := by decide +kernel
theorem lr_d_Node_receiveDirty_96 : decode prog_4_method_20_code 96 = .ok (.goto 22, 3) := by decide +kernel
theorem lr_d_Node_receiveDirty_99 : decode prog_4_method_20_code 99 = .ok (.aload_n 0, 1) := by decide +kernel
theorem lr_d_Node_receiveDirty_100 : decode prog_4_method_20_code 100 = .ok (.getfield 15, 3) := by decide +kernel
theorem lr_d_Node_receiveDirty_103 : decode prog_4_method_20_code 103 = .ok (.getfield 71, 3) := by decide +kernel
theorem lr_d_Node_receiveDirty_106 : decode prog_4_method_20_code 106 = .ok (.aload 4, 2) := by decide +kernel
theorem lr_d_Node_receiveDirty_108 : decode prog_4_method_20_code 108 = .ok (.getfield 192, 3) := by decide +kernel
theorem lr_d_Node_receiveDirty_111 : decode prog_4_method_20_code 111 = .ok (.iload_n 2, 1) := by decide +kernel
theorem lr_d_Node_receiveDirty_112 : decode prog_4_method_20_code 112 = .ok (.iaload, 1) := by decide +kernel
theorem lr_d_Node_receiveDirty_113 : decode prog_4_method_20_code 113 = .ok (.if_icmp .lt 5, 3) := by decide +kernel
theorem lr_d_Node_receiveDirty_116 : decode prog_4_method_20_code 116 = .ok (.iconst 0, 1) := by decide +kernel
theorem lr_d_Node_receiveDirty_117 : decode prog_4_method_20_code 117 = .ok (.ireturn, 1) := by decide +kernel
theorem lr_d_Node_receiveDirty_118 : decode prog_4_method_20_code 118 = .ok (.aload_n 0, 1) := by decide +kernel
theorem lr_d_Node_receiveDirty_119 : decode prog_4_method_20_code 119 = .ok (.getfield 15, 3) := by decide +kernel
theorem lr_d_Node_receiveDirty_122 : decode prog_4_method_20_code 122 = .ok (.iconst 3, 1) := by decide +kernel
theorem lr_d_Node_receiveDirty_123 : decode prog_4_method_20_code 123 = .ok (.aload_n 0, 1) := by decide +kernel
theorem lr_d_Node_receiveDirty_124 : decode prog_4_method_20_code 124 = .ok (.getfield 9, 3) := by decide +kernel
theorem lr_d_Node_receiveDirty_127 : decode prog_4_method_20_code 127 = .ok (.iload_n 2, 1) := by decide +kernel
theorem lr_d_Node_receiveDirty_128 : decode prog_4_method_20_code 128 = .ok (.aload_n 1, 1) := by decide +kernel
theorem lr_d_Node_receiveDirty_129 : decode prog_4_method_20_code 129 = .ok (.getfield 167, 3) := by decide +kernel
theorem lr_d_Node_receiveDirty_132 : decode prog_4_method_20_code 132 = .ok (.aload_n 1, 1) := by decide +kernel
theorem lr_d_Node_receiveDirty_133 : decode prog_4_method_20_code 133 = .ok (.getfield 184, 3) := by decide +kernel
theorem lr_d_Node_receiveDirty_136 : decode prog_4_method_20_code 136 = .ok (.aload_n 1, 1) := by decide +kernel
theorem lr_d_Node_receiveDirty_137 : decode prog_4_method_20_code 137 = .ok (.getfield 171, 3) := by decide +kernel
theorem lr_d_Node_receiveDirty_140 : decode prog_4_method_20_code 140 = .ok (.invokevirtual 93, 3) := by decide +kernel
theorem lr_d_Node_receiveDirty_143 : decode prog_4_method_20_code 143 = .ok (.iconst 1, 1) := by decide +kernel
theorem lr_d_Node_receiveDirty_144 : decode prog_4_method_20_code 144 = .ok (.ireturn, 1) := by decide +kernel
theorem lr_d_Node_concerns_0 : decode prog_4_method_21_code 0 = .ok (.iload_n 2, 1) := by decide +kernel
theorem lr_d_Node_concerns_1 : decode prog_4_method_21_code 1 = .ok (.iconst (-1), 1) := by decide +kernel
theorem lr_d_Node_concerns_2 : decode prog_4_method_21_code 2 = .ok (.if_icmp .eq 42, 3) := by decide +kernel
theorem lr_d_Node_concerns_5 : decode prog_4_method_21_code 5 = .ok (.aload_n 0, 1) := by decide +kernel
theorem lr_d_Node_concerns_6 : decode prog_4_method_21_code 6 = .ok (.getfield 21, 3) := by decide +kernel
theorem lr_d_Node_concerns_9 : decode prog_4_method_21_code 9 = .ok (.iload_n 2, 1) := by decide +kernel
theorem lr_d_Node_concerns_10 : decode prog_4_method_21_code 10 = .ok (.aaload, 1) := by decide +kernel
theorem lr_d_Node_concerns_11 : decode prog_4_method_21_code 11 = .ok (.aload_n 0, 1) := by decide +kernel
theorem lr_d_Node_concerns_12 : decode prog_4_method_21_code 12 = .ok (.getfield 15, 3) := by decide +kernel
theorem lr_d_Node_concerns_15 : decode prog_4_method_21_code 15 = .ok (.getfield 71, 3) := by decide +kernel
theorem lr_d_Node_concerns_18 : decode prog_4_method_21_code 18 = .ok (.invokevirtual 132, 3) := by decide +kernel
theorem lr_d_Node_concerns_21 : decode prog_4_method_21_code 21 = .ok (.ifCond .eq 23, 3) := by decide +kernel
theorem lr_d_Node_concerns_24 : decode prog_4_method_21_code 24 = .ok (.aload_n 1, 1) := by decide +kernel
theorem lr_d_Node_concerns_25 : decode prog_4_method_21_code 25 = .ok (.getfield 184, 3) := by decide +kernel
theorem lr_d_Node_concerns_28 : decode prog_4_method_21_code 28 = .ok (.aload_n 0, 1) := by decide +kernel
theorem lr_d_Node_concerns_29 : decode prog_4_method_21_code 29 = .ok (.getfield 21, 3) := by decide +kernel
theorem lr_d_Node_concerns_32 : decode prog_4_method_21_code 32 = .ok (.iload_n 2, 1) := by decide +kernel
theorem lr_d_Node_concerns_33 : decode prog_4_method_21_code 33 = .ok (.aaload, 1) := by decide +kernel
theorem lr_d_Node_concerns_34 : decode prog_4_method_21_code 34 = .ok (.getfield 125, 3) := by decide +kernel
theorem lr_d_Node_concerns_37 : decode prog_4_method_21_code 37 = .ok (.if_icmp .lt 7, 3) := by decide +kernel
theorem lr_d_Node_concerns_40 : decode prog_4_method_21_code 40 = .ok (.iconst 1, 1) := by decide +kernel
theorem lr_d_Node_concerns_41 : decode prog_4_method_21_code 41 = .ok (.goto 4, 3) := by decide +kernel
theorem lr_d_Node_concerns_44 : decode prog_4_method_21_code 44 = .ok (.iconst 0, 1) := by decide +kernel
theorem lr_d_Node_concerns_45 : decode prog_4_method_21_code 45 = .ok (.ireturn, 1) := by decide +kernel
theorem lr_d_Node_receiveListed_0 : decode prog_4_method_22_code 0 = .ok (.aload_n 0, 1) := by decide +kernel
theorem lr_d_Node_receiveListed_1 : decode prog_4_method_22_code 1 = .ok (.aload_n 1, 1) := by decide +kernel
theorem lr_d_Node_receiveListed_2 : decode prog_4_method_22_code 2 = .ok (.getfield 167, 3) := by decide +kernel
theorem lr_d_Node_receiveListed_5 : decode prog_4_method_22_code 5 = .ok (.invokevirtual 168, 3) := by decide +kernel
theorem lr_d_Node_receiveListed_8 : decode prog_4_method_22_code 8 = .ok (.istore_n 2, 1) := by decide +kernel
theorem lr_d_Node_receiveListed_9 : decode prog_4_method_22_code 9 = .ok (.aload_n 0, 1) := by decide +kernel
theorem lr_d_Node_receiveListed_10 : decode prog_4_method_22_code 10 = .ok (.aload_n 1, 1) := by decide +kernel
theorem lr_d_Node_receiveListed_11 : decode prog_4_method_22_code 11 = .ok (.iload_n 2, 1) := by decide +kernel
theorem lr_d_Node_receiveListed_12 : decode prog_4_method_22_code 12 = .ok (.invokevirtual 195, 3) := by decide +kernel
theorem lr_d_Node_receiveListed_15 : decode prog_4_method_22_code 15 = .ok (.ifCond .ne 5, 3) := by decide +kernel
theorem lr_d_Node_receiveListed_18 : decode prog_4_method_22_code 18 = .ok (.iconst 0, 1) := by decide +kernel
theorem lr_d_Node_receiveListed_19 : decode prog_4_method_22_code 19 = .ok (.ireturn, 1) := by decide +kernel
theorem lr_d_Node_receiveListed_20 : decode prog_4_method_22_code 20 = .ok (.aload_n 0, 1) := by decide +kernel
theorem lr_d_Node_receiveListed_21 : decode prog_4_method_22_code 21 = .ok (.getfield 21, 3) := by decide +kernel
theorem lr_d_Node_receiveListed_24 : decode prog_4_method_22_code 24 = .ok (.iload_n 2, 1) := by decide +kernel
theorem lr_d_Node_receiveListed_25 : decode prog_4_method_22_code 25 = .ok (.aaload, 1) := by decide +kernel
theorem lr_d_Node_receiveListed_26 : decode prog_4_method_22_code 26 = .ok (.astore_n 3, 1) := by decide +kernel
theorem lr_d_Node_receiveListed_27 : decode prog_4_method_22_code 27 = .ok (.aload_n 3, 1) := by decide +kernel
theorem lr_d_Node_receiveListed_28 : decode prog_4_method_22_code 28 = .ok (.aload_n 3, 1) := by decide +kernel
theorem lr_d_Node_receiveListed_29 : decode prog_4_method_22_code 29 = .ok (.getfield 118, 3) := by decide +kernel
theorem lr_d_Node_receiveListed_32 : decode prog_4_method_22_code 32 = .ok (.aload_n 1, 1) := by decide +kernel
theorem lr_d_Node_receiveListed_33 : decode prog_4_method_22_code 33 = .ok (.getfield 171, 3) := by decide +kernel
theorem lr_d_Node_receiveListed_36 : decode prog_4_method_22_code 36 = .ok (.bipush 24, 2) := by decide +kernel
theorem lr_d_Node_receiveListed_38 : decode prog_4_method_22_code 38 = .ok (.iadd, 1) := by decide +kernel
theorem lr_d_Node_receiveListed_39 : decode prog_4_method_22_code 39 = .ok (.invokestatic 199, 3) := by decide +kernel
theorem lr_d_Node_receiveListed_42 : decode prog_4_method_22_code 42 = .ok (.putfield 118, 3) := by decide +kernel
theorem lr_d_Node_receiveListed_45 : decode prog_4_method_22_code 45 = .ok (.aload_n 3, 1) := by decide +kernel
theorem lr_d_Node_receiveListed_46 : decode prog_4_method_22_code 46 = .ok (.getfield 115, 3) := by decide +kernel
theorem lr_d_Node_receiveListed_49 : decode prog_4_method_22_code 49 = .ok (.ifCond .ne 33, 3) := by decide +kernel
theorem lr_d_Node_receiveListed_52 : decode prog_4_method_22_code 52 = .ok (.aload_n 3, 1) := by decide +kernel
theorem lr_d_Node_receiveListed_53 : decode prog_4_method_22_code 53 = .ok (.iconst 1, 1) := by decide +kernel
theorem lr_d_Node_receiveListed_54 : decode prog_4_method_22_code 54 = .ok (.putfield 115, 3) := by decide +kernel
theorem lr_d_Node_receiveListed_57 : decode prog_4_method_22_code 57 = .ok (.aload_n 0, 1) := by decide +kernel
theorem lr_d_Node_receiveListed_58 : decode prog_4_method_22_code 58 = .ok (.getfield 15, 3) := by decide +kernel
theorem lr_d_Node_receiveListed_61 : decode prog_4_method_22_code 61 = .ok (.iconst 1, 1) := by decide +kernel
theorem lr_d_Node_receiveListed_62 : decode prog_4_method_22_code 62 = .ok (.aload_n 0, 1) := by decide +kernel
theorem lr_d_Node_receiveListed_63 : decode prog_4_method_22_code 63 = .ok (.getfield 9, 3) := by decide +kernel
theorem lr_d_Node_receiveListed_66 : decode prog_4_method_22_code 66 = .ok (.aload_n 3, 1) := by decide +kernel
theorem lr_d_Node_receiveListed_67 : decode prog_4_method_22_code 67 = .ok (.getfield 205, 3) := by decide +kernel
theorem lr_d_Node_receiveListed_70 : decode prog_4_method_22_code 70 = .ok (.aload_n 3, 1) := by decide +kernel
theorem lr_d_Node_receiveListed_71 : decode prog_4_method_22_code 71 = .ok (.getfield 68, 3) := by decide +kernel
theorem lr_d_Node_receiveListed_74 : decode prog_4_method_22_code 74 = .ok (.aload_n 3, 1) := by decide +kernel
theorem lr_d_Node_receiveListed_75 : decode prog_4_method_22_code 75 = .ok (.getfield 208, 3) := by decide +kernel
theorem lr_d_Node_receiveListed_78 : decode prog_4_method_22_code 78 = .ok (.iconst 0, 1) := by decide +kernel
theorem lr_d_Node_receiveListed_79 : decode prog_4_method_22_code 79 = .ok (.invokevirtual 93, 3) := by decide +kernel
theorem lr_d_Node_receiveListed_82 : decode prog_4_method_22_code 82 = .ok (.iconst 1, 1) := by decide +kernel
theorem lr_d_Node_receiveListed_83 : decode prog_4_method_22_code 83 = .ok (.ireturn, 1) := by decide +kernel
theorem lr_d_Node_receiveGone_0 : decode prog_4_method_23_code 0 = .ok (.aload_n 0, 1) := by decide +kernel
theorem lr_d_Node_receiveGone_1 : decode prog_4_method_23_code 1 = .ok (.aload_n 1, 1) := by decide +kernel
theorem lr_d_Node_receiveGone_2 : decode prog_4_method_23_code 2 = .ok (.getfield 167, 3) := by decide +kernel
theorem lr_d_Node_receiveGone_5 : decode prog_4_method_23_code 5 = .ok (.invokevirtual 168, 3) := by decide +kernel
theorem lr_d_Node_receiveGone_8 : decode prog_4_method_23_code 8 = .ok (.istore_n 2, 1) := by decide +kernel
theorem lr_d_Node_receiveGone_9 : decode prog_4_method_23_code 9 = .ok (.aload_n 0, 1) := by decide +kernel
theorem lr_d_Node_receiveGone_10 : decode prog_4_method_23_code 10 = .ok (.aload_n 1, 1) := by decide +kernel
theorem lr_d_Node_receiveGone_11 : decode prog_4_method_23_code 11 = .ok (.iload_n 2, 1) := by decide +kernel
theorem lr_d_Node_receiveGone_12 : decode prog_4_method_23_code 12 = .ok (.invokevirtual 195, 3) := by decide +kernel
theorem lr_d_Node_receiveGone_15 : decode prog_4_method_23_code 15 = .ok (.ifCond .ne 5, 3) := by decide +kernel
theorem lr_d_Node_receiveGone_18 : decode prog_4_method_23_code 18 = .ok (.iconst 0, 1) := by decide +kernel
theorem lr_d_Node_receiveGone_19 : decode prog_4_method_23_code 19 = .ok (.ireturn, 1) := by decide +kernel
theorem lr_d_Node_receiveGone_20 : decode prog_4_method_23_code 20 = .ok (.aload_n 0, 1) := by decide +kernel
theorem lr_d_Node_receiveGone_21 : decode prog_4_method_23_code 21 = .ok (.getfield 21, 3) := by decide +kernel
theorem lr_d_Node_receiveGone_24 : decode prog_4_method_23_code 24 = .ok (.iload_n 2, 1) := by decide +kernel
theorem lr_d_Node_receiveGone_25 : decode prog_4_method_23_code 25 = .ok (.aaload, 1) := by decide +kernel
theorem lr_d_Node_receiveGone_26 : decode prog_4_method_23_code 26 = .ok (.aload_n 0, 1) := by decide +kernel
theorem lr_d_Node_receiveGone_27 : decode prog_4_method_23_code 27 = .ok (.getfield 15, 3) := by decide +kernel
theorem lr_d_Node_receiveGone_30 : decode prog_4_method_23_code 30 = .ok (.getfield 71, 3) := by decide +kernel
theorem lr_d_Node_receiveGone_33 : decode prog_4_method_23_code 33 = .ok (.putfield 118, 3) := by decide +kernel
theorem lr_d_Node_receiveGone_36 : decode prog_4_method_23_code 36 = .ok (.iconst 1, 1) := by decide +kernel
theorem lr_d_Node_receiveGone_37 : decode prog_4_method_23_code 37 = .ok (.ireturn, 1) := by decide +kernel
theorem lr_d_Node_receiveClean_0 : decode prog_4_method_24_code 0 = .ok (.aload_n 0, 1) := by decide +kernel
theorem lr_d_Node_receiveClean_1 : decode prog_4_method_24_code 1 = .ok (.aload_n 1, 1) := by decide +kernel
theorem lr_d_Node_receiveClean_2 : decode prog_4_method_24_code 2 = .ok (.getfield 167, 3) := by decide +kernel
theorem lr_d_Node_receiveClean_5 : decode prog_4_method_24_code 5 = .ok (.invokevirtual 168, 3) := by decide +kernel
theorem lr_d_Node_receiveClean_8 : decode prog_4_method_24_code 8 = .ok (.istore_n 2, 1) := by decide +kernel
theorem lr_d_Node_receiveClean_9 : decode prog_4_method_24_code 9 = .ok (.iload_n 2, 1) := by decide +kernel
theorem lr_d_Node_receiveClean_10 : decode prog_4_method_24_code 10 = .ok (.iconst (-1), 1) := by decide +kernel
theorem lr_d_Node_receiveClean_11 : decode prog_4_method_24_code 11 = .ok (.if_icmp .eq 24, 3) := by decide +kernel
theorem lr_d_Node_receiveClean_14 : decode prog_4_method_24_code 14 = .ok (.aload_n 1, 1) := by decide +kernel
theorem lr_d_Node_receiveClean_15 : decode prog_4_method_24_code 15 = .ok (.getfield 184, 3) := by decide +kernel
theorem lr_d_Node_receiveClean_18 : decode prog_4_method_24_code 18 = .ok (.aload_n 0, 1) := by decide +kernel
theorem lr_d_Node_receiveClean_19 : decode prog_4_method_24_code 19 = .ok (.getfield 21, 3) := by decide +kernel
theorem lr_d_Node_receiveClean_22 : decode prog_4_method_24_code 22 = .ok (.iload_n 2, 1) := by decide +kernel
theorem lr_d_Node_receiveClean_23 : decode prog_4_method_24_code 23 = .ok (.aaload, 1) := by decide +kernel
theorem lr_d_Node_receiveClean_24 : decode prog_4_method_24_code 24 = .ok (.getfield 189, 3) := by decide +kernel
theorem lr_d_Node_receiveClean_27 : decode prog_4_method_24_code 27 = .ok (.aload_n 1, 1) := by decide +kernel
theorem lr_d_Node_receiveClean_28 : decode prog_4_method_24_code 28 = .ok (.getfield 181, 3) := by decide +kernel
theorem lr_d_Node_receiveClean_31 : decode prog_4_method_24_code 31 = .ok (.iaload, 1) := by decide +kernel
theorem lr_d_Node_receiveClean_32 : decode prog_4_method_24_code 32 = .ok (.if_icmp .gt 5, 3) := by decide +kernel
theorem lr_d_Node_receiveClean_35 : decode prog_4_method_24_code 35 = .ok (.iconst 0, 1) := by decide +kernel
theorem lr_d_Node_receiveClean_36 : decode prog_4_method_24_code 36 = .ok (.ireturn, 1) := by decide +kernel
theorem lr_d_Node_receiveClean_37 : decode prog_4_method_24_code 37 = .ok (.aload_n 0, 1) := by decide +kernel
theorem lr_d_Node_receiveClean_38 : decode prog_4_method_24_code 38 = .ok (.getfield 21, 3) := by decide +kernel
theorem lr_d_Node_receiveClean_41 : decode prog_4_method_24_code 41 = .ok (.iload_n 2, 1) := by decide +kernel
theorem lr_d_Node_receiveClean_42 : decode prog_4_method_24_code 42 = .ok (.aaload, 1) := by decide +kernel
theorem lr_d_Node_receiveClean_43 : decode prog_4_method_24_code 43 = .ok (.getfield 189, 3) := by decide +kernel
theorem lr_d_Node_receiveClean_46 : decode prog_4_method_24_code 46 = .ok (.aload_n 1, 1) := by decide +kernel
theorem lr_d_Node_receiveClean_47 : decode prog_4_method_24_code 47 = .ok (.getfield 181, 3) := by decide +kernel
theorem lr_d_Node_receiveClean_50 : decode prog_4_method_24_code 50 = .ok (.aload_n 1, 1) := by decide +kernel
theorem lr_d_Node_receiveClean_51 : decode prog_4_method_24_code 51 = .ok (.getfield 184, 3) := by decide +kernel
theorem lr_d_Node_receiveClean_54 : decode prog_4_method_24_code 54 = .ok (.iastore, 1) := by decide +kernel
theorem lr_d_Node_receiveClean_55 : decode prog_4_method_24_code 55 = .ok (.aload_n 0, 1) := by decide +kernel
theorem lr_d_Node_receiveClean_56 : decode prog_4_method_24_code 56 = .ok (.getfield 21, 3) := by decide +kernel
theorem lr_d_Node_receiveClean_59 : decode prog_4_method_24_code 59 = .ok (.iload_n 2, 1) := by decide +kernel
theorem lr_d_Node_receiveClean_60 : decode prog_4_method_24_code 60 = .ok (.aaload, 1) := by decide +kernel
theorem lr_d_Node_receiveClean_61 : decode prog_4_method_24_code 61 = .ok (.getfield 192, 3) := by decide +kernel
theorem lr_d_Node_receiveClean_64 : decode prog_4_method_24_code 64 = .ok (.aload_n 1, 1) := by decide +kernel
theorem lr_d_Node_receiveClean_65 : decode prog_4_method_24_code 65 = .ok (.getfield 181, 3) := by decide +kernel
theorem lr_d_Node_receiveClean_68 : decode prog_4_method_24_code 68 = .ok (.aload_n 0, 1) := by decide +kernel
theorem lr_d_Node_receiveClean_69 : decode prog_4_method_24_code 69 = .ok (.getfield 15, 3) := by decide +kernel
theorem lr_d_Node_receiveClean_72 : decode prog_4_method_24_code 72 = .ok (.getfield 71, 3) := by decide +kernel
theorem lr_d_Node_receiveClean_75 : decode prog_4_method_24_code 75 = .ok (.iastore, 1) := by decide +kernel
theorem lr_d_Node_receiveClean_76 : decode prog_4_method_24_code 76 = .ok (.iconst 1, 1) := by decide +kernel
theorem lr_d_Node_receiveClean_77 : decode prog_4_method_24_code 77 = .ok (.ireturn, 1) := by decide +kernel
theorem lr_d_Node_carryOut_0 : decode prog_4_method_26_code 0 = .ok (.aload_n 0, 1) := by decide +kernel
theorem lr_d_Node_carryOut_1 : decode prog_4_method_26_code 1 = .ok (.aload_n 1, 1) := by decide +kernel
theorem lr_d_Node_carryOut_2 : decode prog_4_method_26_code 2 = .ok (.getfield 167, 3) := by decide +kernel
theorem lr_d_Node_carryOut_5 : decode prog_4_method_26_code 5 = .ok (.invokevirtual 168, 3) := by decide +kernel
theorem lr_d_Node_carryOut_8 : decode prog_4_method_26_code 8 = .ok (.istore_n 3, 1) := by decide +kernel
theorem lr_d_Node_carryOut_9 : decode prog_4_method_26_code 9 = .ok (.iload_n 3, 1) := by decide +kernel
theorem lr_d_Node_carryOut_10 : decode prog_4_method_26_code 10 = .ok (.iconst (-1), 1) := by decide +kernel
theorem lr_d_Node_carryOut_11 : decode prog_4_method_26_code 11 = .ok (.if_icmp .ne 27, 3) := by decide +kernel
theorem lr_d_Node_carryOut_14 : decode prog_4_method_26_code 14 = .ok (.aload_n 2, 1) := by decide +kernel
theorem lr_d_Node_carryOut_15 : decode prog_4_method_26_code 15 = .ok (.bipush 8, 2) := by decide +kernel
theorem lr_d_Node_carryOut_17 : decode prog_4_method_26_code 17 = .ok (.aload_n 0, 1) := by decide +kernel
theorem lr_d_Node_carryOut_18 : decode prog_4_method_26_code 18 = .ok (.getfield 9, 3) := by decide +kernel
theorem lr_d_Node_carryOut_21 : decode prog_4_method_26_code 21 = .ok (.aload_n 1, 1) := by decide +kernel
theorem lr_d_Node_carryOut_22 : decode prog_4_method_26_code 22 = .ok (.getfield 181, 3) := by decide +kernel
theorem lr_d_Node_carryOut_25 : decode prog_4_method_26_code 25 = .ok (.aload_n 1, 1) := by decide +kernel
theorem lr_d_Node_carryOut_26 : decode prog_4_method_26_code 26 = .ok (.getfield 167, 3) := by decide +kernel
theorem lr_d_Node_carryOut_29 : decode prog_4_method_26_code 29 = .ok (.aload_n 1, 1) := by decide +kernel
theorem lr_d_Node_carryOut_30 : decode prog_4_method_26_code 30 = .ok (.getfield 184, 3) := by decide +kernel
theorem lr_d_Node_carryOut_33 : decode prog_4_method_26_code 33 = .ok (.iconst 0, 1) := by decide +kernel
theorem lr_d_Node_carryOut_34 : decode prog_4_method_26_code 34 = .ok (.invokevirtual 218, 3) := by decide +kernel
theorem lr_d_Node_carryOut_37 : decode prog_4_method_26_code 37 = .ok (.return_, 1) := by decide +kernel
theorem lr_d_Node_carryOut_38 : decode prog_4_method_26_code 38 = .ok (.aload_n 0, 1) := by decide +kernel
theorem lr_d_Node_carryOut_39 : decode prog_4_method_26_code 39 = .ok (.getfield 21, 3) := by decide +kernel
theorem lr_d_Node_carryOut_42 : decode prog_4_method_26_code 42 = .ok (.iload_n 3, 1) := by decide +kernel
theorem lr_d_Node_carryOut_43 : decode prog_4_method_26_code 43 = .ok (.aaload, 1) := by decide +kernel
theorem lr_d_Node_carryOut_44 : decode prog_4_method_26_code 44 = .ok (.dup, 1) := by decide +kernel
theorem lr_d_Node_carryOut_45 : decode prog_4_method_26_code 45 = .ok (.getfield 221, 3) := by decide +kernel
theorem lr_d_Node_carryOut_48 : decode prog_4_method_26_code 48 = .ok (.aload_n 1, 1) := by decide +kernel
theorem lr_d_Node_carryOut_49 : decode prog_4_method_26_code 49 = .ok (.getfield 171, 3) := by decide +kernel
theorem lr_d_Node_carryOut_52 : decode prog_4_method_26_code 52 = .ok (.iadd, 1) := by decide +kernel
theorem lr_d_Node_carryOut_53 : decode prog_4_method_26_code 53 = .ok (.putfield 221, 3) := by decide +kernel
theorem lr_d_Node_carryOut_56 : decode prog_4_method_26_code 56 = .ok (.aload_n 2, 1) := by decide +kernel
theorem lr_d_Node_carryOut_57 : decode prog_4_method_26_code 57 = .ok (.bipush 7, 2) := by decide +kernel
theorem lr_d_Node_carryOut_59 : decode prog_4_method_26_code 59 = .ok (.aload_n 0, 1) := by decide +kernel
theorem lr_d_Node_carryOut_60 : decode prog_4_method_26_code 60 = .ok (.getfield 9, 3) := by decide +kernel
theorem lr_d_Node_carryOut_63 : decode prog_4_method_26_code 63 = .ok (.aload_n 1, 1) := by decide +kernel
theorem lr_d_Node_carryOut_64 : decode prog_4_method_26_code 64 = .ok (.getfield 181, 3) := by decide +kernel
theorem lr_d_Node_carryOut_67 : decode prog_4_method_26_code 67 = .ok (.aload_n 1, 1) := by decide +kernel
theorem lr_d_Node_carryOut_68 : decode prog_4_method_26_code 68 = .ok (.getfield 167, 3) := by decide +kernel
theorem lr_d_Node_carryOut_71 : decode prog_4_method_26_code 71 = .ok (.aload_n 1, 1) := by decide +kernel
theorem lr_d_Node_carryOut_72 : decode prog_4_method_26_code 72 = .ok (.getfield 184, 3) := by decide +kernel
theorem lr_d_Node_carryOut_75 : decode prog_4_method_26_code 75 = .ok (.aload_n 0, 1) := by decide +kernel
theorem lr_d_Node_carryOut_76 : decode prog_4_method_26_code 76 = .ok (.getfield 21, 3) := by decide +kernel
theorem lr_d_Node_carryOut_79 : decode prog_4_method_26_code 79 = .ok (.iload_n 3, 1) := by decide +kernel
theorem lr_d_Node_carryOut_80 : decode prog_4_method_26_code 80 = .ok (.aaload, 1) := by decide +kernel
theorem lr_d_Node_carryOut_81 : decode prog_4_method_26_code 81 = .ok (.getfield 221, 3) := by decide +kernel
theorem lr_d_Node_carryOut_84 : decode prog_4_method_26_code 84 = .ok (.invokevirtual 218, 3) := by decide +kernel
theorem lr_d_Node_carryOut_87 : decode prog_4_method_26_code 87 = .ok (.return_, 1) := by decide +kernel
theorem lr_d_Node_receiveCall_0 : decode prog_4_method_25_code 0 = .ok (.aload_n 0, 1) := by decide +kernel
theorem lr_d_Node_receiveCall_1 : decode prog_4_method_25_code 1 = .ok (.getfield 49, 3) := by decide +kernel
theorem lr_d_Node_receiveCall_4 : decode prog_4_method_25_code 4 = .ok (.aload_n 1, 1) := by decide +kernel
theorem lr_d_Node_receiveCall_5 : decode prog_4_method_25_code 5 = .ok (.getfield 181, 3) := by decide +kernel
theorem lr_d_Node_receiveCall_8 : decode prog_4_method_25_code 8 = .ok (.aaload, 1) := by decide +kernel
theorem lr_d_Node_receiveCall_9 : decode prog_4_method_25_code 9 = .ok (.astore_n 2, 1) := by decide +kernel
theorem lr_d_Node_receiveCall_10 : decode prog_4_method_25_code 10 = .ok (.aload_n 1, 1) := by decide +kernel
theorem lr_d_Node_receiveCall_11 : decode prog_4_method_25_code 11 = .ok (.getfield 184, 3) := by decide +kernel
theorem lr_d_Node_receiveCall_14 : decode prog_4_method_25_code 14 = .ok (.aload_n 2, 1) := by decide +kernel
theorem lr_d_Node_receiveCall_15 : decode prog_4_method_25_code 15 = .ok (.getfield 184, 3) := by decide +kernel
theorem lr_d_Node_receiveCall_18 : decode prog_4_method_25_code 18 = .ok (.if_icmp .ge 5, 3) := by decide +kernel
theorem lr_d_Node_receiveCall_21 : decode prog_4_method_25_code 21 = .ok (.iconst 0, 1) := by decide +kernel
theorem lr_d_Node_receiveCall_22 : decode prog_4_method_25_code 22 = .ok (.ireturn, 1) := by decide +kernel
theorem lr_d_Node_receiveCall_23 : decode prog_4_method_25_code 23 = .ok (.aload_n 1, 1) := by decide +kernel
theorem lr_d_Node_receiveCall_24 : decode prog_4_method_25_code 24 = .ok (.getfield 184, 3) := by decide +kernel
theorem lr_d_Node_receiveCall_27 : decode prog_4_method_25_code 27 = .ok (.aload_n 2, 1) := by decide +kernel
theorem lr_d_Node_receiveCall_28 : decode prog_4_method_25_code 28 = .ok (.getfield 184, 3) := by decide +kernel
theorem lr_d_Node_receiveCall_31 : decode prog_4_method_25_code 31 = .ok (.if_icmp .le 9, 3) := by decide +kernel
theorem lr_d_Node_receiveCall_34 : decode prog_4_method_25_code 34 = .ok (.aload_n 0, 1) := by decide +kernel
theorem lr_d_Node_receiveCall_35 : decode prog_4_method_25_code 35 = .ok (.aload_n 1, 1) := by decide +kernel
theorem lr_d_Node_receiveCall_36 : decode prog_4_method_25_code 36 = .ok (.aload_n 2, 1) := by decide +kernel
theorem lr_d_Node_receiveCall_37 : decode prog_4_method_25_code 37 = .ok (.invokevirtual 211, 3) := by decide +kernel
theorem lr_d_Node_receiveCall_40 : decode prog_4_method_25_code 40 = .ok (.aload_n 0, 1) := by decide +kernel
theorem lr_d_Node_receiveCall_41 : decode prog_4_method_25_code 41 = .ok (.getfield 15, 3) := by decide +kernel
theorem lr_d_Node_receiveCall_44 : decode prog_4_method_25_code 44 = .ok (.aload_n 2, 1) := by decide +kernel
theorem lr_d_Node_receiveCall_45 : decode prog_4_method_25_code 45 = .ok (.invokevirtual 215, 3) := by decide +kernel
theorem lr_d_Node_receiveCall_48 : decode prog_4_method_25_code 48 = .ok (.iconst 1, 1) := by decide +kernel
theorem lr_d_Node_receiveCall_49 : decode prog_4_method_25_code 49 = .ok (.ireturn, 1) := by decide +kernel
theorem lr_d_Node_receiveReply_0 : decode prog_4_method_27_code 0 = .ok (.aload_n 0, 1) := by decide +kernel
theorem lr_d_Node_receiveReply_1 : decode prog_4_method_27_code 1 = .ok (.getfield 40, 3) := by decide +kernel
theorem lr_d_Node_receiveReply_4 : decode prog_4_method_27_code 4 = .ok (.getfield 44, 3) := by decide +kernel
theorem lr_d_Node_receiveReply_7 : decode prog_4_method_27_code 7 = .ok (.iconst 1, 1) := by decide +kernel
theorem lr_d_Node_receiveReply_8 : decode prog_4_method_27_code 8 = .ok (.if_icmp .ne 17, 3) := by decide +kernel
theorem lr_d_Node_receiveReply_11 : decode prog_4_method_27_code 11 = .ok (.aload_n 0, 1) := by decide +kernel
theorem lr_d_Node_receiveReply_12 : decode prog_4_method_27_code 12 = .ok (.getfield 40, 3) := by decide +kernel
theorem lr_d_Node_receiveReply_15 : decode prog_4_method_27_code 15 = .ok (.getfield 101, 3) := by decide +kernel
theorem lr_d_Node_receiveReply_18 : decode prog_4_method_27_code 18 = .ok (.aload_n 1, 1) := by decide +kernel
theorem lr_d_Node_receiveReply_19 : decode prog_4_method_27_code 19 = .ok (.getfield 184, 3) := by decide +kernel
theorem lr_d_Node_receiveReply_22 : decode prog_4_method_27_code 22 = .ok (.if_icmp .eq 5, 3) := by decide +kernel
theorem lr_d_Node_receiveReply_25 : decode prog_4_method_27_code 25 = .ok (.iconst 0, 1) := by decide +kernel
theorem lr_d_Node_receiveReply_26 : decode prog_4_method_27_code 26 = .ok (.ireturn, 1) := by decide +kernel
theorem lr_d_Node_receiveReply_27 : decode prog_4_method_27_code 27 = .ok (.aload_n 1, 1) := by decide +kernel
theorem lr_d_Node_receiveReply_28 : decode prog_4_method_27_code 28 = .ok (.getfield 139, 3) := by decide +kernel
theorem lr_d_Node_receiveReply_31 : decode prog_4_method_27_code 31 = .ok (.bipush 7, 2) := by decide +kernel
theorem lr_d_Node_receiveReply_33 : decode prog_4_method_27_code 33 = .ok (.if_icmp .ne 25, 3) := by decide +kernel
theorem lr_d_Node_receiveReply_36 : decode prog_4_method_27_code 36 = .ok (.aload_n 0, 1) := by decide +kernel
theorem lr_d_Node_receiveReply_37 : decode prog_4_method_27_code 37 = .ok (.getfield 40, 3) := by decide +kernel
theorem lr_d_Node_receiveReply_40 : decode prog_4_method_27_code 40 = .ok (.iconst 2, 1) := by decide +kernel
theorem lr_d_Node_receiveReply_41 : decode prog_4_method_27_code 41 = .ok (.putfield 44, 3) := by decide +kernel
theorem lr_d_Node_receiveReply_44 : decode prog_4_method_27_code 44 = .ok (.aload_n 0, 1) := by decide +kernel
theorem lr_d_Node_receiveReply_45 : decode prog_4_method_27_code 45 = .ok (.getfield 40, 3) := by decide +kernel
theorem lr_d_Node_receiveReply_48 : decode prog_4_method_27_code 48 = .ok (.aload_n 1, 1) := by decide +kernel
theorem lr_d_Node_receiveReply_49 : decode prog_4_method_27_code 49 = .ok (.getfield 171, 3) := by decide +kernel
theorem lr_d_Node_receiveReply_52 : decode prog_4_method_27_code 52 = .ok (.putfield 224, 3) := by decide +kernel
theorem lr_d_Node_receiveReply_55 : decode prog_4_method_27_code 55 = .ok (.goto 11, 3) := by decide +kernel
theorem lr_d_Node_receiveReply_58 : decode prog_4_method_27_code 58 = .ok (.aload_n 0, 1) := by decide +kernel
theorem lr_d_Node_receiveReply_59 : decode prog_4_method_27_code 59 = .ok (.getfield 40, 3) := by decide +kernel
theorem lr_d_Node_receiveReply_62 : decode prog_4_method_27_code 62 = .ok (.iconst 3, 1) := by decide +kernel
theorem lr_d_Node_receiveReply_63 : decode prog_4_method_27_code 63 = .ok (.putfield 44, 3) := by decide +kernel
theorem lr_d_Node_receiveReply_66 : decode prog_4_method_27_code 66 = .ok (.iconst 1, 1) := by decide +kernel
theorem lr_d_Node_receiveReply_67 : decode prog_4_method_27_code 67 = .ok (.ireturn, 1) := by decide +kernel
theorem lr_d_Node_receive_0 : decode prog_4_method_17_code 0 = .ok (.aload_n 0, 1) := by decide +kernel
theorem lr_d_Node_receive_1 : decode prog_4_method_17_code 1 = .ok (.getfield 61, 3) := by decide +kernel
theorem lr_d_Node_receive_4 : decode prog_4_method_17_code 4 = .ok (.ifCond .eq 5, 3) := by decide +kernel
theorem lr_d_Node_receive_7 : decode prog_4_method_17_code 7 = .ok (.iconst 0, 1) := by decide +kernel
theorem lr_d_Node_receive_8 : decode prog_4_method_17_code 8 = .ok (.ireturn, 1) := by decide +kernel
theorem lr_d_Node_receive_9 : decode prog_4_method_17_code 9 = .ok (.aload_n 1, 1) := by decide +kernel
theorem lr_d_Node_receive_10 : decode prog_4_method_17_code 10 = .ok (.getfield 139, 3) := by decide +kernel
theorem lr_d_Node_receive_13 : decode prog_4_method_17_code 13 = .ok (.tableswitch 105 0 8 #[51, 57, 63, 69, 75, 81, 87, 93, 99], 51) := by decide +kernel
theorem lr_d_Node_receive_64 : decode prog_4_method_17_code 64 = .ok (.aload_n 0, 1) := by decide +kernel
theorem lr_d_Node_receive_65 : decode prog_4_method_17_code 65 = .ok (.aload_n 1, 1) := by decide +kernel
theorem lr_d_Node_receive_66 : decode prog_4_method_17_code 66 = .ok (.invokevirtual 142, 3) := by decide +kernel
theorem lr_d_Node_receive_69 : decode prog_4_method_17_code 69 = .ok (.ireturn, 1) := by decide +kernel
theorem lr_d_Node_receive_70 : decode prog_4_method_17_code 70 = .ok (.aload_n 0, 1) := by decide +kernel
theorem lr_d_Node_receive_71 : decode prog_4_method_17_code 71 = .ok (.aload_n 1, 1) := by decide +kernel
theorem lr_d_Node_receive_72 : decode prog_4_method_17_code 72 = .ok (.invokevirtual 146, 3) := by decide +kernel
theorem lr_d_Node_receive_75 : decode prog_4_method_17_code 75 = .ok (.ireturn, 1) := by decide +kernel
theorem lr_d_Node_receive_76 : decode prog_4_method_17_code 76 = .ok (.aload_n 0, 1) := by decide +kernel
theorem lr_d_Node_receive_77 : decode prog_4_method_17_code 77 = .ok (.aload_n 1, 1) := by decide +kernel
theorem lr_d_Node_receive_78 : decode prog_4_method_17_code 78 = .ok (.invokevirtual 149, 3) := by decide +kernel
theorem lr_d_Node_receive_81 : decode prog_4_method_17_code 81 = .ok (.ireturn, 1) := by decide +kernel
theorem lr_d_Node_receive_82 : decode prog_4_method_17_code 82 = .ok (.aload_n 0, 1) := by decide +kernel
theorem lr_d_Node_receive_83 : decode prog_4_method_17_code 83 = .ok (.aload_n 1, 1) := by decide +kernel
theorem lr_d_Node_receive_84 : decode prog_4_method_17_code 84 = .ok (.invokevirtual 152, 3) := by decide +kernel
theorem lr_d_Node_receive_87 : decode prog_4_method_17_code 87 = .ok (.ireturn, 1) := by decide +kernel
theorem lr_d_Node_receive_88 : decode prog_4_method_17_code 88 = .ok (.aload_n 0, 1) := by decide +kernel
theorem lr_d_Node_receive_89 : decode prog_4_method_17_code 89 = .ok (.aload_n 1, 1) := by decide +kernel
theorem lr_d_Node_receive_90 : decode prog_4_method_17_code 90 = .ok (.invokevirtual 155, 3) := by decide +kernel
theorem lr_d_Node_receive_93 : decode prog_4_method_17_code 93 = .ok (.ireturn, 1) := by decide +kernel
theorem lr_d_Node_receive_94 : decode prog_4_method_17_code 94 = .ok (.aload_n 0, 1) := by decide +kernel
theorem lr_d_Node_receive_95 : decode prog_4_method_17_code 95 = .ok (.aload_n 1, 1) := by decide +kernel
theorem lr_d_Node_receive_96 : decode prog_4_method_17_code 96 = .ok (.invokevirtual 158, 3) := by decide +kernel
theorem lr_d_Node_receive_99 : decode prog_4_method_17_code 99 = .ok (.ireturn, 1) := by decide +kernel
theorem lr_d_Node_receive_100 : decode prog_4_method_17_code 100 = .ok (.aload_n 0, 1) := by decide +kernel
theorem lr_d_Node_receive_101 : decode prog_4_method_17_code 101 = .ok (.aload_n 1, 1) := by decide +kernel
theorem lr_d_Node_receive_102 : decode prog_4_method_17_code 102 = .ok (.invokevirtual 161, 3) := by decide +kernel
theorem lr_d_Node_receive_105 : decode prog_4_method_17_code 105 = .ok (.ireturn, 1) := by decide +kernel
theorem lr_d_Node_receive_106 : decode prog_4_method_17_code 106 = .ok (.aload_n 0, 1) := by decide +kernel
theorem lr_d_Node_receive_107 : decode prog_4_method_17_code 107 = .ok (.aload_n 1, 1) := by decide +kernel
theorem lr_d_Node_receive_108 : decode prog_4_method_17_code 108 = .ok (.invokevirtual 164, 3) := by decide +kernel
theorem lr_d_Node_receive_111 : decode prog_4_method_17_code 111 = .ok (.ireturn, 1) := by decide +kernel
theorem lr_d_Node_receive_112 : decode prog_4_method_17_code 112 = .ok (.aload_n 0, 1) := by decide +kernel
theorem lr_d_Node_receive_113 : decode prog_4_method_17_code 113 = .ok (.aload_n 1, 1) := by decide +kernel
theorem lr_d_Node_receive_114 : decode prog_4_method_17_code 114 = .ok (.invokevirtual 164, 3) := by decide +kernel
theorem lr_d_Node_receive_117 : decode prog_4_method_17_code 117 = .ok (.ireturn, 1) := by decide +kernel
theorem lr_d_Node_receive_118 : decode prog_4_method_17_code 118 = .ok (.iconst 0, 1) := by decide +kernel
theorem lr_d_Node_receive_119 : decode prog_4_method_17_code 119 = .ok (.ireturn, 1) := by decide +kernel
theorem lr_d_Slot_isListed_0 : decode prog_7_method_7_code 0 = .ok (.iconst 0, 1) := by decide +kernel
theorem lr_d_Slot_isListed_1 : decode prog_7_method_7_code 1 = .ok (.istore_n 2, 1) := by decide +kernel
theorem lr_d_Slot_isListed_2 : decode prog_7_method_7_code 2 = .ok (.iconst 0, 1) := by decide +kernel
theorem lr_d_Slot_isListed_3 : decode prog_7_method_7_code 3 = .ok (.istore_n 3, 1) := by decide +kernel
theorem lr_d_Slot_isListed_4 : decode prog_7_method_7_code 4 = .ok (.iload_n 3, 1) := by decide +kernel
theorem lr_d_Slot_isListed_5 : decode prog_7_method_7_code 5 = .ok (.iconst 4, 1) := by decide +kernel
theorem lr_d_Slot_isListed_6 : decode prog_7_method_7_code 6 = .ok (.if_icmp .ge 29, 3) := by decide +kernel
theorem lr_d_Slot_isListed_9 : decode prog_7_method_7_code 9 = .ok (.iload_n 2, 1) := by decide +kernel
theorem lr_d_Slot_isListed_10 : decode prog_7_method_7_code 10 = .ok (.ifCond .ne 13, 3) := by decide +kernel
theorem lr_d_Slot_isListed_13 : decode prog_7_method_7_code 13 = .ok (.iload_n 1, 1) := by decide +kernel
theorem lr_d_Slot_isListed_14 : decode prog_7_method_7_code 14 = .ok (.aload_n 0, 1) := by decide +kernel
theorem lr_d_Slot_isListed_15 : decode prog_7_method_7_code 15 = .ok (.getfield 22, 3) := by decide +kernel
theorem lr_d_Slot_isListed_18 : decode prog_7_method_7_code 18 = .ok (.iload_n 3, 1) := by decide +kernel
theorem lr_d_Slot_isListed_19 : decode prog_7_method_7_code 19 = .ok (.iaload, 1) := by decide +kernel
theorem lr_d_Slot_isListed_20 : decode prog_7_method_7_code 20 = .ok (.if_icmp .ge 7, 3) := by decide +kernel
theorem lr_d_Slot_isListed_23 : decode prog_7_method_7_code 23 = .ok (.iconst 1, 1) := by decide +kernel
theorem lr_d_Slot_isListed_24 : decode prog_7_method_7_code 24 = .ok (.goto 4, 3) := by decide +kernel
theorem lr_d_Slot_isListed_27 : decode prog_7_method_7_code 27 = .ok (.iconst 0, 1) := by decide +kernel
theorem lr_d_Slot_isListed_28 : decode prog_7_method_7_code 28 = .ok (.istore_n 2, 1) := by decide +kernel
theorem lr_d_Slot_isListed_29 : decode prog_7_method_7_code 29 = .ok (.iinc 3 1, 3) := by decide +kernel
theorem lr_d_Slot_isListed_32 : decode prog_7_method_7_code 32 = .ok (.goto (-28), 3) := by decide +kernel
theorem lr_d_Slot_isListed_35 : decode prog_7_method_7_code 35 = .ok (.aload_n 0, 1) := by decide +kernel
theorem lr_d_Slot_isListed_36 : decode prog_7_method_7_code 36 = .ok (.getfield 9, 3) := by decide +kernel
theorem lr_d_Slot_isListed_39 : decode prog_7_method_7_code 39 = .ok (.iconst 1, 1) := by decide +kernel
theorem lr_d_Slot_isListed_40 : decode prog_7_method_7_code 40 = .ok (.if_icmp .ne 11, 3) := by decide +kernel
theorem lr_d_Slot_isListed_43 : decode prog_7_method_7_code 43 = .ok (.iload_n 2, 1) := by decide +kernel
theorem lr_d_Slot_isListed_44 : decode prog_7_method_7_code 44 = .ok (.ifCond .eq 7, 3) := by decide +kernel
theorem lr_d_Slot_isListed_47 : decode prog_7_method_7_code 47 = .ok (.iconst 1, 1) := by decide +kernel
theorem lr_d_Slot_isListed_48 : decode prog_7_method_7_code 48 = .ok (.goto 4, 3) := by decide +kernel
theorem lr_d_Slot_isListed_51 : decode prog_7_method_7_code 51 = .ok (.iconst 0, 1) := by decide +kernel
theorem lr_d_Slot_isListed_52 : decode prog_7_method_7_code 52 = .ok (.ireturn, 1) := by decide +kernel
theorem lr_d_Node_keep_0 : decode prog_4_method_30_code 0 = .ok (.iload_n 1, 1) := by decide +kernel
theorem lr_d_Node_keep_1 : decode prog_4_method_30_code 1 = .ok (.iconst (-1), 1) := by decide +kernel
theorem lr_d_Node_keep_2 : decode prog_4_method_30_code 2 = .ok (.if_icmp .eq 10, 3) := by decide +kernel
theorem lr_d_Node_keep_5 : decode prog_4_method_30_code 5 = .ok (.aload_n 0, 1) := by decide +kernel
theorem lr_d_Node_keep_6 : decode prog_4_method_30_code 6 = .ok (.getfield 54, 3) := by decide +kernel
theorem lr_d_Node_keep_9 : decode prog_4_method_30_code 9 = .ok (.iload_n 1, 1) := by decide +kernel
theorem lr_d_Node_keep_10 : decode prog_4_method_30_code 10 = .ok (.iconst 1, 1) := by decide +kernel
theorem lr_d_Node_keep_11 : decode prog_4_method_30_code 11 = .ok (.bastore, 1) := by decide +kernel
theorem lr_d_Node_keep_12 : decode prog_4_method_30_code 12 = .ok (.return_, 1) := by decide +kernel
theorem lr_d_Node_keepWhatFieldsReferTo_0 : decode prog_4_method_31_code 0 = .ok (.iconst 0, 1) := by decide +kernel
theorem lr_d_Node_keepWhatFieldsReferTo_1 : decode prog_4_method_31_code 1 = .ok (.istore_n 1, 1) := by decide +kernel
theorem lr_d_Node_keepWhatFieldsReferTo_2 : decode prog_4_method_31_code 2 = .ok (.iload_n 1, 1) := by decide +kernel
theorem lr_d_Node_keepWhatFieldsReferTo_3 : decode prog_4_method_31_code 3 = .ok (.bipush 8, 2) := by decide +kernel
theorem lr_d_Node_keepWhatFieldsReferTo_5 : decode prog_4_method_31_code 5 = .ok (.if_icmp .ge 59, 3) := by decide +kernel
theorem lr_d_Node_keepWhatFieldsReferTo_8 : decode prog_4_method_31_code 8 = .ok (.aload_n 0, 1) := by decide +kernel
theorem lr_d_Node_keepWhatFieldsReferTo_9 : decode prog_4_method_31_code 9 = .ok (.getfield 54, 3) := by decide +kernel
theorem lr_d_Node_keepWhatFieldsReferTo_12 : decode prog_4_method_31_code 12 = .ok (.iload_n 1, 1) := by decide +kernel
theorem lr_d_Node_keepWhatFieldsReferTo_13 : decode prog_4_method_31_code 13 = .ok (.baload, 1) := by decide +kernel
theorem lr_d_Node_keepWhatFieldsReferTo_14 : decode prog_4_method_31_code 14 = .ok (.ifCond .eq 44, 3) := by decide +kernel
theorem lr_d_Node_keepWhatFieldsReferTo_17 : decode prog_4_method_31_code 17 = .ok (.aload_n 0, 1) := by decide +kernel
theorem lr_d_Node_keepWhatFieldsReferTo_18 : decode prog_4_method_31_code 18 = .ok (.getfield 21, 3) := by decide +kernel
theorem lr_d_Node_keepWhatFieldsReferTo_21 : decode prog_4_method_31_code 21 = .ok (.iload_n 1, 1) := by decide +kernel
theorem lr_d_Node_keepWhatFieldsReferTo_22 : decode prog_4_method_31_code 22 = .ok (.aaload, 1) := by decide +kernel
theorem lr_d_Node_keepWhatFieldsReferTo_23 : decode prog_4_method_31_code 23 = .ok (.getfield 65, 3) := by decide +kernel
theorem lr_d_Node_keepWhatFieldsReferTo_26 : decode prog_4_method_31_code 26 = .ok (.iconst 1, 1) := by decide +kernel
theorem lr_d_Node_keepWhatFieldsReferTo_27 : decode prog_4_method_31_code 27 = .ok (.if_icmp .ne 31, 3) := by decide +kernel
theorem lr_d_Node_keepWhatFieldsReferTo_30 : decode prog_4_method_31_code 30 = .ok (.iconst 0, 1) := by decide +kernel
theorem lr_d_Node_keepWhatFieldsReferTo_31 : decode prog_4_method_31_code 31 = .ok (.istore_n 2, 1) := by decide +kernel
theorem lr_d_Node_keepWhatFieldsReferTo_32 : decode prog_4_method_31_code 32 = .ok (.iload_n 2, 1) := by decide +kernel
theorem lr_d_Node_keepWhatFieldsReferTo_33 : decode prog_4_method_31_code 33 = .ok (.iconst 2, 1) := by decide +kernel
theorem lr_d_Node_keepWhatFieldsReferTo_34 : decode prog_4_method_31_code 34 = .ok (.if_icmp .ge 24, 3) := by decide +kernel
theorem lr_d_Node_keepWhatFieldsReferTo_37 : decode prog_4_method_31_code 37 = .ok (.aload_n 0, 1) := by decide +kernel
theorem lr_d_Node_keepWhatFieldsReferTo_38 : decode prog_4_method_31_code 38 = .ok (.aload_n 0, 1) := by decide +kernel
theorem lr_d_Node_keepWhatFieldsReferTo_39 : decode prog_4_method_31_code 39 = .ok (.getfield 21, 3) := by decide +kernel
theorem lr_d_Node_keepWhatFieldsReferTo_42 : decode prog_4_method_31_code 42 = .ok (.iload_n 1, 1) := by decide +kernel
theorem lr_d_Node_keepWhatFieldsReferTo_43 : decode prog_4_method_31_code 43 = .ok (.aaload, 1) := by decide +kernel
theorem lr_d_Node_keepWhatFieldsReferTo_44 : decode prog_4_method_31_code 44 = .ok (.getfield 243, 3) := by decide +kernel
theorem lr_d_Node_keepWhatFieldsReferTo_47 : decode prog_4_method_31_code 47 = .ok (.iload_n 2, 1) := by decide +kernel
theorem lr_d_Node_keepWhatFieldsReferTo_48 : decode prog_4_method_31_code 48 = .ok (.iaload, 1) := by decide +kernel
theorem lr_d_Node_keepWhatFieldsReferTo_49 : decode prog_4_method_31_code 49 = .ok (.invokevirtual 236, 3) := by decide +kernel
theorem lr_d_Node_keepWhatFieldsReferTo_52 : decode prog_4_method_31_code 52 = .ok (.iinc 2 1, 3) := by decide +kernel
theorem lr_d_Node_keepWhatFieldsReferTo_55 : decode prog_4_method_31_code 55 = .ok (.goto (-23), 3) := by decide +kernel
theorem lr_d_Node_keepWhatFieldsReferTo_58 : decode prog_4_method_31_code 58 = .ok (.iinc 1 1, 3) := by decide +kernel
theorem lr_d_Node_keepWhatFieldsReferTo_61 : decode prog_4_method_31_code 61 = .ok (.goto (-59), 3) := by decide +kernel
theorem lr_d_Node_keepWhatFieldsReferTo_64 : decode prog_4_method_31_code 64 = .ok (.return_, 1) := by decide +kernel
theorem lr_d_Node_markKeptSlots_0 : decode prog_4_method_29_code 0 = .ok (.iconst 0, 1) := by decide +kernel
theorem lr_d_Node_markKeptSlots_1 : decode prog_4_method_29_code 1 = .ok (.istore_n 1, 1) := by decide +kernel
theorem lr_d_Node_markKeptSlots_2 : decode prog_4_method_29_code 2 = .ok (.iload_n 1, 1) := by decide +kernel
theorem lr_d_Node_markKeptSlots_3 : decode prog_4_method_29_code 3 = .ok (.bipush 8, 2) := by decide +kernel
theorem lr_d_Node_markKeptSlots_5 : decode prog_4_method_29_code 5 = .ok (.if_icmp .ge 31, 3) := by decide +kernel
theorem lr_d_Node_markKeptSlots_8 : decode prog_4_method_29_code 8 = .ok (.aload_n 0, 1) := by decide +kernel
theorem lr_d_Node_markKeptSlots_9 : decode prog_4_method_29_code 9 = .ok (.getfield 54, 3) := by decide +kernel
theorem lr_d_Node_markKeptSlots_12 : decode prog_4_method_29_code 12 = .ok (.iload_n 1, 1) := by decide +kernel
theorem lr_d_Node_markKeptSlots_13 : decode prog_4_method_29_code 13 = .ok (.aload_n 0, 1) := by decide +kernel
theorem lr_d_Node_markKeptSlots_14 : decode prog_4_method_29_code 14 = .ok (.getfield 21, 3) := by decide +kernel
theorem lr_d_Node_markKeptSlots_17 : decode prog_4_method_29_code 17 = .ok (.iload_n 1, 1) := by decide +kernel
theorem lr_d_Node_markKeptSlots_18 : decode prog_4_method_29_code 18 = .ok (.aaload, 1) := by decide +kernel
theorem lr_d_Node_markKeptSlots_19 : decode prog_4_method_29_code 19 = .ok (.aload_n 0, 1) := by decide +kernel
theorem lr_d_Node_markKeptSlots_20 : decode prog_4_method_29_code 20 = .ok (.getfield 15, 3) := by decide +kernel
theorem lr_d_Node_markKeptSlots_23 : decode prog_4_method_29_code 23 = .ok (.getfield 71, 3) := by decide +kernel
theorem lr_d_Node_markKeptSlots_26 : decode prog_4_method_29_code 26 = .ok (.invokevirtual 233, 3) := by decide +kernel
theorem lr_d_Node_markKeptSlots_29 : decode prog_4_method_29_code 29 = .ok (.bastore, 1) := by decide +kernel
theorem lr_d_Node_markKeptSlots_30 : decode prog_4_method_29_code 30 = .ok (.iinc 1 1, 3) := by decide +kernel
theorem lr_d_Node_markKeptSlots_33 : decode prog_4_method_29_code 33 = .ok (.goto (-31), 3) := by decide +kernel
theorem lr_d_Node_markKeptSlots_36 : decode prog_4_method_29_code 36 = .ok (.iconst 0, 1) := by decide +kernel
theorem lr_d_Node_markKeptSlots_37 : decode prog_4_method_29_code 37 = .ok (.istore_n 1, 1) := by decide +kernel
theorem lr_d_Node_markKeptSlots_38 : decode prog_4_method_29_code 38 = .ok (.iload_n 1, 1) := by decide +kernel
theorem lr_d_Node_markKeptSlots_39 : decode prog_4_method_29_code 39 = .ok (.iconst 3, 1) := by decide +kernel
theorem lr_d_Node_markKeptSlots_40 : decode prog_4_method_29_code 40 = .ok (.if_icmp .ge 19, 3) := by decide +kernel
theorem lr_d_Node_markKeptSlots_43 : decode prog_4_method_29_code 43 = .ok (.aload_n 0, 1) := by decide +kernel
theorem lr_d_Node_markKeptSlots_44 : decode prog_4_method_29_code 44 = .ok (.aload_n 0, 1) := by decide +kernel
theorem lr_d_Node_markKeptSlots_45 : decode prog_4_method_29_code 45 = .ok (.getfield 26, 3) := by decide +kernel
theorem lr_d_Node_markKeptSlots_48 : decode prog_4_method_29_code 48 = .ok (.iload_n 1, 1) := by decide +kernel
theorem lr_d_Node_markKeptSlots_49 : decode prog_4_method_29_code 49 = .ok (.iaload, 1) := by decide +kernel
theorem lr_d_Node_markKeptSlots_50 : decode prog_4_method_29_code 50 = .ok (.invokevirtual 236, 3) := by decide +kernel
theorem lr_d_Node_markKeptSlots_53 : decode prog_4_method_29_code 53 = .ok (.iinc 1 1, 3) := by decide +kernel
theorem lr_d_Node_markKeptSlots_56 : decode prog_4_method_29_code 56 = .ok (.goto (-18), 3) := by decide +kernel
theorem lr_d_Node_markKeptSlots_59 : decode prog_4_method_29_code 59 = .ok (.iconst 0, 1) := by decide +kernel
theorem lr_d_Node_markKeptSlots_60 : decode prog_4_method_29_code 60 = .ok (.istore_n 1, 1) := by decide +kernel
theorem lr_d_Node_markKeptSlots_61 : decode prog_4_method_29_code 61 = .ok (.iload_n 1, 1) := by decide +kernel
theorem lr_d_Node_markKeptSlots_62 : decode prog_4_method_29_code 62 = .ok (.bipush 6, 2) := by decide +kernel
theorem lr_d_Node_markKeptSlots_64 : decode prog_4_method_29_code 64 = .ok (.if_icmp .ge 35, 3) := by decide +kernel
theorem lr_d_Node_markKeptSlots_67 : decode prog_4_method_29_code 67 = .ok (.aload_n 0, 1) := by decide +kernel
theorem lr_d_Node_markKeptSlots_68 : decode prog_4_method_29_code 68 = .ok (.aload_n 0, 1) := by decide +kernel
theorem lr_d_Node_markKeptSlots_69 : decode prog_4_method_29_code 69 = .ok (.getfield 32, 3) := by decide +kernel
theorem lr_d_Node_markKeptSlots_72 : decode prog_4_method_29_code 72 = .ok (.iload_n 1, 1) := by decide +kernel
theorem lr_d_Node_markKeptSlots_73 : decode prog_4_method_29_code 73 = .ok (.aaload, 1) := by decide +kernel
theorem lr_d_Node_markKeptSlots_74 : decode prog_4_method_29_code 74 = .ok (.invokevirtual 82, 3) := by decide +kernel
theorem lr_d_Node_markKeptSlots_77 : decode prog_4_method_29_code 77 = .ok (.ifCond .eq 16, 3) := by decide +kernel
theorem lr_d_Node_markKeptSlots_80 : decode prog_4_method_29_code 80 = .ok (.aload_n 0, 1) := by decide +kernel
theorem lr_d_Node_markKeptSlots_81 : decode prog_4_method_29_code 81 = .ok (.aload_n 0, 1) := by decide +kernel
theorem lr_d_Node_markKeptSlots_82 : decode prog_4_method_29_code 82 = .ok (.getfield 32, 3) := by decide +kernel
theorem lr_d_Node_markKeptSlots_85 : decode prog_4_method_29_code 85 = .ok (.iload_n 1, 1) := by decide +kernel
theorem lr_d_Node_markKeptSlots_86 : decode prog_4_method_29_code 86 = .ok (.aaload, 1) := by decide +kernel
theorem lr_d_Node_markKeptSlots_87 : decode prog_4_method_29_code 87 = .ok (.getfield 98, 3) := by decide +kernel
theorem lr_d_Node_markKeptSlots_90 : decode prog_4_method_29_code 90 = .ok (.invokevirtual 236, 3) := by decide +kernel
theorem lr_d_Node_markKeptSlots_93 : decode prog_4_method_29_code 93 = .ok (.iinc 1 1, 3) := by decide +kernel
theorem lr_d_Node_markKeptSlots_96 : decode prog_4_method_29_code 96 = .ok (.goto (-35), 3) := by decide +kernel
theorem lr_d_Node_markKeptSlots_99 : decode prog_4_method_29_code 99 = .ok (.aload_n 0, 1) := by decide +kernel
theorem lr_d_Node_markKeptSlots_100 : decode prog_4_method_29_code 100 = .ok (.getfield 40, 3) := by decide +kernel
theorem lr_d_Node_markKeptSlots_103 : decode prog_4_method_29_code 103 = .ok (.getfield 44, 3) := by decide +kernel
theorem lr_d_Node_markKeptSlots_106 : decode prog_4_method_29_code 106 = .ok (.iconst 1, 1) := by decide +kernel
theorem lr_d_Node_markKeptSlots_107 : decode prog_4_method_29_code 107 = .ok (.if_icmp .ne 14, 3) := by decide +kernel
theorem lr_d_Node_markKeptSlots_110 : decode prog_4_method_29_code 110 = .ok (.aload_n 0, 1) := by decide +kernel
theorem lr_d_Node_markKeptSlots_111 : decode prog_4_method_29_code 111 = .ok (.aload_n 0, 1) := by decide +kernel
theorem lr_d_Node_markKeptSlots_112 : decode prog_4_method_29_code 112 = .ok (.getfield 40, 3) := by decide +kernel
theorem lr_d_Node_markKeptSlots_115 : decode prog_4_method_29_code 115 = .ok (.getfield 104, 3) := by decide +kernel
theorem lr_d_Node_markKeptSlots_118 : decode prog_4_method_29_code 118 = .ok (.invokevirtual 236, 3) := by decide +kernel
theorem lr_d_Node_markKeptSlots_121 : decode prog_4_method_29_code 121 = .ok (.iconst 0, 1) := by decide +kernel
theorem lr_d_Node_markKeptSlots_122 : decode prog_4_method_29_code 122 = .ok (.istore_n 1, 1) := by decide +kernel
theorem lr_d_Node_markKeptSlots_123 : decode prog_4_method_29_code 123 = .ok (.iload_n 1, 1) := by decide +kernel
theorem lr_d_Node_markKeptSlots_124 : decode prog_4_method_29_code 124 = .ok (.bipush 8, 2) := by decide +kernel
theorem lr_d_Node_markKeptSlots_126 : decode prog_4_method_29_code 126 = .ok (.if_icmp .ge 13, 3) := by decide +kernel
theorem lr_d_Node_markKeptSlots_129 : decode prog_4_method_29_code 129 = .ok (.aload_n 0, 1) := by decide +kernel
theorem lr_d_Node_markKeptSlots_130 : decode prog_4_method_29_code 130 = .ok (.invokevirtual 240, 3) := by decide +kernel
theorem lr_d_Node_markKeptSlots_133 : decode prog_4_method_29_code 133 = .ok (.iinc 1 1, 3) := by decide +kernel
theorem lr_d_Node_markKeptSlots_136 : decode prog_4_method_29_code 136 = .ok (.goto (-13), 3) := by decide +kernel
theorem lr_d_Node_markKeptSlots_139 : decode prog_4_method_29_code 139 = .ok (.return_, 1) := by decide +kernel
theorem lr_d_Node_emptyUnkeptSlots_0 : decode prog_4_method_28_code 0 = .ok (.aload_n 0, 1) := by decide +kernel
theorem lr_d_Node_emptyUnkeptSlots_1 : decode prog_4_method_28_code 1 = .ok (.invokevirtual 227, 3) := by decide +kernel
theorem lr_d_Node_emptyUnkeptSlots_4 : decode prog_4_method_28_code 4 = .ok (.iconst 0, 1) := by decide +kernel
theorem lr_d_Node_emptyUnkeptSlots_5 : decode prog_4_method_28_code 5 = .ok (.istore_n 1, 1) := by decide +kernel
theorem lr_d_Node_emptyUnkeptSlots_6 : decode prog_4_method_28_code 6 = .ok (.iconst 0, 1) := by decide +kernel
theorem lr_d_Node_emptyUnkeptSlots_7 : decode prog_4_method_28_code 7 = .ok (.istore_n 2, 1) := by decide +kernel
theorem lr_d_Node_emptyUnkeptSlots_8 : decode prog_4_method_28_code 8 = .ok (.iload_n 2, 1) := by decide +kernel
theorem lr_d_Node_emptyUnkeptSlots_9 : decode prog_4_method_28_code 9 = .ok (.bipush 8, 2) := by decide +kernel
theorem lr_d_Node_emptyUnkeptSlots_11 : decode prog_4_method_28_code 11 = .ok (.if_icmp .ge 53, 3) := by decide +kernel
theorem lr_d_Node_emptyUnkeptSlots_14 : decode prog_4_method_28_code 14 = .ok (.aload_n 0, 1) := by decide +kernel
theorem lr_d_Node_emptyUnkeptSlots_15 : decode prog_4_method_28_code 15 = .ok (.getfield 21, 3) := by decide +kernel
theorem lr_d_Node_emptyUnkeptSlots_18 : decode prog_4_method_28_code 18 = .ok (.iload_n 2, 1) := by decide +kernel
theorem lr_d_Node_emptyUnkeptSlots_19 : decode prog_4_method_28_code 19 = .ok (.aaload, 1) := by decide +kernel
theorem lr_d_Node_emptyUnkeptSlots_20 : decode prog_4_method_28_code 20 = .ok (.astore_n 3, 1) := by decide +kernel
theorem lr_d_Node_emptyUnkeptSlots_21 : decode prog_4_method_28_code 21 = .ok (.aload_n 3, 1) := by decide +kernel
theorem lr_d_Node_emptyUnkeptSlots_22 : decode prog_4_method_28_code 22 = .ok (.getfield 65, 3) := by decide +kernel
theorem lr_d_Node_emptyUnkeptSlots_25 : decode prog_4_method_28_code 25 = .ok (.ifCond .eq 33, 3) := by decide +kernel
theorem lr_d_Node_emptyUnkeptSlots_28 : decode prog_4_method_28_code 28 = .ok (.aload_n 0, 1) := by decide +kernel
theorem lr_d_Node_emptyUnkeptSlots_29 : decode prog_4_method_28_code 29 = .ok (.getfield 54, 3) := by decide +kernel
theorem lr_d_Node_emptyUnkeptSlots_32 : decode prog_4_method_28_code 32 = .ok (.iload_n 2, 1) := by decide +kernel
theorem lr_d_Node_emptyUnkeptSlots_33 : decode prog_4_method_28_code 33 = .ok (.baload, 1) := by decide +kernel
theorem lr_d_Node_emptyUnkeptSlots_34 : decode prog_4_method_28_code 34 = .ok (.ifCond .ne 24, 3) := by decide +kernel
theorem lr_d_Node_emptyUnkeptSlots_37 : decode prog_4_method_28_code 37 = .ok (.aload_n 3, 1) := by decide +kernel
theorem lr_d_Node_emptyUnkeptSlots_38 : decode prog_4_method_28_code 38 = .ok (.getfield 65, 3) := by decide +kernel
theorem lr_d_Node_emptyUnkeptSlots_41 : decode prog_4_method_28_code 41 = .ok (.iconst 2, 1) := by decide +kernel
theorem lr_d_Node_emptyUnkeptSlots_42 : decode prog_4_method_28_code 42 = .ok (.if_icmp .ne 8, 3) := by decide +kernel
theorem lr_d_Node_emptyUnkeptSlots_45 : decode prog_4_method_28_code 45 = .ok (.aload_n 0, 1) := by decide +kernel
theorem lr_d_Node_emptyUnkeptSlots_46 : decode prog_4_method_28_code 46 = .ok (.aload_n 3, 1) := by decide +kernel
theorem lr_d_Node_emptyUnkeptSlots_47 : decode prog_4_method_28_code 47 = .ok (.invokevirtual 230, 3) := by decide +kernel
theorem lr_d_Node_emptyUnkeptSlots_50 : decode prog_4_method_28_code 50 = .ok (.aload_n 3, 1) := by decide +kernel
theorem lr_d_Node_emptyUnkeptSlots_51 : decode prog_4_method_28_code 51 = .ok (.iconst 0, 1) := by decide +kernel
theorem lr_d_Node_emptyUnkeptSlots_52 : decode prog_4_method_28_code 52 = .ok (.putfield 65, 3) := by decide +kernel
theorem lr_d_Node_emptyUnkeptSlots_55 : decode prog_4_method_28_code 55 = .ok (.iinc 1 1, 3) := by decide +kernel
theorem lr_d_Node_emptyUnkeptSlots_58 : decode prog_4_method_28_code 58 = .ok (.iinc 2 1, 3) := by decide +kernel
theorem lr_d_Node_emptyUnkeptSlots_61 : decode prog_4_method_28_code 61 = .ok (.goto (-53), 3) := by decide +kernel
theorem lr_d_Node_emptyUnkeptSlots_64 : decode prog_4_method_28_code 64 = .ok (.iload_n 1, 1) := by decide +kernel
theorem lr_d_Node_emptyUnkeptSlots_65 : decode prog_4_method_28_code 65 = .ok (.ireturn, 1) := by decide +kernel
theorem lr_d_Request_part_0 : decode prog_6_method_2_code 0 = .ok (.iload_n 1, 1) := by decide +kernel
theorem lr_d_Request_part_1 : decode prog_6_method_2_code 1 = .ok (.tableswitch 42 0 2 #[27, 32, 37], 27) := by decide +kernel
theorem lr_d_Request_part_28 : decode prog_6_method_2_code 28 = .ok (.aload_n 0, 1) := by decide +kernel
theorem lr_d_Request_part_29 : decode prog_6_method_2_code 29 = .ok (.getfield 9, 3) := by decide +kernel
theorem lr_d_Request_part_32 : decode prog_6_method_2_code 32 = .ok (.ireturn, 1) := by decide +kernel
theorem lr_d_Request_part_33 : decode prog_6_method_2_code 33 = .ok (.aload_n 0, 1) := by decide +kernel
theorem lr_d_Request_part_34 : decode prog_6_method_2_code 34 = .ok (.getfield 15, 3) := by decide +kernel
theorem lr_d_Request_part_37 : decode prog_6_method_2_code 37 = .ok (.ireturn, 1) := by decide +kernel
theorem lr_d_Request_part_38 : decode prog_6_method_2_code 38 = .ok (.aload_n 0, 1) := by decide +kernel
theorem lr_d_Request_part_39 : decode prog_6_method_2_code 39 = .ok (.getfield 18, 3) := by decide +kernel
theorem lr_d_Request_part_42 : decode prog_6_method_2_code 42 = .ok (.ireturn, 1) := by decide +kernel
theorem lr_d_Request_part_43 : decode prog_6_method_2_code 43 = .ok (.iconst (-1), 1) := by decide +kernel
theorem lr_d_Request_part_44 : decode prog_6_method_2_code 44 = .ok (.ireturn, 1) := by decide +kernel
theorem lr_d_Slot_holdNewObject_0 : decode prog_7_method_2_code 0 = .ok (.aload_n 0, 1) := by decide +kernel
theorem lr_d_Slot_holdNewObject_1 : decode prog_7_method_2_code 1 = .ok (.iconst 1, 1) := by decide +kernel
theorem lr_d_Slot_holdNewObject_2 : decode prog_7_method_2_code 2 = .ok (.putfield 9, 3) := by decide +kernel
theorem lr_d_Slot_holdNewObject_5 : decode prog_7_method_2_code 5 = .ok (.aload_n 0, 1) := by decide +kernel
theorem lr_d_Slot_holdNewObject_6 : decode prog_7_method_2_code 6 = .ok (.iload_n 1, 1) := by decide +kernel
theorem lr_d_Slot_holdNewObject_7 : decode prog_7_method_2_code 7 = .ok (.putfield 25, 3) := by decide +kernel
theorem lr_d_Slot_holdNewObject_10 : decode prog_7_method_2_code 10 = .ok (.aload_n 0, 1) := by decide +kernel
theorem lr_d_Slot_holdNewObject_11 : decode prog_7_method_2_code 11 = .ok (.iconst 0, 1) := by decide +kernel
theorem lr_d_Slot_holdNewObject_12 : decode prog_7_method_2_code 12 = .ok (.putfield 28, 3) := by decide +kernel
theorem lr_d_Slot_holdNewObject_15 : decode prog_7_method_2_code 15 = .ok (.iconst 0, 1) := by decide +kernel
theorem lr_d_Slot_holdNewObject_16 : decode prog_7_method_2_code 16 = .ok (.istore_n 2, 1) := by decide +kernel
theorem lr_d_Slot_holdNewObject_17 : decode prog_7_method_2_code 17 = .ok (.iload_n 2, 1) := by decide +kernel
theorem lr_d_Slot_holdNewObject_18 : decode prog_7_method_2_code 18 = .ok (.iconst 2, 1) := by decide +kernel
theorem lr_d_Slot_holdNewObject_19 : decode prog_7_method_2_code 19 = .ok (.if_icmp .ge 16, 3) := by decide +kernel
theorem lr_d_Slot_holdNewObject_22 : decode prog_7_method_2_code 22 = .ok (.aload_n 0, 1) := by decide +kernel
theorem lr_d_Slot_holdNewObject_23 : decode prog_7_method_2_code 23 = .ok (.getfield 15, 3) := by decide +kernel
theorem lr_d_Slot_holdNewObject_26 : decode prog_7_method_2_code 26 = .ok (.iload_n 2, 1) := by decide +kernel
theorem lr_d_Slot_holdNewObject_27 : decode prog_7_method_2_code 27 = .ok (.iconst (-1), 1) := by decide +kernel
theorem lr_d_Slot_holdNewObject_28 : decode prog_7_method_2_code 28 = .ok (.iastore, 1) := by decide +kernel
theorem lr_d_Slot_holdNewObject_29 : decode prog_7_method_2_code 29 = .ok (.iinc 2 1, 3) := by decide +kernel
theorem lr_d_Slot_holdNewObject_32 : decode prog_7_method_2_code 32 = .ok (.goto (-15), 3) := by decide +kernel
theorem lr_d_Slot_holdNewObject_35 : decode prog_7_method_2_code 35 = .ok (.iconst 0, 1) := by decide +kernel
theorem lr_d_Slot_holdNewObject_36 : decode prog_7_method_2_code 36 = .ok (.istore_n 2, 1) := by decide +kernel
theorem lr_d_Slot_holdNewObject_37 : decode prog_7_method_2_code 37 = .ok (.iload_n 2, 1) := by decide +kernel
theorem lr_d_Slot_holdNewObject_38 : decode prog_7_method_2_code 38 = .ok (.iconst 4, 1) := by decide +kernel
theorem lr_d_Slot_holdNewObject_39 : decode prog_7_method_2_code 39 = .ok (.if_icmp .ge 23, 3) := by decide +kernel
theorem lr_d_Slot_holdNewObject_42 : decode prog_7_method_2_code 42 = .ok (.aload_n 0, 1) := by decide +kernel
theorem lr_d_Slot_holdNewObject_43 : decode prog_7_method_2_code 43 = .ok (.getfield 19, 3) := by decide +kernel
theorem lr_d_Slot_holdNewObject_46 : decode prog_7_method_2_code 46 = .ok (.iload_n 2, 1) := by decide +kernel
theorem lr_d_Slot_holdNewObject_47 : decode prog_7_method_2_code 47 = .ok (.iconst 0, 1) := by decide +kernel
theorem lr_d_Slot_holdNewObject_48 : decode prog_7_method_2_code 48 = .ok (.iastore, 1) := by decide +kernel
theorem lr_d_Slot_holdNewObject_49 : decode prog_7_method_2_code 49 = .ok (.aload_n 0, 1) := by decide +kernel
theorem lr_d_Slot_holdNewObject_50 : decode prog_7_method_2_code 50 = .ok (.getfield 22, 3) := by decide +kernel
theorem lr_d_Slot_holdNewObject_53 : decode prog_7_method_2_code 53 = .ok (.iload_n 2, 1) := by decide +kernel
theorem lr_d_Slot_holdNewObject_54 : decode prog_7_method_2_code 54 = .ok (.iconst 0, 1) := by decide +kernel
theorem lr_d_Slot_holdNewObject_55 : decode prog_7_method_2_code 55 = .ok (.iastore, 1) := by decide +kernel
theorem lr_d_Slot_holdNewObject_56 : decode prog_7_method_2_code 56 = .ok (.iinc 2 1, 3) := by decide +kernel
theorem lr_d_Slot_holdNewObject_59 : decode prog_7_method_2_code 59 = .ok (.goto (-22), 3) := by decide +kernel
theorem lr_d_Slot_holdNewObject_62 : decode prog_7_method_2_code 62 = .ok (.return_, 1) := by decide +kernel
theorem lr_d_Slot_part_0 : decode prog_7_method_8_code 0 = .ok (.iload_n 1, 1) := by decide +kernel
theorem lr_d_Slot_part_1 : decode prog_7_method_8_code 1 = .ok (.ifCond .ne 8, 3) := by decide +kernel
theorem lr_d_Slot_part_4 : decode prog_7_method_8_code 4 = .ok (.aload_n 0, 1) := by decide +kernel
theorem lr_d_Slot_part_5 : decode prog_7_method_8_code 5 = .ok (.getfield 9, 3) := by decide +kernel
theorem lr_d_Slot_part_8 : decode prog_7_method_8_code 8 = .ok (.ireturn, 1) := by decide +kernel
theorem lr_d_Slot_part_9 : decode prog_7_method_8_code 9 = .ok (.aload_n 0, 1) := by decide +kernel
theorem lr_d_Slot_part_10 : decode prog_7_method_8_code 10 = .ok (.getfield 9, 3) := by decide +kernel
theorem lr_d_Slot_part_13 : decode prog_7_method_8_code 13 = .ok (.ifCond .ne 5, 3) := by decide +kernel
theorem lr_d_Slot_part_16 : decode prog_7_method_8_code 16 = .ok (.iconst (-1), 1) := by decide +kernel
theorem lr_d_Slot_part_17 : decode prog_7_method_8_code 17 = .ok (.ireturn, 1) := by decide +kernel
theorem lr_d_Slot_part_18 : decode prog_7_method_8_code 18 = .ok (.aload_n 0, 1) := by decide +kernel
theorem lr_d_Slot_part_19 : decode prog_7_method_8_code 19 = .ok (.getfield 9, 3) := by decide +kernel
theorem lr_d_Slot_part_22 : decode prog_7_method_8_code 22 = .ok (.iconst 1, 1) := by decide +kernel
theorem lr_d_Slot_part_23 : decode prog_7_method_8_code 23 = .ok (.if_icmp .ne 7, 3) := by decide +kernel
theorem lr_d_Slot_part_26 : decode prog_7_method_8_code 26 = .ok (.iconst 1, 1) := by decide +kernel
theorem lr_d_Slot_part_27 : decode prog_7_method_8_code 27 = .ok (.goto 4, 3) := by decide +kernel
theorem lr_d_Slot_part_30 : decode prog_7_method_8_code 30 = .ok (.iconst 0, 1) := by decide +kernel
theorem lr_d_Slot_part_31 : decode prog_7_method_8_code 31 = .ok (.istore_n 3, 1) := by decide +kernel
theorem lr_d_Slot_part_32 : decode prog_7_method_8_code 32 = .ok (.iload_n 1, 1) := by decide +kernel
theorem lr_d_Slot_part_33 : decode prog_7_method_8_code 33 = .ok (.tableswitch 89 1 4 #[31, 36, 53, 71], 31) := by decide +kernel
theorem lr_d_Slot_part_64 : decode prog_7_method_8_code 64 = .ok (.aload_n 0, 1) := by decide +kernel
theorem lr_d_Slot_part_65 : decode prog_7_method_8_code 65 = .ok (.getfield 25, 3) := by decide +kernel
theorem lr_d_Slot_part_68 : decode prog_7_method_8_code 68 = .ok (.ireturn, 1) := by decide +kernel
theorem lr_d_Slot_part_69 : decode prog_7_method_8_code 69 = .ok (.iload_n 3, 1) := by decide +kernel
theorem lr_d_Slot_part_70 : decode prog_7_method_8_code 70 = .ok (.ifCond .eq 10, 3) := by decide +kernel
theorem lr_d_Slot_part_73 : decode prog_7_method_8_code 73 = .ok (.aload_n 0, 1) := by decide +kernel
theorem lr_d_Slot_part_74 : decode prog_7_method_8_code 74 = .ok (.getfield 28, 3) := by decide +kernel
theorem lr_d_Slot_part_77 : decode prog_7_method_8_code 77 = .ok (.goto 8, 3) := by decide +kernel
theorem lr_d_Slot_part_80 : decode prog_7_method_8_code 80 = .ok (.aload_n 0, 1) := by decide +kernel
theorem lr_d_Slot_part_81 : decode prog_7_method_8_code 81 = .ok (.iload_n 2, 1) := by decide +kernel
theorem lr_d_Slot_part_82 : decode prog_7_method_8_code 82 = .ok (.invokevirtual 41, 3) := by decide +kernel
theorem lr_d_Slot_part_85 : decode prog_7_method_8_code 85 = .ok (.ireturn, 1) := by decide +kernel
theorem lr_d_Slot_part_86 : decode prog_7_method_8_code 86 = .ok (.iload_n 3, 1) := by decide +kernel
theorem lr_d_Slot_part_87 : decode prog_7_method_8_code 87 = .ok (.ifCond .eq 12, 3) := by decide +kernel
theorem lr_d_Slot_part_90 : decode prog_7_method_8_code 90 = .ok (.aload_n 0, 1) := by decide +kernel
theorem lr_d_Slot_part_91 : decode prog_7_method_8_code 91 = .ok (.getfield 15, 3) := by decide +kernel
theorem lr_d_Slot_part_94 : decode prog_7_method_8_code 94 = .ok (.iconst 0, 1) := by decide +kernel
theorem lr_d_Slot_part_95 : decode prog_7_method_8_code 95 = .ok (.iaload, 1) := by decide +kernel
theorem lr_d_Slot_part_96 : decode prog_7_method_8_code 96 = .ok (.goto 7, 3) := by decide +kernel
theorem lr_d_Slot_part_99 : decode prog_7_method_8_code 99 = .ok (.aload_n 0, 1) := by decide +kernel
theorem lr_d_Slot_part_100 : decode prog_7_method_8_code 100 = .ok (.getfield 34, 3) := by decide +kernel
theorem lr_d_Slot_part_103 : decode prog_7_method_8_code 103 = .ok (.ireturn, 1) := by decide +kernel
theorem lr_d_Slot_part_104 : decode prog_7_method_8_code 104 = .ok (.iload_n 3, 1) := by decide +kernel
theorem lr_d_Slot_part_105 : decode prog_7_method_8_code 105 = .ok (.ifCond .eq 12, 3) := by decide +kernel
theorem lr_d_Slot_part_108 : decode prog_7_method_8_code 108 = .ok (.aload_n 0, 1) := by decide +kernel
theorem lr_d_Slot_part_109 : decode prog_7_method_8_code 109 = .ok (.getfield 15, 3) := by decide +kernel
theorem lr_d_Slot_part_112 : decode prog_7_method_8_code 112 = .ok (.iconst 1, 1) := by decide +kernel
theorem lr_d_Slot_part_113 : decode prog_7_method_8_code 113 = .ok (.iaload, 1) := by decide +kernel
theorem lr_d_Slot_part_114 : decode prog_7_method_8_code 114 = .ok (.goto 7, 3) := by decide +kernel
theorem lr_d_Slot_part_117 : decode prog_7_method_8_code 117 = .ok (.aload_n 0, 1) := by decide +kernel
theorem lr_d_Slot_part_118 : decode prog_7_method_8_code 118 = .ok (.getfield 31, 3) := by decide +kernel
theorem lr_d_Slot_part_121 : decode prog_7_method_8_code 121 = .ok (.ireturn, 1) := by decide +kernel
theorem lr_d_Slot_part_122 : decode prog_7_method_8_code 122 = .ok (.iconst (-1), 1) := by decide +kernel
theorem lr_d_Slot_part_123 : decode prog_7_method_8_code 123 = .ok (.ireturn, 1) := by decide +kernel
theorem lr_d_X_isNode_0 : decode prog_1_method_22_code 0 = .ok (.iload_n 0, 1) := by decide +kernel
theorem lr_d_X_isNode_1 : decode prog_1_method_22_code 1 = .ok (.ifCond .lt 12, 3) := by decide +kernel
theorem lr_d_X_isNode_4 : decode prog_1_method_22_code 4 = .ok (.iload_n 0, 1) := by decide +kernel
theorem lr_d_X_isNode_5 : decode prog_1_method_22_code 5 = .ok (.iconst 4, 1) := by decide +kernel
theorem lr_d_X_isNode_6 : decode prog_1_method_22_code 6 = .ok (.if_icmp .ge 7, 3) := by decide +kernel
theorem lr_d_X_isNode_9 : decode prog_1_method_22_code 9 = .ok (.iconst 1, 1) := by decide +kernel
theorem lr_d_X_isNode_10 : decode prog_1_method_22_code 10 = .ok (.goto 4, 3) := by decide +kernel
theorem lr_d_X_isNode_13 : decode prog_1_method_22_code 13 = .ok (.iconst 0, 1) := by decide +kernel
theorem lr_d_X_isNode_14 : decode prog_1_method_22_code 14 = .ok (.ireturn, 1) := by decide +kernel
theorem lr_d_X_acts_0 : decode prog_1_method_21_code 0 = .ok (.iload_n 1, 1) := by decide +kernel
theorem lr_d_X_acts_1 : decode prog_1_method_21_code 1 = .ok (.invokestatic 74, 3) := by decide +kernel
theorem lr_d_X_acts_4 : decode prog_1_method_21_code 4 = .ok (.ifCond .eq 19, 3) := by decide +kernel
theorem lr_d_X_acts_7 : decode prog_1_method_21_code 7 = .ok (.aload_n 0, 1) := by decide +kernel
theorem lr_d_X_acts_8 : decode prog_1_method_21_code 8 = .ok (.getfield 18, 3) := by decide +kernel
theorem lr_d_X_acts_11 : decode prog_1_method_21_code 11 = .ok (.iload_n 1, 1) := by decide +kernel
theorem lr_d_X_acts_12 : decode prog_1_method_21_code 12 = .ok (.aaload, 1) := by decide +kernel
theorem lr_d_X_acts_13 : decode prog_1_method_21_code 13 = .ok (.getfield 139, 3) := by decide +kernel
theorem lr_d_X_acts_16 : decode prog_1_method_21_code 16 = .ok (.ifCond .ne 7, 3) := by decide +kernel
theorem lr_d_X_acts_19 : decode prog_1_method_21_code 19 = .ok (.iconst 1, 1) := by decide +kernel
theorem lr_d_X_acts_20 : decode prog_1_method_21_code 20 = .ok (.goto 4, 3) := by decide +kernel
theorem lr_d_X_acts_23 : decode prog_1_method_21_code 23 = .ok (.iconst 0, 1) := by decide +kernel
theorem lr_d_X_acts_24 : decode prog_1_method_21_code 24 = .ok (.ireturn, 1) := by decide +kernel
theorem lr_d_X_isRoot_0 : decode prog_1_method_23_code 0 = .ok (.iload_n 0, 1) := by decide +kernel
theorem lr_d_X_isRoot_1 : decode prog_1_method_23_code 1 = .ok (.ifCond .lt 12, 3) := by decide +kernel
theorem lr_d_X_isRoot_4 : decode prog_1_method_23_code 4 = .ok (.iload_n 0, 1) := by decide +kernel
theorem lr_d_X_isRoot_5 : decode prog_1_method_23_code 5 = .ok (.iconst 3, 1) := by decide +kernel
theorem lr_d_X_isRoot_6 : decode prog_1_method_23_code 6 = .ok (.if_icmp .ge 7, 3) := by decide +kernel
theorem lr_d_X_isRoot_9 : decode prog_1_method_23_code 9 = .ok (.iconst 1, 1) := by decide +kernel
theorem lr_d_X_isRoot_10 : decode prog_1_method_23_code 10 = .ok (.goto 4, 3) := by decide +kernel
theorem lr_d_X_isRoot_13 : decode prog_1_method_23_code 13 = .ok (.iconst 0, 1) := by decide +kernel
theorem lr_d_X_isRoot_14 : decode prog_1_method_23_code 14 = .ok (.ireturn, 1) := by decide +kernel
