theorem lr_d_M_dirtyComes_0 : decode prog_9_method_32_code 0 = .ok (.aload_n 0, 1) := by decide +kernel
theorem lr_d_M_dirtyComes_1 : decode prog_9_method_32_code 1 = .ok (.iload_n 1, 1) := by decide +kernel
theorem lr_d_M_dirtyComes_2 : decode prog_9_method_32_code 2 = .ok (.iconst 1, 1) := by decide +kernel
theorem lr_d_M_dirtyComes_3 : decode prog_9_method_32_code 3 = .ok (.aload_n 0, 1) := by decide +kernel
theorem lr_d_M_dirtyComes_4 : decode prog_9_method_32_code 4 = .ok (.getfield 62, 3) := by decide +kernel
theorem lr_d_M_dirtyComes_7 : decode prog_9_method_32_code 7 = .ok (.iconst 3, 1) := by decide +kernel
theorem lr_d_M_dirtyComes_8 : decode prog_9_method_32_code 8 = .ok (.iaload, 1) := by decide +kernel
theorem lr_d_M_dirtyComes_9 : decode prog_9_method_32_code 9 = .ok (.invokevirtual 199, 3) := by decide +kernel
theorem lr_d_M_dirtyComes_12 : decode prog_9_method_32_code 12 = .ok (.istore_n 3, 1) := by decide +kernel
theorem lr_d_M_dirtyComes_13 : decode prog_9_method_32_code 13 = .ok (.iload_n 3, 1) := by decide +kernel
theorem lr_d_M_dirtyComes_14 : decode prog_9_method_32_code 14 = .ok (.ifCond .ge 30, 3) := by decide +kernel
theorem lr_d_M_dirtyComes_17 : decode prog_9_method_32_code 17 = .ok (.aload_n 0, 1) := by decide +kernel
theorem lr_d_M_dirtyComes_18 : decode prog_9_method_32_code 18 = .ok (.iconst 4, 1) := by decide +kernel
theorem lr_d_M_dirtyComes_19 : decode prog_9_method_32_code 19 = .ok (.iload_n 1, 1) := by decide +kernel
theorem lr_d_M_dirtyComes_20 : decode prog_9_method_32_code 20 = .ok (.iload_n 2, 1) := by decide +kernel
theorem lr_d_M_dirtyComes_21 : decode prog_9_method_32_code 21 = .ok (.aload_n 0, 1) := by decide +kernel
theorem lr_d_M_dirtyComes_22 : decode prog_9_method_32_code 22 = .ok (.getfield 62, 3) := by decide +kernel
theorem lr_d_M_dirtyComes_25 : decode prog_9_method_32_code 25 = .ok (.iconst 3, 1) := by decide +kernel
theorem lr_d_M_dirtyComes_26 : decode prog_9_method_32_code 26 = .ok (.iaload, 1) := by decide +kernel
theorem lr_d_M_dirtyComes_27 : decode prog_9_method_32_code 27 = .ok (.aload_n 0, 1) := by decide +kernel
theorem lr_d_M_dirtyComes_28 : decode prog_9_method_32_code 28 = .ok (.getfield 62, 3) := by decide +kernel
theorem lr_d_M_dirtyComes_31 : decode prog_9_method_32_code 31 = .ok (.iconst 4, 1) := by decide +kernel
theorem lr_d_M_dirtyComes_32 : decode prog_9_method_32_code 32 = .ok (.iaload, 1) := by decide +kernel
theorem lr_d_M_dirtyComes_33 : decode prog_9_method_32_code 33 = .ok (.aload_n 0, 1) := by decide +kernel
theorem lr_d_M_dirtyComes_34 : decode prog_9_method_32_code 34 = .ok (.getfield 62, 3) := by decide +kernel
theorem lr_d_M_dirtyComes_37 : decode prog_9_method_32_code 37 = .ok (.iconst 5, 1) := by decide +kernel
theorem lr_d_M_dirtyComes_38 : decode prog_9_method_32_code 38 = .ok (.iaload, 1) := by decide +kernel
theorem lr_d_M_dirtyComes_39 : decode prog_9_method_32_code 39 = .ok (.invokevirtual 126, 3) := by decide +kernel
theorem lr_d_M_dirtyComes_42 : decode prog_9_method_32_code 42 = .ok (.iconst 1, 1) := by decide +kernel
theorem lr_d_M_dirtyComes_43 : decode prog_9_method_32_code 43 = .ok (.ireturn, 1) := by decide +kernel
theorem lr_d_M_dirtyComes_44 : decode prog_9_method_32_code 44 = .ok (.iconst 4, 1) := by decide +kernel
theorem lr_d_M_dirtyComes_45 : decode prog_9_method_32_code 45 = .ok (.iload_n 3, 1) := by decide +kernel
theorem lr_d_M_dirtyComes_46 : decode prog_9_method_32_code 46 = .ok (.imul, 1) := by decide +kernel
theorem lr_d_M_dirtyComes_47 : decode prog_9_method_32_code 47 = .ok (.iload_n 2, 1) := by decide +kernel
theorem lr_d_M_dirtyComes_48 : decode prog_9_method_32_code 48 = .ok (.iadd, 1) := by decide +kernel
theorem lr_d_M_dirtyComes_49 : decode prog_9_method_32_code 49 = .ok (.istore 4, 2) := by decide +kernel
theorem lr_d_M_dirtyComes_51 : decode prog_9_method_32_code 51 = .ok (.aload_n 0, 1) := by decide +kernel
theorem lr_d_M_dirtyComes_52 : decode prog_9_method_32_code 52 = .ok (.getfield 62, 3) := by decide +kernel
theorem lr_d_M_dirtyComes_55 : decode prog_9_method_32_code 55 = .ok (.iconst 4, 1) := by decide +kernel
theorem lr_d_M_dirtyComes_56 : decode prog_9_method_32_code 56 = .ok (.iaload, 1) := by decide +kernel
theorem lr_d_M_dirtyComes_57 : decode prog_9_method_32_code 57 = .ok (.aload_n 0, 1) := by decide +kernel
theorem lr_d_M_dirtyComes_58 : decode prog_9_method_32_code 58 = .ok (.getfield 32, 3) := by decide +kernel
theorem lr_d_M_dirtyComes_61 : decode prog_9_method_32_code 61 = .ok (.iload 4, 2) := by decide +kernel
theorem lr_d_M_dirtyComes_63 : decode prog_9_method_32_code 63 = .ok (.iaload, 1) := by decide +kernel
theorem lr_d_M_dirtyComes_64 : decode prog_9_method_32_code 64 = .ok (.if_icmp .le 7, 3) := by decide +kernel
theorem lr_d_M_dirtyComes_67 : decode prog_9_method_32_code 67 = .ok (.iconst 1, 1) := by decide +kernel
theorem lr_d_M_dirtyComes_68 : decode prog_9_method_32_code 68 = .ok (.goto 4, 3) := by decide +kernel
theorem lr_d_M_dirtyComes_71 : decode prog_9_method_32_code 71 = .ok (.iconst 0, 1) := by decide +kernel
theorem lr_d_M_dirtyComes_72 : decode prog_9_method_32_code 72 = .ok (.istore 5, 2) := by decide +kernel
theorem lr_d_M_dirtyComes_74 : decode prog_9_method_32_code 74 = .ok (.iload 5, 2) := by decide +kernel
theorem lr_d_M_dirtyComes_76 : decode prog_9_method_32_code 76 = .ok (.ifCond .eq 30, 3) := by decide +kernel
theorem lr_d_M_dirtyComes_79 : decode prog_9_method_32_code 79 = .ok (.aload_n 0, 1) := by decide +kernel
theorem lr_d_M_dirtyComes_80 : decode prog_9_method_32_code 80 = .ok (.getfield 32, 3) := by decide +kernel
theorem lr_d_M_dirtyComes_83 : decode prog_9_method_32_code 83 = .ok (.iload 4, 2) := by decide +kernel
theorem lr_d_M_dirtyComes_85 : decode prog_9_method_32_code 85 = .ok (.aload_n 0, 1) := by decide +kernel
theorem lr_d_M_dirtyComes_86 : decode prog_9_method_32_code 86 = .ok (.getfield 62, 3) := by decide +kernel
theorem lr_d_M_dirtyComes_89 : decode prog_9_method_32_code 89 = .ok (.iconst 4, 1) := by decide +kernel
theorem lr_d_M_dirtyComes_90 : decode prog_9_method_32_code 90 = .ok (.iaload, 1) := by decide +kernel
theorem lr_d_M_dirtyComes_91 : decode prog_9_method_32_code 91 = .ok (.iastore, 1) := by decide +kernel
theorem lr_d_M_dirtyComes_92 : decode prog_9_method_32_code 92 = .ok (.aload_n 0, 1) := by decide +kernel
theorem lr_d_M_dirtyComes_93 : decode prog_9_method_32_code 93 = .ok (.getfield 35, 3) := by decide +kernel
theorem lr_d_M_dirtyComes_96 : decode prog_9_method_32_code 96 = .ok (.iload 4, 2) := by decide +kernel
theorem lr_d_M_dirtyComes_98 : decode prog_9_method_32_code 98 = .ok (.aload_n 0, 1) := by decide +kernel
theorem lr_d_M_dirtyComes_99 : decode prog_9_method_32_code 99 = .ok (.getfield 119, 3) := by decide +kernel
theorem lr_d_M_dirtyComes_102 : decode prog_9_method_32_code 102 = .ok (.bipush 24, 2) := by decide +kernel
theorem lr_d_M_dirtyComes_104 : decode prog_9_method_32_code 104 = .ok (.iadd, 1) := by decide +kernel
theorem lr_d_M_dirtyComes_105 : decode prog_9_method_32_code 105 = .ok (.iastore, 1) := by decide +kernel
theorem lr_d_M_dirtyComes_106 : decode prog_9_method_32_code 106 = .ok (.aload_n 0, 1) := by decide +kernel
theorem lr_d_M_dirtyComes_107 : decode prog_9_method_32_code 107 = .ok (.getfield 35, 3) := by decide +kernel
theorem lr_d_M_dirtyComes_110 : decode prog_9_method_32_code 110 = .ok (.iload 4, 2) := by decide +kernel
theorem lr_d_M_dirtyComes_112 : decode prog_9_method_32_code 112 = .ok (.iaload, 1) := by decide +kernel
theorem lr_d_M_dirtyComes_113 : decode prog_9_method_32_code 113 = .ok (.aload_n 0, 1) := by decide +kernel
theorem lr_d_M_dirtyComes_114 : decode prog_9_method_32_code 114 = .ok (.getfield 119, 3) := by decide +kernel
theorem lr_d_M_dirtyComes_117 : decode prog_9_method_32_code 117 = .ok (.if_icmp .le 7, 3) := by decide +kernel
theorem lr_d_M_dirtyComes_120 : decode prog_9_method_32_code 120 = .ok (.iconst 1, 1) := by decide +kernel
theorem lr_d_M_dirtyComes_121 : decode prog_9_method_32_code 121 = .ok (.goto 4, 3) := by decide +kernel
theorem lr_d_M_dirtyComes_124 : decode prog_9_method_32_code 124 = .ok (.iconst 0, 1) := by decide +kernel
theorem lr_d_M_dirtyComes_125 : decode prog_9_method_32_code 125 = .ok (.istore 6, 2) := by decide +kernel
theorem lr_d_M_dirtyComes_127 : decode prog_9_method_32_code 127 = .ok (.iload 6, 2) := by decide +kernel
theorem lr_d_M_dirtyComes_129 : decode prog_9_method_32_code 129 = .ok (.ifCond .eq 28, 3) := by decide +kernel
theorem lr_d_M_dirtyComes_132 : decode prog_9_method_32_code 132 = .ok (.aload_n 0, 1) := by decide +kernel
theorem lr_d_M_dirtyComes_133 : decode prog_9_method_32_code 133 = .ok (.iconst 3, 1) := by decide +kernel
theorem lr_d_M_dirtyComes_134 : decode prog_9_method_32_code 134 = .ok (.iload_n 1, 1) := by decide +kernel
theorem lr_d_M_dirtyComes_135 : decode prog_9_method_32_code 135 = .ok (.iload_n 2, 1) := by decide +kernel
theorem lr_d_M_dirtyComes_136 : decode prog_9_method_32_code 136 = .ok (.aload_n 0, 1) := by decide +kernel
theorem lr_d_M_dirtyComes_137 : decode prog_9_method_32_code 137 = .ok (.getfield 62, 3) := by decide +kernel
theorem lr_d_M_dirtyComes_140 : decode prog_9_method_32_code 140 = .ok (.iconst 3, 1) := by decide +kernel
theorem lr_d_M_dirtyComes_141 : decode prog_9_method_32_code 141 = .ok (.iaload, 1) := by decide +kernel
theorem lr_d_M_dirtyComes_142 : decode prog_9_method_32_code 142 = .ok (.aload_n 0, 1) := by decide +kernel
theorem lr_d_M_dirtyComes_143 : decode prog_9_method_32_code 143 = .ok (.getfield 62, 3) := by decide +kernel
theorem lr_d_M_dirtyComes_146 : decode prog_9_method_32_code 146 = .ok (.iconst 4, 1) := by decide +kernel
theorem lr_d_M_dirtyComes_147 : decode prog_9_method_32_code 147 = .ok (.iaload, 1) := by decide +kernel
theorem lr_d_M_dirtyComes_148 : decode prog_9_method_32_code 148 = .ok (.aload_n 0, 1) := by decide +kernel
theorem lr_d_M_dirtyComes_149 : decode prog_9_method_32_code 149 = .ok (.getfield 62, 3) := by decide +kernel
theorem lr_d_M_dirtyComes_152 : decode prog_9_method_32_code 152 = .ok (.iconst 5, 1) := by decide +kernel
theorem lr_d_M_dirtyComes_153 : decode prog_9_method_32_code 153 = .ok (.iaload, 1) := by decide +kernel
theorem lr_d_M_dirtyComes_154 : decode prog_9_method_32_code 154 = .ok (.invokevirtual 126, 3) := by decide +kernel
theorem lr_d_M_dirtyComes_157 : decode prog_9_method_32_code 157 = .ok (.iload 6, 2) := by decide +kernel
theorem lr_d_M_dirtyComes_159 : decode prog_9_method_32_code 159 = .ok (.ireturn, 1) := by decide +kernel
theorem lr_d_M_listedComes_0 : decode prog_9_method_33_code 0 = .ok (.aload_n 0, 1) := by decide +kernel
theorem lr_d_M_listedComes_1 : decode prog_9_method_33_code 1 = .ok (.iload_n 1, 1) := by decide +kernel
theorem lr_d_M_listedComes_2 : decode prog_9_method_33_code 2 = .ok (.iconst 2, 1) := by decide +kernel
theorem lr_d_M_listedComes_3 : decode prog_9_method_33_code 3 = .ok (.aload_n 0, 1) := by decide +kernel
theorem lr_d_M_listedComes_4 : decode prog_9_method_33_code 4 = .ok (.getfield 62, 3) := by decide +kernel
theorem lr_d_M_listedComes_7 : decode prog_9_method_33_code 7 = .ok (.iconst 3, 1) := by decide +kernel
theorem lr_d_M_listedComes_8 : decode prog_9_method_33_code 8 = .ok (.iaload, 1) := by decide +kernel
theorem lr_d_M_listedComes_9 : decode prog_9_method_33_code 9 = .ok (.invokevirtual 199, 3) := by decide +kernel
theorem lr_d_M_listedComes_12 : decode prog_9_method_33_code 12 = .ok (.istore_n 3, 1) := by decide +kernel
theorem lr_d_M_listedComes_13 : decode prog_9_method_33_code 13 = .ok (.iload_n 3, 1) := by decide +kernel
theorem lr_d_M_listedComes_14 : decode prog_9_method_33_code 14 = .ok (.ifCond .lt 26, 3) := by decide +kernel
theorem lr_d_M_listedComes_17 : decode prog_9_method_33_code 17 = .ok (.aload_n 0, 1) := by decide +kernel
theorem lr_d_M_listedComes_18 : decode prog_9_method_33_code 18 = .ok (.iload_n 3, 1) := by decide +kernel
theorem lr_d_M_listedComes_19 : decode prog_9_method_33_code 19 = .ok (.invokevirtual 149, 3) := by decide +kernel
theorem lr_d_M_listedComes_22 : decode prog_9_method_33_code 22 = .ok (.ifCond .ne 18, 3) := by decide +kernel
theorem lr_d_M_listedComes_25 : decode prog_9_method_33_code 25 = .ok (.aload_n 0, 1) := by decide +kernel
theorem lr_d_M_listedComes_26 : decode prog_9_method_33_code 26 = .ok (.getfield 62, 3) := by decide +kernel
theorem lr_d_M_listedComes_29 : decode prog_9_method_33_code 29 = .ok (.iconst 4, 1) := by decide +kernel
theorem lr_d_M_listedComes_30 : decode prog_9_method_33_code 30 = .ok (.iaload, 1) := by decide +kernel
theorem lr_d_M_listedComes_31 : decode prog_9_method_33_code 31 = .ok (.aload_n 0, 1) := by decide +kernel
theorem lr_d_M_listedComes_32 : decode prog_9_method_33_code 32 = .ok (.getfield 41, 3) := by decide +kernel
theorem lr_d_M_listedComes_35 : decode prog_9_method_33_code 35 = .ok (.iload_n 3, 1) := by decide +kernel
theorem lr_d_M_listedComes_36 : decode prog_9_method_33_code 36 = .ok (.iaload, 1) := by decide +kernel
theorem lr_d_M_listedComes_37 : decode prog_9_method_33_code 37 = .ok (.if_icmp .ge 5, 3) := by decide +kernel
theorem lr_d_M_listedComes_40 : decode prog_9_method_33_code 40 = .ok (.iconst 0, 1) := by decide +kernel
theorem lr_d_M_listedComes_41 : decode prog_9_method_33_code 41 = .ok (.ireturn, 1) := by decide +kernel
theorem lr_d_M_listedComes_42 : decode prog_9_method_33_code 42 = .ok (.iload_n 2, 1) := by decide +kernel
theorem lr_d_M_listedComes_43 : decode prog_9_method_33_code 43 = .ok (.iconst 4, 1) := by decide +kernel
theorem lr_d_M_listedComes_44 : decode prog_9_method_33_code 44 = .ok (.if_icmp .ne 15, 3) := by decide +kernel
theorem lr_d_M_listedComes_47 : decode prog_9_method_33_code 47 = .ok (.aload_n 0, 1) := by decide +kernel
theorem lr_d_M_listedComes_48 : decode prog_9_method_33_code 48 = .ok (.getfield 47, 3) := by decide +kernel
theorem lr_d_M_listedComes_51 : decode prog_9_method_33_code 51 = .ok (.iload_n 3, 1) := by decide +kernel
theorem lr_d_M_listedComes_52 : decode prog_9_method_33_code 52 = .ok (.aload_n 0, 1) := by decide +kernel
theorem lr_d_M_listedComes_53 : decode prog_9_method_33_code 53 = .ok (.getfield 119, 3) := by decide +kernel
theorem lr_d_M_listedComes_56 : decode prog_9_method_33_code 56 = .ok (.iastore, 1) := by decide +kernel
theorem lr_d_M_listedComes_57 : decode prog_9_method_33_code 57 = .ok (.iconst 1, 1) := by decide +kernel
theorem lr_d_M_listedComes_58 : decode prog_9_method_33_code 58 = .ok (.ireturn, 1) := by decide +kernel
theorem lr_d_M_listedComes_59 : decode prog_9_method_33_code 59 = .ok (.aload_n 0, 1) := by decide +kernel
theorem lr_d_M_listedComes_60 : decode prog_9_method_33_code 60 = .ok (.getfield 47, 3) := by decide +kernel
theorem lr_d_M_listedComes_63 : decode prog_9_method_33_code 63 = .ok (.iload_n 3, 1) := by decide +kernel
theorem lr_d_M_listedComes_64 : decode prog_9_method_33_code 64 = .ok (.aload_n 0, 1) := by decide +kernel
theorem lr_d_M_listedComes_65 : decode prog_9_method_33_code 65 = .ok (.getfield 62, 3) := by decide +kernel
theorem lr_d_M_listedComes_68 : decode prog_9_method_33_code 68 = .ok (.iconst 5, 1) := by decide +kernel
theorem lr_d_M_listedComes_69 : decode prog_9_method_33_code 69 = .ok (.iaload, 1) := by decide +kernel
theorem lr_d_M_listedComes_70 : decode prog_9_method_33_code 70 = .ok (.bipush 24, 2) := by decide +kernel
theorem lr_d_M_listedComes_72 : decode prog_9_method_33_code 72 = .ok (.iadd, 1) := by decide +kernel
theorem lr_d_M_listedComes_73 : decode prog_9_method_33_code 73 = .ok (.aload_n 0, 1) := by decide +kernel
theorem lr_d_M_listedComes_74 : decode prog_9_method_33_code 74 = .ok (.getfield 47, 3) := by decide +kernel
theorem lr_d_M_listedComes_77 : decode prog_9_method_33_code 77 = .ok (.iload_n 3, 1) := by decide +kernel
theorem lr_d_M_listedComes_78 : decode prog_9_method_33_code 78 = .ok (.iaload, 1) := by decide +kernel
theorem lr_d_M_listedComes_79 : decode prog_9_method_33_code 79 = .ok (.if_icmp .le 15, 3) := by decide +kernel
theorem lr_d_M_listedComes_82 : decode prog_9_method_33_code 82 = .ok (.aload_n 0, 1) := by decide +kernel
theorem lr_d_M_listedComes_83 : decode prog_9_method_33_code 83 = .ok (.getfield 62, 3) := by decide +kernel
theorem lr_d_M_listedComes_86 : decode prog_9_method_33_code 86 = .ok (.iconst 5, 1) := by decide +kernel
theorem lr_d_M_listedComes_87 : decode prog_9_method_33_code 87 = .ok (.iaload, 1) := by decide +kernel
theorem lr_d_M_listedComes_88 : decode prog_9_method_33_code 88 = .ok (.bipush 24, 2) := by decide +kernel
theorem lr_d_M_listedComes_90 : decode prog_9_method_33_code 90 = .ok (.iadd, 1) := by decide +kernel
theorem lr_d_M_listedComes_91 : decode prog_9_method_33_code 91 = .ok (.goto 9, 3) := by decide +kernel
theorem lr_d_M_listedComes_94 : decode prog_9_method_33_code 94 = .ok (.aload_n 0, 1) := by decide +kernel
theorem lr_d_M_listedComes_95 : decode prog_9_method_33_code 95 = .ok (.getfield 47, 3) := by decide +kernel
theorem lr_d_M_listedComes_98 : decode prog_9_method_33_code 98 = .ok (.iload_n 3, 1) := by decide +kernel
theorem lr_d_M_listedComes_99 : decode prog_9_method_33_code 99 = .ok (.iaload, 1) := by decide +kernel
theorem lr_d_M_listedComes_100 : decode prog_9_method_33_code 100 = .ok (.iastore, 1) := by decide +kernel
theorem lr_d_M_listedComes_101 : decode prog_9_method_33_code 101 = .ok (.aload_n 0, 1) := by decide +kernel
theorem lr_d_M_listedComes_102 : decode prog_9_method_33_code 102 = .ok (.getfield 50, 3) := by decide +kernel
theorem lr_d_M_listedComes_105 : decode prog_9_method_33_code 105 = .ok (.iload_n 3, 1) := by decide +kernel
theorem lr_d_M_listedComes_106 : decode prog_9_method_33_code 106 = .ok (.baload, 1) := by decide +kernel
theorem lr_d_M_listedComes_107 : decode prog_9_method_33_code 107 = .ok (.ifCond .ne 35, 3) := by decide +kernel
theorem lr_d_M_listedComes_110 : decode prog_9_method_33_code 110 = .ok (.aload_n 0, 1) := by decide +kernel
theorem lr_d_M_listedComes_111 : decode prog_9_method_33_code 111 = .ok (.getfield 50, 3) := by decide +kernel
theorem lr_d_M_listedComes_114 : decode prog_9_method_33_code 114 = .ok (.iload_n 3, 1) := by decide +kernel
theorem lr_d_M_listedComes_115 : decode prog_9_method_33_code 115 = .ok (.iconst 1, 1) := by decide +kernel
theorem lr_d_M_listedComes_116 : decode prog_9_method_33_code 116 = .ok (.bastore, 1) := by decide +kernel
theorem lr_d_M_listedComes_117 : decode prog_9_method_33_code 117 = .ok (.aload_n 0, 1) := by decide +kernel
theorem lr_d_M_listedComes_118 : decode prog_9_method_33_code 118 = .ok (.iconst 1, 1) := by decide +kernel
theorem lr_d_M_listedComes_119 : decode prog_9_method_33_code 119 = .ok (.iload_n 1, 1) := by decide +kernel
theorem lr_d_M_listedComes_120 : decode prog_9_method_33_code 120 = .ok (.aload_n 0, 1) := by decide +kernel
theorem lr_d_M_listedComes_121 : decode prog_9_method_33_code 121 = .ok (.getfield 56, 3) := by decide +kernel
theorem lr_d_M_listedComes_124 : decode prog_9_method_33_code 124 = .ok (.iload_n 3, 1) := by decide +kernel
theorem lr_d_M_listedComes_125 : decode prog_9_method_33_code 125 = .ok (.iaload, 1) := by decide +kernel
theorem lr_d_M_listedComes_126 : decode prog_9_method_33_code 126 = .ok (.aload_n 0, 1) := by decide +kernel
theorem lr_d_M_listedComes_127 : decode prog_9_method_33_code 127 = .ok (.getfield 62, 3) := by decide +kernel
theorem lr_d_M_listedComes_130 : decode prog_9_method_33_code 130 = .ok (.iconst 3, 1) := by decide +kernel
theorem lr_d_M_listedComes_131 : decode prog_9_method_33_code 131 = .ok (.iaload, 1) := by decide +kernel
theorem lr_d_M_listedComes_132 : decode prog_9_method_33_code 132 = .ok (.aload_n 0, 1) := by decide +kernel
theorem lr_d_M_listedComes_133 : decode prog_9_method_33_code 133 = .ok (.getfield 53, 3) := by decide +kernel
theorem lr_d_M_listedComes_136 : decode prog_9_method_33_code 136 = .ok (.iload_n 3, 1) := by decide +kernel
theorem lr_d_M_listedComes_137 : decode prog_9_method_33_code 137 = .ok (.iaload, 1) := by decide +kernel
theorem lr_d_M_listedComes_138 : decode prog_9_method_33_code 138 = .ok (.iconst 0, 1) := by decide +kernel
theorem lr_d_M_listedComes_139 : decode prog_9_method_33_code 139 = .ok (.invokevirtual 126, 3) := by decide +kernel
theorem lr_d_M_listedComes_142 : decode prog_9_method_33_code 142 = .ok (.iconst 1, 1) := by decide +kernel
theorem lr_d_M_listedComes_143 : decode prog_9_method_33_code 143 = .ok (.ireturn, 1) := by decide +kernel
theorem lr_d_M_cleanComes_0 : decode prog_9_method_34_code 0 = .ok (.aload_n 0, 1) := by decide +kernel
theorem lr_d_M_cleanComes_1 : decode prog_9_method_34_code 1 = .ok (.iload_n 1, 1) := by decide +kernel
theorem lr_d_M_cleanComes_2 : decode prog_9_method_34_code 2 = .ok (.iconst 1, 1) := by decide +kernel
theorem lr_d_M_cleanComes_3 : decode prog_9_method_34_code 3 = .ok (.aload_n 0, 1) := by decide +kernel
theorem lr_d_M_cleanComes_4 : decode prog_9_method_34_code 4 = .ok (.getfield 62, 3) := by decide +kernel
theorem lr_d_M_cleanComes_7 : decode prog_9_method_34_code 7 = .ok (.iconst 3, 1) := by decide +kernel
theorem lr_d_M_cleanComes_8 : decode prog_9_method_34_code 8 = .ok (.iaload, 1) := by decide +kernel
theorem lr_d_M_cleanComes_9 : decode prog_9_method_34_code 9 = .ok (.invokevirtual 199, 3) := by decide +kernel
theorem lr_d_M_cleanComes_12 : decode prog_9_method_34_code 12 = .ok (.istore_n 3, 1) := by decide +kernel
theorem lr_d_M_cleanComes_13 : decode prog_9_method_34_code 13 = .ok (.iload_n 3, 1) := by decide +kernel
theorem lr_d_M_cleanComes_14 : decode prog_9_method_34_code 14 = .ok (.ifCond .lt 22, 3) := by decide +kernel
theorem lr_d_M_cleanComes_17 : decode prog_9_method_34_code 17 = .ok (.aload_n 0, 1) := by decide +kernel
theorem lr_d_M_cleanComes_18 : decode prog_9_method_34_code 18 = .ok (.getfield 62, 3) := by decide +kernel
theorem lr_d_M_cleanComes_21 : decode prog_9_method_34_code 21 = .ok (.iconst 4, 1) := by decide +kernel
theorem lr_d_M_cleanComes_22 : decode prog_9_method_34_code 22 = .ok (.iaload, 1) := by decide +kernel
theorem lr_d_M_cleanComes_23 : decode prog_9_method_34_code 23 = .ok (.aload_n 0, 1) := by decide +kernel
theorem lr_d_M_cleanComes_24 : decode prog_9_method_34_code 24 = .ok (.getfield 32, 3) := by decide +kernel
theorem lr_d_M_cleanComes_27 : decode prog_9_method_34_code 27 = .ok (.iconst 4, 1) := by decide +kernel
theorem lr_d_M_cleanComes_28 : decode prog_9_method_34_code 28 = .ok (.iload_n 3, 1) := by decide +kernel
theorem lr_d_M_cleanComes_29 : decode prog_9_method_34_code 29 = .ok (.imul, 1) := by decide +kernel
theorem lr_d_M_cleanComes_30 : decode prog_9_method_34_code 30 = .ok (.iload_n 2, 1) := by decide +kernel
theorem lr_d_M_cleanComes_31 : decode prog_9_method_34_code 31 = .ok (.iadd, 1) := by decide +kernel
theorem lr_d_M_cleanComes_32 : decode prog_9_method_34_code 32 = .ok (.iaload, 1) := by decide +kernel
theorem lr_d_M_cleanComes_33 : decode prog_9_method_34_code 33 = .ok (.if_icmp .gt 5, 3) := by decide +kernel
theorem lr_d_M_cleanComes_36 : decode prog_9_method_34_code 36 = .ok (.iconst 0, 1) := by decide +kernel
theorem lr_d_M_cleanComes_37 : decode prog_9_method_34_code 37 = .ok (.ireturn, 1) := by decide +kernel
theorem lr_d_M_cleanComes_38 : decode prog_9_method_34_code 38 = .ok (.aload_n 0, 1) := by decide +kernel
theorem lr_d_M_cleanComes_39 : decode prog_9_method_34_code 39 = .ok (.getfield 32, 3) := by decide +kernel
theorem lr_d_M_cleanComes_42 : decode prog_9_method_34_code 42 = .ok (.iconst 4, 1) := by decide +kernel
theorem lr_d_M_cleanComes_43 : decode prog_9_method_34_code 43 = .ok (.iload_n 3, 1) := by decide +kernel
theorem lr_d_M_cleanComes_44 : decode prog_9_method_34_code 44 = .ok (.imul, 1) := by decide +kernel
theorem lr_d_M_cleanComes_45 : decode prog_9_method_34_code 45 = .ok (.iload_n 2, 1) := by decide +kernel
theorem lr_d_M_cleanComes_46 : decode prog_9_method_34_code 46 = .ok (.iadd, 1) := by decide +kernel
theorem lr_d_M_cleanComes_47 : decode prog_9_method_34_code 47 = .ok (.aload_n 0, 1) := by decide +kernel
theorem lr_d_M_cleanComes_48 : decode prog_9_method_34_code 48 = .ok (.getfield 62, 3) := by decide +kernel
theorem lr_d_M_cleanComes_51 : decode prog_9_method_34_code 51 = .ok (.iconst 4, 1) := by decide +kernel
theorem lr_d_M_cleanComes_52 : decode prog_9_method_34_code 52 = .ok (.iaload, 1) := by decide +kernel
theorem lr_d_M_cleanComes_53 : decode prog_9_method_34_code 53 = .ok (.iastore, 1) := by decide +kernel
theorem lr_d_M_cleanComes_54 : decode prog_9_method_34_code 54 = .ok (.aload_n 0, 1) := by decide +kernel
theorem lr_d_M_cleanComes_55 : decode prog_9_method_34_code 55 = .ok (.getfield 35, 3) := by decide +kernel
theorem lr_d_M_cleanComes_58 : decode prog_9_method_34_code 58 = .ok (.iconst 4, 1) := by decide +kernel
theorem lr_d_M_cleanComes_59 : decode prog_9_method_34_code 59 = .ok (.iload_n 3, 1) := by decide +kernel
theorem lr_d_M_cleanComes_60 : decode prog_9_method_34_code 60 = .ok (.imul, 1) := by decide +kernel
theorem lr_d_M_cleanComes_61 : decode prog_9_method_34_code 61 = .ok (.iload_n 2, 1) := by decide +kernel
theorem lr_d_M_cleanComes_62 : decode prog_9_method_34_code 62 = .ok (.iadd, 1) := by decide +kernel
theorem lr_d_M_cleanComes_63 : decode prog_9_method_34_code 63 = .ok (.iconst 0, 1) := by decide +kernel
theorem lr_d_M_cleanComes_64 : decode prog_9_method_34_code 64 = .ok (.iastore, 1) := by decide +kernel
theorem lr_d_M_cleanComes_65 : decode prog_9_method_34_code 65 = .ok (.iconst 1, 1) := by decide +kernel
theorem lr_d_M_cleanComes_66 : decode prog_9_method_34_code 66 = .ok (.ireturn, 1) := by decide +kernel
theorem lr_d_M_callComes_0 : decode prog_9_method_35_code 0 = .ok (.iconst 4, 1) := by decide +kernel
theorem lr_d_M_callComes_1 : decode prog_9_method_35_code 1 = .ok (.iload_n 1, 1) := by decide +kernel
theorem lr_d_M_callComes_2 : decode prog_9_method_35_code 2 = .ok (.imul, 1) := by decide +kernel
theorem lr_d_M_callComes_3 : decode prog_9_method_35_code 3 = .ok (.iload_n 2, 1) := by decide +kernel
theorem lr_d_M_callComes_4 : decode prog_9_method_35_code 4 = .ok (.iadd, 1) := by decide +kernel
theorem lr_d_M_callComes_5 : decode prog_9_method_35_code 5 = .ok (.istore_n 3, 1) := by decide +kernel
theorem lr_d_M_callComes_6 : decode prog_9_method_35_code 6 = .ok (.aload_n 0, 1) := by decide +kernel
theorem lr_d_M_callComes_7 : decode prog_9_method_35_code 7 = .ok (.getfield 62, 3) := by decide +kernel
theorem lr_d_M_callComes_10 : decode prog_9_method_35_code 10 = .ok (.iconst 4, 1) := by decide +kernel
theorem lr_d_M_callComes_11 : decode prog_9_method_35_code 11 = .ok (.iaload, 1) := by decide +kernel
theorem lr_d_M_callComes_12 : decode prog_9_method_35_code 12 = .ok (.aload_n 0, 1) := by decide +kernel
theorem lr_d_M_callComes_13 : decode prog_9_method_35_code 13 = .ok (.getfield 92, 3) := by decide +kernel
theorem lr_d_M_callComes_16 : decode prog_9_method_35_code 16 = .ok (.iload_n 3, 1) := by decide +kernel
theorem lr_d_M_callComes_17 : decode prog_9_method_35_code 17 = .ok (.iaload, 1) := by decide +kernel
theorem lr_d_M_callComes_18 : decode prog_9_method_35_code 18 = .ok (.if_icmp .ge 5, 3) := by decide +kernel
theorem lr_d_M_callComes_21 : decode prog_9_method_35_code 21 = .ok (.iconst 0, 1) := by decide +kernel
theorem lr_d_M_callComes_22 : decode prog_9_method_35_code 22 = .ok (.ireturn, 1) := by decide +kernel
theorem lr_d_M_callComes_23 : decode prog_9_method_35_code 23 = .ok (.aload_n 0, 1) := by decide +kernel
theorem lr_d_M_callComes_24 : decode prog_9_method_35_code 24 = .ok (.getfield 62, 3) := by decide +kernel
theorem lr_d_M_callComes_27 : decode prog_9_method_35_code 27 = .ok (.iconst 4, 1) := by decide +kernel
theorem lr_d_M_callComes_28 : decode prog_9_method_35_code 28 = .ok (.iaload, 1) := by decide +kernel
theorem lr_d_M_callComes_29 : decode prog_9_method_35_code 29 = .ok (.aload_n 0, 1) := by decide +kernel
theorem lr_d_M_callComes_30 : decode prog_9_method_35_code 30 = .ok (.getfield 92, 3) := by decide +kernel
theorem lr_d_M_callComes_33 : decode prog_9_method_35_code 33 = .ok (.iload_n 3, 1) := by decide +kernel
theorem lr_d_M_callComes_34 : decode prog_9_method_35_code 34 = .ok (.iaload, 1) := by decide +kernel
theorem lr_d_M_callComes_35 : decode prog_9_method_35_code 35 = .ok (.if_icmp .le 107, 3) := by decide +kernel
theorem lr_d_M_callComes_38 : decode prog_9_method_35_code 38 = .ok (.aload_n 0, 1) := by decide +kernel
theorem lr_d_M_callComes_39 : decode prog_9_method_35_code 39 = .ok (.iload_n 1, 1) := by decide +kernel
theorem lr_d_M_callComes_40 : decode prog_9_method_35_code 40 = .ok (.iconst 1, 1) := by decide +kernel
theorem lr_d_M_callComes_41 : decode prog_9_method_35_code 41 = .ok (.aload_n 0, 1) := by decide +kernel
theorem lr_d_M_callComes_42 : decode prog_9_method_35_code 42 = .ok (.getfield 62, 3) := by decide +kernel
theorem lr_d_M_callComes_45 : decode prog_9_method_35_code 45 = .ok (.iconst 3, 1) := by decide +kernel
theorem lr_d_M_callComes_46 : decode prog_9_method_35_code 46 = .ok (.iaload, 1) := by decide +kernel
theorem lr_d_M_callComes_47 : decode prog_9_method_35_code 47 = .ok (.invokevirtual 199, 3) := by decide +kernel
theorem lr_d_M_callComes_50 : decode prog_9_method_35_code 50 = .ok (.istore 4, 2) := by decide +kernel
theorem lr_d_M_callComes_52 : decode prog_9_method_35_code 52 = .ok (.iload 4, 2) := by decide +kernel
theorem lr_d_M_callComes_54 : decode prog_9_method_35_code 54 = .ok (.ifCond .lt 24, 3) := by decide +kernel
theorem lr_d_M_callComes_57 : decode prog_9_method_35_code 57 = .ok (.aload_n 0, 1) := by decide +kernel
theorem lr_d_M_callComes_58 : decode prog_9_method_35_code 58 = .ok (.getfield 26, 3) := by decide +kernel
theorem lr_d_M_callComes_61 : decode prog_9_method_35_code 61 = .ok (.iload 4, 2) := by decide +kernel
theorem lr_d_M_callComes_63 : decode prog_9_method_35_code 63 = .ok (.aload_n 0, 1) := by decide +kernel
theorem lr_d_M_callComes_64 : decode prog_9_method_35_code 64 = .ok (.getfield 26, 3) := by decide +kernel
theorem lr_d_M_callComes_67 : decode prog_9_method_35_code 67 = .ok (.iload 4, 2) := by decide +kernel
theorem lr_d_M_callComes_69 : decode prog_9_method_35_code 69 = .ok (.iaload, 1) := by decide +kernel
theorem lr_d_M_callComes_70 : decode prog_9_method_35_code 70 = .ok (.aload_n 0, 1) := by decide +kernel
theorem lr_d_M_callComes_71 : decode prog_9_method_35_code 71 = .ok (.getfield 62, 3) := by decide +kernel
theorem lr_d_M_callComes_74 : decode prog_9_method_35_code 74 = .ok (.iconst 5, 1) := by decide +kernel
theorem lr_d_M_callComes_75 : decode prog_9_method_35_code 75 = .ok (.iaload, 1) := by decide +kernel
theorem lr_d_M_callComes_76 : decode prog_9_method_35_code 76 = .ok (.iadd, 1) := by decide +kernel
theorem lr_d_M_callComes_77 : decode prog_9_method_35_code 77 = .ok (.iastore, 1) := by decide +kernel
theorem lr_d_M_callComes_78 : decode prog_9_method_35_code 78 = .ok (.aload_n 0, 1) := by decide +kernel
theorem lr_d_M_callComes_79 : decode prog_9_method_35_code 79 = .ok (.getfield 92, 3) := by decide +kernel
theorem lr_d_M_callComes_82 : decode prog_9_method_35_code 82 = .ok (.iload_n 3, 1) := by decide +kernel
theorem lr_d_M_callComes_83 : decode prog_9_method_35_code 83 = .ok (.aload_n 0, 1) := by decide +kernel
theorem lr_d_M_callComes_84 : decode prog_9_method_35_code 84 = .ok (.getfield 62, 3) := by decide +kernel
theorem lr_d_M_callComes_87 : decode prog_9_method_35_code 87 = .ok (.iconst 4, 1) := by decide +kernel
theorem lr_d_M_callComes_88 : decode prog_9_method_35_code 88 = .ok (.iaload, 1) := by decide +kernel
theorem lr_d_M_callComes_89 : decode prog_9_method_35_code 89 = .ok (.iastore, 1) := by decide +kernel
theorem lr_d_M_callComes_90 : decode prog_9_method_35_code 90 = .ok (.aload_n 0, 1) := by decide +kernel
theorem lr_d_M_callComes_91 : decode prog_9_method_35_code 91 = .ok (.getfield 98, 3) := by decide +kernel
theorem lr_d_M_callComes_94 : decode prog_9_method_35_code 94 = .ok (.iload_n 3, 1) := by decide +kernel
theorem lr_d_M_callComes_95 : decode prog_9_method_35_code 95 = .ok (.aload_n 0, 1) := by decide +kernel
theorem lr_d_M_callComes_96 : decode prog_9_method_35_code 96 = .ok (.getfield 62, 3) := by decide +kernel
theorem lr_d_M_callComes_99 : decode prog_9_method_35_code 99 = .ok (.iconst 3, 1) := by decide +kernel
theorem lr_d_M_callComes_100 : decode prog_9_method_35_code 100 = .ok (.iaload, 1) := by decide +kernel
theorem lr_d_M_callComes_101 : decode prog_9_method_35_code 101 = .ok (.iastore, 1) := by decide +kernel
theorem lr_d_M_callComes_102 : decode prog_9_method_35_code 102 = .ok (.aload_n 0, 1) := by decide +kernel
theorem lr_d_M_callComes_103 : decode prog_9_method_35_code 103 = .ok (.getfield 95, 3) := by decide +kernel
theorem lr_d_M_callComes_106 : decode prog_9_method_35_code 106 = .ok (.iload_n 3, 1) := by decide +kernel
theorem lr_d_M_callComes_107 : decode prog_9_method_35_code 107 = .ok (.iload 4, 2) := by decide +kernel
theorem lr_d_M_callComes_109 : decode prog_9_method_35_code 109 = .ok (.ifCond .lt 8, 3) := by decide +kernel
theorem lr_d_M_callComes_112 : decode prog_9_method_35_code 112 = .ok (.bipush 7, 2) := by decide +kernel
theorem lr_d_M_callComes_114 : decode prog_9_method_35_code 114 = .ok (.goto 5, 3) := by decide +kernel
theorem lr_d_M_callComes_117 : decode prog_9_method_35_code 117 = .ok (.bipush 8, 2) := by decide +kernel
theorem lr_d_M_callComes_119 : decode prog_9_method_35_code 119 = .ok (.iastore, 1) := by decide +kernel
theorem lr_d_M_callComes_120 : decode prog_9_method_35_code 120 = .ok (.aload_n 0, 1) := by decide +kernel
theorem lr_d_M_callComes_121 : decode prog_9_method_35_code 121 = .ok (.getfield 101, 3) := by decide +kernel
theorem lr_d_M_callComes_124 : decode prog_9_method_35_code 124 = .ok (.iload_n 3, 1) := by decide +kernel
theorem lr_d_M_callComes_125 : decode prog_9_method_35_code 125 = .ok (.iload 4, 2) := by decide +kernel
theorem lr_d_M_callComes_127 : decode prog_9_method_35_code 127 = .ok (.ifCond .lt 13, 3) := by decide +kernel
theorem lr_d_M_callComes_130 : decode prog_9_method_35_code 130 = .ok (.aload_n 0, 1) := by decide +kernel
theorem lr_d_M_callComes_131 : decode prog_9_method_35_code 131 = .ok (.getfield 26, 3) := by decide +kernel
theorem lr_d_M_callComes_134 : decode prog_9_method_35_code 134 = .ok (.iload 4, 2) := by decide +kernel
theorem lr_d_M_callComes_136 : decode prog_9_method_35_code 136 = .ok (.iaload, 1) := by decide +kernel
theorem lr_d_M_callComes_137 : decode prog_9_method_35_code 137 = .ok (.goto 4, 3) := by decide +kernel
theorem lr_d_M_callComes_140 : decode prog_9_method_35_code 140 = .ok (.iconst 0, 1) := by decide +kernel
theorem lr_d_M_callComes_141 : decode prog_9_method_35_code 141 = .ok (.iastore, 1) := by decide +kernel
theorem lr_d_M_callComes_142 : decode prog_9_method_35_code 142 = .ok (.aload_n 0, 1) := by decide +kernel
theorem lr_d_M_callComes_143 : decode prog_9_method_35_code 143 = .ok (.aload_n 0, 1) := by decide +kernel
theorem lr_d_M_callComes_144 : decode prog_9_method_35_code 144 = .ok (.getfield 95, 3) := by decide +kernel
theorem lr_d_M_callComes_147 : decode prog_9_method_35_code 147 = .ok (.iload_n 3, 1) := by decide +kernel
theorem lr_d_M_callComes_148 : decode prog_9_method_35_code 148 = .ok (.iaload, 1) := by decide +kernel
theorem lr_d_M_callComes_149 : decode prog_9_method_35_code 149 = .ok (.iload_n 1, 1) := by decide +kernel
theorem lr_d_M_callComes_150 : decode prog_9_method_35_code 150 = .ok (.iload_n 2, 1) := by decide +kernel
theorem lr_d_M_callComes_151 : decode prog_9_method_35_code 151 = .ok (.aload_n 0, 1) := by decide +kernel
theorem lr_d_M_callComes_152 : decode prog_9_method_35_code 152 = .ok (.getfield 98, 3) := by decide +kernel
theorem lr_d_M_callComes_155 : decode prog_9_method_35_code 155 = .ok (.iload_n 3, 1) := by decide +kernel
theorem lr_d_M_callComes_156 : decode prog_9_method_35_code 156 = .ok (.iaload, 1) := by decide +kernel
theorem lr_d_M_callComes_157 : decode prog_9_method_35_code 157 = .ok (.aload_n 0, 1) := by decide +kernel
theorem lr_d_M_callComes_158 : decode prog_9_method_35_code 158 = .ok (.getfield 92, 3) := by decide +kernel
theorem lr_d_M_callComes_161 : decode prog_9_method_35_code 161 = .ok (.iload_n 3, 1) := by decide +kernel
theorem lr_d_M_callComes_162 : decode prog_9_method_35_code 162 = .ok (.iaload, 1) := by decide +kernel
theorem lr_d_M_callComes_163 : decode prog_9_method_35_code 163 = .ok (.aload_n 0, 1) := by decide +kernel
theorem lr_d_M_callComes_164 : decode prog_9_method_35_code 164 = .ok (.getfield 101, 3) := by decide +kernel
theorem lr_d_M_callComes_167 : decode prog_9_method_35_code 167 = .ok (.iload_n 3, 1) := by decide +kernel
theorem lr_d_M_callComes_168 : decode prog_9_method_35_code 168 = .ok (.iaload, 1) := by decide +kernel
theorem lr_d_M_callComes_169 : decode prog_9_method_35_code 169 = .ok (.invokevirtual 126, 3) := by decide +kernel
theorem lr_d_M_callComes_172 : decode prog_9_method_35_code 172 = .ok (.iconst 1, 1) := by decide +kernel
theorem lr_d_M_callComes_173 : decode prog_9_method_35_code 173 = .ok (.ireturn, 1) := by decide +kernel
theorem lr_d_M_answerComes_0 : decode prog_9_method_36_code 0 = .ok (.aload_n 0, 1) := by decide +kernel
theorem lr_d_M_answerComes_1 : decode prog_9_method_36_code 1 = .ok (.getfield 74, 3) := by decide +kernel
theorem lr_d_M_answerComes_4 : decode prog_9_method_36_code 4 = .ok (.iload_n 1, 1) := by decide +kernel
theorem lr_d_M_answerComes_5 : decode prog_9_method_36_code 5 = .ok (.iaload, 1) := by decide +kernel
theorem lr_d_M_answerComes_6 : decode prog_9_method_36_code 6 = .ok (.iconst 1, 1) := by decide +kernel
theorem lr_d_M_answerComes_7 : decode prog_9_method_36_code 7 = .ok (.if_icmp .ne 18, 3) := by decide +kernel
theorem lr_d_M_answerComes_10 : decode prog_9_method_36_code 10 = .ok (.aload_n 0, 1) := by decide +kernel
theorem lr_d_M_answerComes_11 : decode prog_9_method_36_code 11 = .ok (.getfield 77, 3) := by decide +kernel
theorem lr_d_M_answerComes_14 : decode prog_9_method_36_code 14 = .ok (.iload_n 1, 1) := by decide +kernel
theorem lr_d_M_answerComes_15 : decode prog_9_method_36_code 15 = .ok (.iaload, 1) := by decide +kernel
theorem lr_d_M_answerComes_16 : decode prog_9_method_36_code 16 = .ok (.aload_n 0, 1) := by decide +kernel
theorem lr_d_M_answerComes_17 : decode prog_9_method_36_code 17 = .ok (.getfield 62, 3) := by decide +kernel
theorem lr_d_M_answerComes_20 : decode prog_9_method_36_code 20 = .ok (.iconst 4, 1) := by decide +kernel
theorem lr_d_M_answerComes_21 : decode prog_9_method_36_code 21 = .ok (.iaload, 1) := by decide +kernel
theorem lr_d_M_answerComes_22 : decode prog_9_method_36_code 22 = .ok (.if_icmp .eq 5, 3) := by decide +kernel
theorem lr_d_M_answerComes_25 : decode prog_9_method_36_code 25 = .ok (.iconst 0, 1) := by decide +kernel
theorem lr_d_M_answerComes_26 : decode prog_9_method_36_code 26 = .ok (.ireturn, 1) := by decide +kernel
theorem lr_d_M_answerComes_27 : decode prog_9_method_36_code 27 = .ok (.aload_n 0, 1) := by decide +kernel
theorem lr_d_M_answerComes_28 : decode prog_9_method_36_code 28 = .ok (.getfield 74, 3) := by decide +kernel
theorem lr_d_M_answerComes_31 : decode prog_9_method_36_code 31 = .ok (.iload_n 1, 1) := by decide +kernel
theorem lr_d_M_answerComes_32 : decode prog_9_method_36_code 32 = .ok (.iload_n 2, 1) := by decide +kernel
theorem lr_d_M_answerComes_33 : decode prog_9_method_36_code 33 = .ok (.bipush 7, 2) := by decide +kernel
theorem lr_d_M_answerComes_35 : decode prog_9_method_36_code 35 = .ok (.if_icmp .ne 7, 3) := by decide +kernel
theorem lr_d_M_answerComes_38 : decode prog_9_method_36_code 38 = .ok (.iconst 2, 1) := by decide +kernel
theorem lr_d_M_answerComes_39 : decode prog_9_method_36_code 39 = .ok (.goto 4, 3) := by decide +kernel
theorem lr_d_M_answerComes_42 : decode prog_9_method_36_code 42 = .ok (.iconst 3, 1) := by decide +kernel
theorem lr_d_M_answerComes_43 : decode prog_9_method_36_code 43 = .ok (.iastore, 1) := by decide +kernel
theorem lr_d_M_answerComes_44 : decode prog_9_method_36_code 44 = .ok (.aload_n 0, 1) := by decide +kernel
theorem lr_d_M_answerComes_45 : decode prog_9_method_36_code 45 = .ok (.getfield 89, 3) := by decide +kernel
theorem lr_d_M_answerComes_48 : decode prog_9_method_36_code 48 = .ok (.iload_n 1, 1) := by decide +kernel
theorem lr_d_M_answerComes_49 : decode prog_9_method_36_code 49 = .ok (.iload_n 2, 1) := by decide +kernel
theorem lr_d_M_answerComes_50 : decode prog_9_method_36_code 50 = .ok (.bipush 7, 2) := by decide +kernel
theorem lr_d_M_answerComes_52 : decode prog_9_method_36_code 52 = .ok (.if_icmp .ne 12, 3) := by decide +kernel
theorem lr_d_M_answerComes_55 : decode prog_9_method_36_code 55 = .ok (.aload_n 0, 1) := by decide +kernel
theorem lr_d_M_answerComes_56 : decode prog_9_method_36_code 56 = .ok (.getfield 62, 3) := by decide +kernel
theorem lr_d_M_answerComes_59 : decode prog_9_method_36_code 59 = .ok (.iconst 5, 1) := by decide +kernel
theorem lr_d_M_answerComes_60 : decode prog_9_method_36_code 60 = .ok (.iaload, 1) := by decide +kernel
theorem lr_d_M_answerComes_61 : decode prog_9_method_36_code 61 = .ok (.goto 9, 3) := by decide +kernel
theorem lr_d_M_answerComes_64 : decode prog_9_method_36_code 64 = .ok (.aload_n 0, 1) := by decide +kernel
theorem lr_d_M_answerComes_65 : decode prog_9_method_36_code 65 = .ok (.getfield 89, 3) := by decide +kernel
theorem lr_d_M_answerComes_68 : decode prog_9_method_36_code 68 = .ok (.iload_n 1, 1) := by decide +kernel
theorem lr_d_M_answerComes_69 : decode prog_9_method_36_code 69 = .ok (.iaload, 1) := by decide +kernel
theorem lr_d_M_answerComes_70 : decode prog_9_method_36_code 70 = .ok (.iastore, 1) := by decide +kernel
theorem lr_d_M_answerComes_71 : decode prog_9_method_36_code 71 = .ok (.iconst 1, 1) := by decide +kernel
theorem lr_d_M_answerComes_72 : decode prog_9_method_36_code 72 = .ok (.ireturn, 1) := by decide +kernel
theorem lr_d_M_comes_0 : decode prog_9_method_29_code 0 = .ok (.iload_n 1, 1) := by decide +kernel
theorem lr_d_M_comes_1 : decode prog_9_method_29_code 1 = .ok (.tableswitch 84 0 6 #[43, 50, 56, 63, 63, 70, 77], 43) := by decide +kernel
theorem lr_d_M_comes_44 : decode prog_9_method_29_code 44 = .ok (.aload_n 0, 1) := by decide +kernel
theorem lr_d_M_comes_45 : decode prog_9_method_29_code 45 = .ok (.iload_n 2, 1) := by decide +kernel
theorem lr_d_M_comes_46 : decode prog_9_method_29_code 46 = .ok (.iload_n 3, 1) := by decide +kernel
theorem lr_d_M_comes_47 : decode prog_9_method_29_code 47 = .ok (.invokevirtual 178, 3) := by decide +kernel
theorem lr_d_M_comes_50 : decode prog_9_method_29_code 50 = .ok (.ireturn, 1) := by decide +kernel
theorem lr_d_M_comes_51 : decode prog_9_method_29_code 51 = .ok (.aload_n 0, 1) := by decide +kernel
theorem lr_d_M_comes_52 : decode prog_9_method_29_code 52 = .ok (.iload_n 2, 1) := by decide +kernel
theorem lr_d_M_comes_53 : decode prog_9_method_29_code 53 = .ok (.invokevirtual 181, 3) := by decide +kernel
theorem lr_d_M_comes_56 : decode prog_9_method_29_code 56 = .ok (.ireturn, 1) := by decide +kernel
theorem lr_d_M_comes_57 : decode prog_9_method_29_code 57 = .ok (.aload_n 0, 1) := by decide +kernel
theorem lr_d_M_comes_58 : decode prog_9_method_29_code 58 = .ok (.iload_n 2, 1) := by decide +kernel
theorem lr_d_M_comes_59 : decode prog_9_method_29_code 59 = .ok (.iload_n 3, 1) := by decide +kernel
theorem lr_d_M_comes_60 : decode prog_9_method_29_code 60 = .ok (.invokevirtual 184, 3) := by decide +kernel
theorem lr_d_M_comes_63 : decode prog_9_method_29_code 63 = .ok (.ireturn, 1) := by decide +kernel
theorem lr_d_M_comes_64 : decode prog_9_method_29_code 64 = .ok (.aload_n 0, 1) := by decide +kernel
theorem lr_d_M_comes_65 : decode prog_9_method_29_code 65 = .ok (.iload_n 2, 1) := by decide +kernel
theorem lr_d_M_comes_66 : decode prog_9_method_29_code 66 = .ok (.iload_n 1, 1) := by decide +kernel
theorem lr_d_M_comes_67 : decode prog_9_method_29_code 67 = .ok (.invokevirtual 187, 3) := by decide +kernel
theorem lr_d_M_comes_70 : decode prog_9_method_29_code 70 = .ok (.ireturn, 1) := by decide +kernel
theorem lr_d_M_comes_71 : decode prog_9_method_29_code 71 = .ok (.aload_n 0, 1) := by decide +kernel
theorem lr_d_M_comes_72 : decode prog_9_method_29_code 72 = .ok (.iload_n 2, 1) := by decide +kernel
theorem lr_d_M_comes_73 : decode prog_9_method_29_code 73 = .ok (.iload_n 3, 1) := by decide +kernel
theorem lr_d_M_comes_74 : decode prog_9_method_29_code 74 = .ok (.invokevirtual 190, 3) := by decide +kernel
theorem lr_d_M_comes_77 : decode prog_9_method_29_code 77 = .ok (.ireturn, 1) := by decide +kernel
theorem lr_d_M_comes_78 : decode prog_9_method_29_code 78 = .ok (.aload_n 0, 1) := by decide +kernel
theorem lr_d_M_comes_79 : decode prog_9_method_29_code 79 = .ok (.iload_n 2, 1) := by decide +kernel
theorem lr_d_M_comes_80 : decode prog_9_method_29_code 80 = .ok (.iload_n 3, 1) := by decide +kernel
theorem lr_d_M_comes_81 : decode prog_9_method_29_code 81 = .ok (.invokevirtual 193, 3) := by decide +kernel
theorem lr_d_M_comes_84 : decode prog_9_method_29_code 84 = .ok (.ireturn, 1) := by decide +kernel
theorem lr_d_M_comes_85 : decode prog_9_method_29_code 85 = .ok (.aload_n 0, 1) := by decide +kernel
theorem lr_d_M_comes_86 : decode prog_9_method_29_code 86 = .ok (.iload_n 2, 1) := by decide +kernel
theorem lr_d_M_comes_87 : decode prog_9_method_29_code 87 = .ok (.iload_n 1, 1) := by decide +kernel
theorem lr_d_M_comes_88 : decode prog_9_method_29_code 88 = .ok (.invokevirtual 196, 3) := by decide +kernel
theorem lr_d_M_comes_91 : decode prog_9_method_29_code 91 = .ok (.ireturn, 1) := by decide +kernel
theorem lr_d_M_deliver_0 : decode prog_9_method_28_code 0 = .ok (.iload_n 1, 1) := by decide +kernel
theorem lr_d_M_deliver_1 : decode prog_9_method_28_code 1 = .ok (.aload_n 0, 1) := by decide +kernel
theorem lr_d_M_deliver_2 : decode prog_9_method_28_code 2 = .ok (.getfield 111, 3) := by decide +kernel
theorem lr_d_M_deliver_5 : decode prog_9_method_28_code 5 = .ok (.invokestatic 107, 3) := by decide +kernel
theorem lr_d_M_deliver_8 : decode prog_9_method_28_code 8 = .ok (.ifCond .ne 5, 3) := by decide +kernel
theorem lr_d_M_deliver_11 : decode prog_9_method_28_code 11 = .ok (.iconst (-1), 1) := by decide +kernel
theorem lr_d_M_deliver_12 : decode prog_9_method_28_code 12 = .ok (.ireturn, 1) := by decide +kernel
theorem lr_d_M_deliver_13 : decode prog_9_method_28_code 13 = .ok (.iconst 0, 1) := by decide +kernel
theorem lr_d_M_deliver_14 : decode prog_9_method_28_code 14 = .ok (.istore_n 2, 1) := by decide +kernel
theorem lr_d_M_deliver_15 : decode prog_9_method_28_code 15 = .ok (.iload_n 2, 1) := by decide +kernel
theorem lr_d_M_deliver_16 : decode prog_9_method_28_code 16 = .ok (.bipush 6, 2) := by decide +kernel
theorem lr_d_M_deliver_18 : decode prog_9_method_28_code 18 = .ok (.if_icmp .ge 26, 3) := by decide +kernel
theorem lr_d_M_deliver_21 : decode prog_9_method_28_code 21 = .ok (.aload_n 0, 1) := by decide +kernel
theorem lr_d_M_deliver_22 : decode prog_9_method_28_code 22 = .ok (.getfield 62, 3) := by decide +kernel
theorem lr_d_M_deliver_25 : decode prog_9_method_28_code 25 = .ok (.iload_n 2, 1) := by decide +kernel
theorem lr_d_M_deliver_26 : decode prog_9_method_28_code 26 = .ok (.aload_n 0, 1) := by decide +kernel
theorem lr_d_M_deliver_27 : decode prog_9_method_28_code 27 = .ok (.getfield 59, 3) := by decide +kernel
theorem lr_d_M_deliver_30 : decode prog_9_method_28_code 30 = .ok (.bipush 6, 2) := by decide +kernel
theorem lr_d_M_deliver_32 : decode prog_9_method_28_code 32 = .ok (.iload_n 1, 1) := by decide +kernel
theorem lr_d_M_deliver_33 : decode prog_9_method_28_code 33 = .ok (.imul, 1) := by decide +kernel
theorem lr_d_M_deliver_34 : decode prog_9_method_28_code 34 = .ok (.iload_n 2, 1) := by decide +kernel
theorem lr_d_M_deliver_35 : decode prog_9_method_28_code 35 = .ok (.iadd, 1) := by decide +kernel
theorem lr_d_M_deliver_36 : decode prog_9_method_28_code 36 = .ok (.iaload, 1) := by decide +kernel
theorem lr_d_M_deliver_37 : decode prog_9_method_28_code 37 = .ok (.iastore, 1) := by decide +kernel
theorem lr_d_M_deliver_38 : decode prog_9_method_28_code 38 = .ok (.iinc 2 1, 3) := by decide +kernel
theorem lr_d_M_deliver_41 : decode prog_9_method_28_code 41 = .ok (.goto (-26), 3) := by decide +kernel
theorem lr_d_M_deliver_44 : decode prog_9_method_28_code 44 = .ok (.aload_n 0, 1) := by decide +kernel
theorem lr_d_M_deliver_45 : decode prog_9_method_28_code 45 = .ok (.iload_n 1, 1) := by decide +kernel
theorem lr_d_M_deliver_46 : decode prog_9_method_28_code 46 = .ok (.invokevirtual 171, 3) := by decide +kernel
theorem lr_d_M_deliver_49 : decode prog_9_method_28_code 49 = .ok (.aload_n 0, 1) := by decide +kernel
theorem lr_d_M_deliver_50 : decode prog_9_method_28_code 50 = .ok (.getfield 7, 3) := by decide +kernel
theorem lr_d_M_deliver_53 : decode prog_9_method_28_code 53 = .ok (.aload_n 0, 1) := by decide +kernel
theorem lr_d_M_deliver_54 : decode prog_9_method_28_code 54 = .ok (.getfield 62, 3) := by decide +kernel
theorem lr_d_M_deliver_57 : decode prog_9_method_28_code 57 = .ok (.iconst 2, 1) := by decide +kernel
theorem lr_d_M_deliver_58 : decode prog_9_method_28_code 58 = .ok (.iaload, 1) := by decide +kernel
theorem lr_d_M_deliver_59 : decode prog_9_method_28_code 59 = .ok (.baload, 1) := by decide +kernel
theorem lr_d_M_deliver_60 : decode prog_9_method_28_code 60 = .ok (.ifCond .eq 5, 3) := by decide +kernel
theorem lr_d_M_deliver_63 : decode prog_9_method_28_code 63 = .ok (.iconst 0, 1) := by decide +kernel
theorem lr_d_M_deliver_64 : decode prog_9_method_28_code 64 = .ok (.ireturn, 1) := by decide +kernel
theorem lr_d_M_deliver_65 : decode prog_9_method_28_code 65 = .ok (.aload_n 0, 1) := by decide +kernel
theorem lr_d_M_deliver_66 : decode prog_9_method_28_code 66 = .ok (.aload_n 0, 1) := by decide +kernel
theorem lr_d_M_deliver_67 : decode prog_9_method_28_code 67 = .ok (.getfield 62, 3) := by decide +kernel
theorem lr_d_M_deliver_70 : decode prog_9_method_28_code 70 = .ok (.iconst 0, 1) := by decide +kernel
theorem lr_d_M_deliver_71 : decode prog_9_method_28_code 71 = .ok (.iaload, 1) := by decide +kernel
theorem lr_d_M_deliver_72 : decode prog_9_method_28_code 72 = .ok (.aload_n 0, 1) := by decide +kernel
theorem lr_d_M_deliver_73 : decode prog_9_method_28_code 73 = .ok (.getfield 62, 3) := by decide +kernel
theorem lr_d_M_deliver_76 : decode prog_9_method_28_code 76 = .ok (.iconst 2, 1) := by decide +kernel
theorem lr_d_M_deliver_77 : decode prog_9_method_28_code 77 = .ok (.iaload, 1) := by decide +kernel
theorem lr_d_M_deliver_78 : decode prog_9_method_28_code 78 = .ok (.aload_n 0, 1) := by decide +kernel
theorem lr_d_M_deliver_79 : decode prog_9_method_28_code 79 = .ok (.getfield 62, 3) := by decide +kernel
theorem lr_d_M_deliver_82 : decode prog_9_method_28_code 82 = .ok (.iconst 1, 1) := by decide +kernel
theorem lr_d_M_deliver_83 : decode prog_9_method_28_code 83 = .ok (.iaload, 1) := by decide +kernel
theorem lr_d_M_deliver_84 : decode prog_9_method_28_code 84 = .ok (.invokevirtual 174, 3) := by decide +kernel
theorem lr_d_M_deliver_87 : decode prog_9_method_28_code 87 = .ok (.ifCond .eq 7, 3) := by decide +kernel
theorem lr_d_M_deliver_90 : decode prog_9_method_28_code 90 = .ok (.iconst 1, 1) := by decide +kernel
theorem lr_d_M_deliver_91 : decode prog_9_method_28_code 91 = .ok (.goto 4, 3) := by decide +kernel
theorem lr_d_M_deliver_94 : decode prog_9_method_28_code 94 = .ok (.iconst 0, 1) := by decide +kernel
theorem lr_d_M_deliver_95 : decode prog_9_method_28_code 95 = .ok (.ireturn, 1) := by decide +kernel
theorem lr_d_M_lose_0 : decode prog_9_method_37_code 0 = .ok (.iload_n 1, 1) := by decide +kernel
theorem lr_d_M_lose_1 : decode prog_9_method_37_code 1 = .ok (.aload_n 0, 1) := by decide +kernel
theorem lr_d_M_lose_2 : decode prog_9_method_37_code 2 = .ok (.getfield 111, 3) := by decide +kernel
theorem lr_d_M_lose_5 : decode prog_9_method_37_code 5 = .ok (.invokestatic 107, 3) := by decide +kernel
theorem lr_d_M_lose_8 : decode prog_9_method_37_code 8 = .ok (.ifCond .ne 5, 3) := by decide +kernel
theorem lr_d_M_lose_11 : decode prog_9_method_37_code 11 = .ok (.iconst 0, 1) := by decide +kernel
theorem lr_d_M_lose_12 : decode prog_9_method_37_code 12 = .ok (.ireturn, 1) := by decide +kernel
theorem lr_d_M_lose_13 : decode prog_9_method_37_code 13 = .ok (.aload_n 0, 1) := by decide +kernel
theorem lr_d_M_lose_14 : decode prog_9_method_37_code 14 = .ok (.iload_n 1, 1) := by decide +kernel
theorem lr_d_M_lose_15 : decode prog_9_method_37_code 15 = .ok (.invokevirtual 171, 3) := by decide +kernel
theorem lr_d_M_lose_18 : decode prog_9_method_37_code 18 = .ok (.iconst 1, 1) := by decide +kernel
theorem lr_d_M_lose_19 : decode prog_9_method_37_code 19 = .ok (.ireturn, 1) := by decide +kernel
theorem lr_d_M_copy_0 : decode prog_9_method_38_code 0 = .ok (.iload_n 1, 1) := by decide +kernel
theorem lr_d_M_copy_1 : decode prog_9_method_38_code 1 = .ok (.aload_n 0, 1) := by decide +kernel
theorem lr_d_M_copy_2 : decode prog_9_method_38_code 2 = .ok (.getfield 111, 3) := by decide +kernel
theorem lr_d_M_copy_5 : decode prog_9_method_38_code 5 = .ok (.invokestatic 107, 3) := by decide +kernel
theorem lr_d_M_copy_8 : decode prog_9_method_38_code 8 = .ok (.ifCond .eq 12, 3) := by decide +kernel
theorem lr_d_M_copy_11 : decode prog_9_method_38_code 11 = .ok (.aload_n 0, 1) := by decide +kernel
theorem lr_d_M_copy_12 : decode prog_9_method_38_code 12 = .ok (.getfield 111, 3) := by decide +kernel
theorem lr_d_M_copy_15 : decode prog_9_method_38_code 15 = .ok (.bipush 32, 2) := by decide +kernel
theorem lr_d_M_copy_17 : decode prog_9_method_38_code 17 = .ok (.if_icmp .ne 5, 3) := by decide +kernel
theorem lr_d_M_copy_20 : decode prog_9_method_38_code 20 = .ok (.iconst 0, 1) := by decide +kernel
theorem lr_d_M_copy_21 : decode prog_9_method_38_code 21 = .ok (.ireturn, 1) := by decide +kernel
theorem lr_d_M_copy_22 : decode prog_9_method_38_code 22 = .ok (.iconst 0, 1) := by decide +kernel
theorem lr_d_M_copy_23 : decode prog_9_method_38_code 23 = .ok (.istore_n 2, 1) := by decide +kernel
theorem lr_d_M_copy_24 : decode prog_9_method_38_code 24 = .ok (.iload_n 2, 1) := by decide +kernel
theorem lr_d_M_copy_25 : decode prog_9_method_38_code 25 = .ok (.bipush 6, 2) := by decide +kernel
theorem lr_d_M_copy_27 : decode prog_9_method_38_code 27 = .ok (.if_icmp .ge 34, 3) := by decide +kernel
theorem lr_d_M_copy_30 : decode prog_9_method_38_code 30 = .ok (.aload_n 0, 1) := by decide +kernel
theorem lr_d_M_copy_31 : decode prog_9_method_38_code 31 = .ok (.getfield 59, 3) := by decide +kernel
theorem lr_d_M_copy_34 : decode prog_9_method_38_code 34 = .ok (.bipush 6, 2) := by decide +kernel
theorem lr_d_M_copy_36 : decode prog_9_method_38_code 36 = .ok (.aload_n 0, 1) := by decide +kernel
theorem lr_d_M_copy_37 : decode prog_9_method_38_code 37 = .ok (.getfield 111, 3) := by decide +kernel
theorem lr_d_M_copy_40 : decode prog_9_method_38_code 40 = .ok (.imul, 1) := by decide +kernel
theorem lr_d_M_copy_41 : decode prog_9_method_38_code 41 = .ok (.iload_n 2, 1) := by decide +kernel
theorem lr_d_M_copy_42 : decode prog_9_method_38_code 42 = .ok (.iadd, 1) := by decide +kernel
theorem lr_d_M_copy_43 : decode prog_9_method_38_code 43 = .ok (.aload_n 0, 1) := by decide +kernel
theorem lr_d_M_copy_44 : decode prog_9_method_38_code 44 = .ok (.getfield 59, 3) := by decide +kernel
theorem lr_d_M_copy_47 : decode prog_9_method_38_code 47 = .ok (.bipush 6, 2) := by decide +kernel
theorem lr_d_M_copy_49 : decode prog_9_method_38_code 49 = .ok (.iload_n 1, 1) := by decide +kernel
theorem lr_d_M_copy_50 : decode prog_9_method_38_code 50 = .ok (.imul, 1) := by decide +kernel
theorem lr_d_M_copy_51 : decode prog_9_method_38_code 51 = .ok (.iload_n 2, 1) := by decide +kernel
theorem lr_d_M_copy_52 : decode prog_9_method_38_code 52 = .ok (.iadd, 1) := by decide +kernel
theorem lr_d_M_copy_53 : decode prog_9_method_38_code 53 = .ok (.iaload, 1) := by decide +kernel
theorem lr_d_M_copy_54 : decode prog_9_method_38_code 54 = .ok (.iastore, 1) := by decide +kernel
theorem lr_d_M_copy_55 : decode prog_9_method_38_code 55 = .ok (.iinc 2 1, 3) := by decide +kernel
theorem lr_d_M_copy_58 : decode prog_9_method_38_code 58 = .ok (.goto (-34), 3) := by decide +kernel
theorem lr_d_M_copy_61 : decode prog_9_method_38_code 61 = .ok (.aload_n 0, 1) := by decide +kernel
theorem lr_d_M_copy_62 : decode prog_9_method_38_code 62 = .ok (.dup, 1) := by decide +kernel
theorem lr_d_M_copy_63 : decode prog_9_method_38_code 63 = .ok (.getfield 111, 3) := by decide +kernel
theorem lr_d_M_copy_66 : decode prog_9_method_38_code 66 = .ok (.iconst 1, 1) := by decide +kernel
theorem lr_d_M_copy_67 : decode prog_9_method_38_code 67 = .ok (.iadd, 1) := by decide +kernel
theorem lr_d_M_copy_68 : decode prog_9_method_38_code 68 = .ok (.putfield 111, 3) := by decide +kernel
theorem lr_d_M_copy_71 : decode prog_9_method_38_code 71 = .ok (.iconst 1, 1) := by decide +kernel
theorem lr_d_M_copy_72 : decode prog_9_method_38_code 72 = .ok (.ireturn, 1) := by decide +kernel
theorem lr_d_M_flight_0 : decode prog_9_method_39_code 0 = .ok (.aload_n 0, 1) := by decide +kernel
theorem lr_d_M_flight_1 : decode prog_9_method_39_code 1 = .ok (.getfield 111, 3) := by decide +kernel
theorem lr_d_M_flight_4 : decode prog_9_method_39_code 4 = .ok (.ireturn, 1) := by decide +kernel
theorem lr_d_M_message_0 : decode prog_9_method_40_code 0 = .ok (.iload_n 1, 1) := by decide +kernel
theorem lr_d_M_message_1 : decode prog_9_method_40_code 1 = .ok (.aload_n 0, 1) := by decide +kernel
theorem lr_d_M_message_2 : decode prog_9_method_40_code 2 = .ok (.getfield 111, 3) := by decide +kernel
theorem lr_d_M_message_5 : decode prog_9_method_40_code 5 = .ok (.invokestatic 107, 3) := by decide +kernel
theorem lr_d_M_message_8 : decode prog_9_method_40_code 8 = .ok (.ifCond .eq 26, 3) := by decide +kernel
theorem lr_d_M_message_11 : decode prog_9_method_40_code 11 = .ok (.iload_n 2, 1) := by decide +kernel
theorem lr_d_M_message_12 : decode prog_9_method_40_code 12 = .ok (.bipush 6, 2) := by decide +kernel
theorem lr_d_M_message_14 : decode prog_9_method_40_code 14 = .ok (.invokestatic 107, 3) := by decide +kernel
theorem lr_d_M_message_17 : decode prog_9_method_40_code 17 = .ok (.ifCond .eq 17, 3) := by decide +kernel
theorem lr_d_M_message_20 : decode prog_9_method_40_code 20 = .ok (.aload_n 0, 1) := by decide +kernel
theorem lr_d_M_message_21 : decode prog_9_method_40_code 21 = .ok (.getfield 59, 3) := by decide +kernel
theorem lr_d_M_message_24 : decode prog_9_method_40_code 24 = .ok (.bipush 6, 2) := by decide +kernel
theorem lr_d_M_message_26 : decode prog_9_method_40_code 26 = .ok (.iload_n 1, 1) := by decide +kernel
theorem lr_d_M_message_27 : decode prog_9_method_40_code 27 = .ok (.imul, 1) := by decide +kernel
theorem lr_d_M_message_28 : decode prog_9_method_40_code 28 = .ok (.iload_n 2, 1) := by decide +kernel
theorem lr_d_M_message_29 : decode prog_9_method_40_code 29 = .ok (.iadd, 1) := by decide +kernel
theorem lr_d_M_message_30 : decode prog_9_method_40_code 30 = .ok (.iaload, 1) := by decide +kernel
theorem lr_d_M_message_31 : decode prog_9_method_40_code 31 = .ok (.goto 4, 3) := by decide +kernel
theorem lr_d_M_message_34 : decode prog_9_method_40_code 34 = .ok (.iconst (-1), 1) := by decide +kernel
theorem lr_d_M_message_35 : decode prog_9_method_40_code 35 = .ok (.ireturn, 1) := by decide +kernel
theorem lr_d_M_root_0 : decode prog_9_method_41_code 0 = .ok (.iload_n 1, 1) := by decide +kernel
theorem lr_d_M_root_1 : decode prog_9_method_41_code 1 = .ok (.iconst 4, 1) := by decide +kernel
theorem lr_d_M_root_2 : decode prog_9_method_41_code 2 = .ok (.invokestatic 107, 3) := by decide +kernel
theorem lr_d_M_root_5 : decode prog_9_method_41_code 5 = .ok (.ifCond .eq 24, 3) := by decide +kernel
theorem lr_d_M_root_8 : decode prog_9_method_41_code 8 = .ok (.iload_n 2, 1) := by decide +kernel
theorem lr_d_M_root_9 : decode prog_9_method_41_code 9 = .ok (.iconst 3, 1) := by decide +kernel
theorem lr_d_M_root_10 : decode prog_9_method_41_code 10 = .ok (.invokestatic 107, 3) := by decide +kernel
theorem lr_d_M_root_13 : decode prog_9_method_41_code 13 = .ok (.ifCond .eq 16, 3) := by decide +kernel
theorem lr_d_M_root_16 : decode prog_9_method_41_code 16 = .ok (.aload_n 0, 1) := by decide +kernel
theorem lr_d_M_root_17 : decode prog_9_method_41_code 17 = .ok (.getfield 13, 3) := by decide +kernel
theorem lr_d_M_root_20 : decode prog_9_method_41_code 20 = .ok (.iconst 3, 1) := by decide +kernel
theorem lr_d_M_root_21 : decode prog_9_method_41_code 21 = .ok (.iload_n 1, 1) := by decide +kernel
theorem lr_d_M_root_22 : decode prog_9_method_41_code 22 = .ok (.imul, 1) := by decide +kernel
theorem lr_d_M_root_23 : decode prog_9_method_41_code 23 = .ok (.iload_n 2, 1) := by decide +kernel
theorem lr_d_M_root_24 : decode prog_9_method_41_code 24 = .ok (.iadd, 1) := by decide +kernel
theorem lr_d_M_root_25 : decode prog_9_method_41_code 25 = .ok (.iaload, 1) := by decide +kernel
theorem lr_d_M_root_26 : decode prog_9_method_41_code 26 = .ok (.goto 4, 3) := by decide +kernel
theorem lr_d_M_root_29 : decode prog_9_method_41_code 29 = .ok (.iconst (-1), 1) := by decide +kernel
theorem lr_d_M_root_30 : decode prog_9_method_41_code 30 = .ok (.ireturn, 1) := by decide +kernel
theorem lr_d_M_slot_0 : decode prog_9_method_42_code 0 = .ok (.iload_n 1, 1) := by decide +kernel
theorem lr_d_M_slot_1 : decode prog_9_method_42_code 1 = .ok (.iconst 4, 1) := by decide +kernel
theorem lr_d_M_slot_2 : decode prog_9_method_42_code 2 = .ok (.invokestatic 107, 3) := by decide +kernel
theorem lr_d_M_slot_5 : decode prog_9_method_42_code 5 = .ok (.ifCond .eq 20, 3) := by decide +kernel
theorem lr_d_M_slot_8 : decode prog_9_method_42_code 8 = .ok (.iload_n 2, 1) := by decide +kernel
theorem lr_d_M_slot_9 : decode prog_9_method_42_code 9 = .ok (.bipush 8, 2) := by decide +kernel
theorem lr_d_M_slot_11 : decode prog_9_method_42_code 11 = .ok (.invokestatic 107, 3) := by decide +kernel
theorem lr_d_M_slot_14 : decode prog_9_method_42_code 14 = .ok (.ifCond .eq 11, 3) := by decide +kernel
theorem lr_d_M_slot_17 : decode prog_9_method_42_code 17 = .ok (.iload_n 3, 1) := by decide +kernel
theorem lr_d_M_slot_18 : decode prog_9_method_42_code 18 = .ok (.iconst 5, 1) := by decide +kernel
theorem lr_d_M_slot_19 : decode prog_9_method_42_code 19 = .ok (.invokestatic 107, 3) := by decide +kernel
theorem lr_d_M_slot_22 : decode prog_9_method_42_code 22 = .ok (.ifCond .ne 5, 3) := by decide +kernel
theorem lr_d_M_slot_25 : decode prog_9_method_42_code 25 = .ok (.iconst (-1), 1) := by decide +kernel
theorem lr_d_M_slot_26 : decode prog_9_method_42_code 26 = .ok (.ireturn, 1) := by decide +kernel
theorem lr_d_M_slot_27 : decode prog_9_method_42_code 27 = .ok (.bipush 8, 2) := by decide +kernel
theorem lr_d_M_slot_29 : decode prog_9_method_42_code 29 = .ok (.iload_n 1, 1) := by decide +kernel
theorem lr_d_M_slot_30 : decode prog_9_method_42_code 30 = .ok (.imul, 1) := by decide +kernel
theorem lr_d_M_slot_31 : decode prog_9_method_42_code 31 = .ok (.iload_n 2, 1) := by decide +kernel
theorem lr_d_M_slot_32 : decode prog_9_method_42_code 32 = .ok (.iadd, 1) := by decide +kernel
theorem lr_d_M_slot_33 : decode prog_9_method_42_code 33 = .ok (.istore 4, 2) := by decide +kernel
theorem lr_d_M_slot_35 : decode prog_9_method_42_code 35 = .ok (.iload_n 3, 1) := by decide +kernel
theorem lr_d_M_slot_36 : decode prog_9_method_42_code 36 = .ok (.ifCond .eq 13, 3) := by decide +kernel
theorem lr_d_M_slot_39 : decode prog_9_method_42_code 39 = .ok (.aload_n 0, 1) := by decide +kernel
theorem lr_d_M_slot_40 : decode prog_9_method_42_code 40 = .ok (.getfield 20, 3) := by decide +kernel
theorem lr_d_M_slot_43 : decode prog_9_method_42_code 43 = .ok (.iload 4, 2) := by decide +kernel
theorem lr_d_M_slot_45 : decode prog_9_method_42_code 45 = .ok (.iaload, 1) := by decide +kernel
theorem lr_d_M_slot_46 : decode prog_9_method_42_code 46 = .ok (.ifCond .ne 19, 3) := by decide +kernel
theorem lr_d_M_slot_49 : decode prog_9_method_42_code 49 = .ok (.iload_n 3, 1) := by decide +kernel
theorem lr_d_M_slot_50 : decode prog_9_method_42_code 50 = .ok (.ifCond .ne 13, 3) := by decide +kernel
theorem lr_d_M_slot_53 : decode prog_9_method_42_code 53 = .ok (.aload_n 0, 1) := by decide +kernel
theorem lr_d_M_slot_54 : decode prog_9_method_42_code 54 = .ok (.getfield 20, 3) := by decide +kernel
theorem lr_d_M_slot_57 : decode prog_9_method_42_code 57 = .ok (.iload 4, 2) := by decide +kernel
theorem lr_d_M_slot_59 : decode prog_9_method_42_code 59 = .ok (.iaload, 1) := by decide +kernel
theorem lr_d_M_slot_60 : decode prog_9_method_42_code 60 = .ok (.goto 4, 3) := by decide +kernel
theorem lr_d_M_slot_63 : decode prog_9_method_42_code 63 = .ok (.iconst (-1), 1) := by decide +kernel
theorem lr_d_M_slot_64 : decode prog_9_method_42_code 64 = .ok (.ireturn, 1) := by decide +kernel
theorem lr_d_M_slot_65 : decode prog_9_method_42_code 65 = .ok (.iload_n 3, 1) := by decide +kernel
theorem lr_d_M_slot_66 : decode prog_9_method_42_code 66 = .ok (.iconst 1, 1) := by decide +kernel
theorem lr_d_M_slot_67 : decode prog_9_method_42_code 67 = .ok (.if_icmp .ne 11, 3) := by decide +kernel
theorem lr_d_M_slot_70 : decode prog_9_method_42_code 70 = .ok (.aload_n 0, 1) := by decide +kernel
theorem lr_d_M_slot_71 : decode prog_9_method_42_code 71 = .ok (.getfield 23, 3) := by decide +kernel
theorem lr_d_M_slot_74 : decode prog_9_method_42_code 74 = .ok (.iload 4, 2) := by decide +kernel
theorem lr_d_M_slot_76 : decode prog_9_method_42_code 76 = .ok (.iaload, 1) := by decide +kernel
theorem lr_d_M_slot_77 : decode prog_9_method_42_code 77 = .ok (.ireturn, 1) := by decide +kernel
theorem lr_d_M_slot_78 : decode prog_9_method_42_code 78 = .ok (.aload_n 0, 1) := by decide +kernel
theorem lr_d_M_slot_79 : decode prog_9_method_42_code 79 = .ok (.getfield 20, 3) := by decide +kernel
theorem lr_d_M_slot_82 : decode prog_9_method_42_code 82 = .ok (.iload 4, 2) := by decide +kernel
theorem lr_d_M_slot_84 : decode prog_9_method_42_code 84 = .ok (.iaload, 1) := by decide +kernel
theorem lr_d_M_slot_85 : decode prog_9_method_42_code 85 = .ok (.iconst 1, 1) := by decide +kernel
theorem lr_d_M_slot_86 : decode prog_9_method_42_code 86 = .ok (.if_icmp .ne 32, 3) := by decide +kernel
theorem lr_d_M_slot_89 : decode prog_9_method_42_code 89 = .ok (.iload_n 3, 1) := by decide +kernel
theorem lr_d_M_slot_90 : decode prog_9_method_42_code 90 = .ok (.iconst 2, 1) := by decide +kernel
theorem lr_d_M_slot_91 : decode prog_9_method_42_code 91 = .ok (.if_icmp .ne 13, 3) := by decide +kernel
theorem lr_d_M_slot_94 : decode prog_9_method_42_code 94 = .ok (.aload_n 0, 1) := by decide +kernel
theorem lr_d_M_slot_95 : decode prog_9_method_42_code 95 = .ok (.getfield 26, 3) := by decide +kernel
theorem lr_d_M_slot_98 : decode prog_9_method_42_code 98 = .ok (.iload 4, 2) := by decide +kernel
theorem lr_d_M_slot_100 : decode prog_9_method_42_code 100 = .ok (.iaload, 1) := by decide +kernel
theorem lr_d_M_slot_101 : decode prog_9_method_42_code 101 = .ok (.goto 16, 3) := by decide +kernel
theorem lr_d_M_slot_104 : decode prog_9_method_42_code 104 = .ok (.aload_n 0, 1) := by decide +kernel
theorem lr_d_M_slot_105 : decode prog_9_method_42_code 105 = .ok (.getfield 29, 3) := by decide +kernel
theorem lr_d_M_slot_108 : decode prog_9_method_42_code 108 = .ok (.iconst 2, 1) := by decide +kernel
theorem lr_d_M_slot_109 : decode prog_9_method_42_code 109 = .ok (.iload 4, 2) := by decide +kernel
theorem lr_d_M_slot_111 : decode prog_9_method_42_code 111 = .ok (.imul, 1) := by decide +kernel
theorem lr_d_M_slot_112 : decode prog_9_method_42_code 112 = .ok (.iload_n 3, 1) := by decide +kernel
theorem lr_d_M_slot_113 : decode prog_9_method_42_code 113 = .ok (.iadd, 1) := by decide +kernel
theorem lr_d_M_slot_114 : decode prog_9_method_42_code 114 = .ok (.iconst 3, 1) := by decide +kernel
theorem lr_d_M_slot_115 : decode prog_9_method_42_code 115 = .ok (.isub, 1) := by decide +kernel
theorem lr_d_M_slot_116 : decode prog_9_method_42_code 116 = .ok (.iaload, 1) := by decide +kernel
theorem lr_d_M_slot_117 : decode prog_9_method_42_code 117 = .ok (.ireturn, 1) := by decide +kernel
theorem lr_d_M_slot_118 : decode prog_9_method_42_code 118 = .ok (.iload_n 3, 1) := by decide +kernel
theorem lr_d_M_slot_119 : decode prog_9_method_42_code 119 = .ok (.iconst 2, 1) := by decide +kernel
theorem lr_d_M_slot_120 : decode prog_9_method_42_code 120 = .ok (.if_icmp .ne 34, 3) := by decide +kernel
theorem lr_d_M_slot_123 : decode prog_9_method_42_code 123 = .ok (.aload_n 0, 1) := by decide +kernel
theorem lr_d_M_slot_124 : decode prog_9_method_42_code 124 = .ok (.iload 4, 2) := by decide +kernel
theorem lr_d_M_slot_126 : decode prog_9_method_42_code 126 = .ok (.invokevirtual 149, 3) := by decide +kernel
theorem lr_d_M_slot_129 : decode prog_9_method_42_code 129 = .ok (.ifCond .eq 7, 3) := by decide +kernel
theorem lr_d_M_slot_132 : decode prog_9_method_42_code 132 = .ok (.iconst 2, 1) := by decide +kernel
theorem lr_d_M_slot_133 : decode prog_9_method_42_code 133 = .ok (.goto 43, 3) := by decide +kernel
theorem lr_d_M_slot_136 : decode prog_9_method_42_code 136 = .ok (.aload_n 0, 1) := by decide +kernel
theorem lr_d_M_slot_137 : decode prog_9_method_42_code 137 = .ok (.getfield 50, 3) := by decide +kernel
theorem lr_d_M_slot_140 : decode prog_9_method_42_code 140 = .ok (.iload 4, 2) := by decide +kernel
theorem lr_d_M_slot_142 : decode prog_9_method_42_code 142 = .ok (.baload, 1) := by decide +kernel
theorem lr_d_M_slot_143 : decode prog_9_method_42_code 143 = .ok (.ifCond .eq 7, 3) := by decide +kernel
theorem lr_d_M_slot_146 : decode prog_9_method_42_code 146 = .ok (.iconst 1, 1) := by decide +kernel
theorem lr_d_M_slot_147 : decode prog_9_method_42_code 147 = .ok (.goto 29, 3) := by decide +kernel
theorem lr_d_M_slot_150 : decode prog_9_method_42_code 150 = .ok (.iconst 0, 1) := by decide +kernel
theorem lr_d_M_slot_151 : decode prog_9_method_42_code 151 = .ok (.goto 25, 3) := by decide +kernel
theorem lr_d_M_slot_154 : decode prog_9_method_42_code 154 = .ok (.iload_n 3, 1) := by decide +kernel
theorem lr_d_M_slot_155 : decode prog_9_method_42_code 155 = .ok (.iconst 3, 1) := by decide +kernel
theorem lr_d_M_slot_156 : decode prog_9_method_42_code 156 = .ok (.if_icmp .ne 13, 3) := by decide +kernel
theorem lr_d_M_slot_159 : decode prog_9_method_42_code 159 = .ok (.aload_n 0, 1) := by decide +kernel
theorem lr_d_M_slot_160 : decode prog_9_method_42_code 160 = .ok (.getfield 47, 3) := by decide +kernel
theorem lr_d_M_slot_163 : decode prog_9_method_42_code 163 = .ok (.iload 4, 2) := by decide +kernel
theorem lr_d_M_slot_165 : decode prog_9_method_42_code 165 = .ok (.iaload, 1) := by decide +kernel
theorem lr_d_M_slot_166 : decode prog_9_method_42_code 166 = .ok (.goto 10, 3) := by decide +kernel
theorem lr_d_M_slot_169 : decode prog_9_method_42_code 169 = .ok (.aload_n 0, 1) := by decide +kernel
theorem lr_d_M_slot_170 : decode prog_9_method_42_code 170 = .ok (.getfield 38, 3) := by decide +kernel
theorem lr_d_M_slot_173 : decode prog_9_method_42_code 173 = .ok (.iload 4, 2) := by decide +kernel
theorem lr_d_M_slot_175 : decode prog_9_method_42_code 175 = .ok (.iaload, 1) := by decide +kernel
theorem lr_d_M_slot_176 : decode prog_9_method_42_code 176 = .ok (.ireturn, 1) := by decide +kernel
