abbrev lr_m_Message_init : lr_M := (lr_iM, prog_2_method_1_code, 1, none, 1, 12)
theorem lr_d_Message_init_0 : decode prog_2_method_1_code 0 = .ok (.aload_n 0, 1) := by decide +kernel
theorem lr_d_Message_init_1 : decode prog_2_method_1_code 1 = .ok (.invokespecial 3, 3) := by decide +kernel
theorem lr_d_Message_init_4 : decode prog_2_method_1_code 4 = .ok (.return_, 1) := by decide +kernel
abbrev lr_m_Network_init : lr_M := (⟨lr_R1, "<init>", "()V"⟩, prog_3_method_1_code, 2, none, 2, 32)
theorem lr_d_Network_init_0 : decode prog_3_method_1_code 0 = .ok (.aload_n 0, 1) := by decide +kernel
theorem lr_d_Network_init_1 : decode prog_3_method_1_code 1 = .ok (.invokespecial 3, 3) := by decide +kernel
theorem lr_d_Network_init_4 : decode prog_3_method_1_code 4 = .ok (.aload_n 0, 1) := by decide +kernel
theorem lr_d_Network_init_5 : decode prog_3_method_1_code 5 = .ok (.iconst 0, 1) := by decide +kernel
theorem lr_d_Network_init_6 : decode prog_3_method_1_code 6 = .ok (.putfield 9, 3) := by decide +kernel
theorem lr_d_Network_init_9 : decode prog_3_method_1_code 9 = .ok (.aload_n 0, 1) := by decide +kernel
theorem lr_d_Network_init_10 : decode prog_3_method_1_code 10 = .ok (.iconst 0, 1) := by decide +kernel
theorem lr_d_Network_init_11 : decode prog_3_method_1_code 11 = .ok (.putfield 15, 3) := by decide +kernel
theorem lr_d_Network_init_14 : decode prog_3_method_1_code 14 = .ok (.aload_n 0, 1) := by decide +kernel
theorem lr_d_Network_init_15 : decode prog_3_method_1_code 15 = .ok (.bipush 32, 2) := by decide +kernel
theorem lr_d_Network_init_17 : decode prog_3_method_1_code 17 = .ok (.anewarray 18, 3) := by decide +kernel
theorem lr_d_Network_init_20 : decode prog_3_method_1_code 20 = .ok (.putfield 20, 3) := by decide +kernel
theorem lr_d_Network_init_23 : decode prog_3_method_1_code 23 = .ok (.iconst 0, 1) := by decide +kernel
theorem lr_d_Network_init_24 : decode prog_3_method_1_code 24 = .ok (.istore_n 1, 1) := by decide +kernel
theorem lr_d_Network_init_25 : decode prog_3_method_1_code 25 = .ok (.iload_n 1, 1) := by decide +kernel
theorem lr_d_Network_init_26 : decode prog_3_method_1_code 26 = .ok (.bipush 32, 2) := by decide +kernel
theorem lr_d_Network_init_28 : decode prog_3_method_1_code 28 = .ok (.if_icmp .ge 22, 3) := by decide +kernel
theorem lr_d_Network_init_31 : decode prog_3_method_1_code 31 = .ok (.aload_n 0, 1) := by decide +kernel
theorem lr_d_Network_init_32 : decode prog_3_method_1_code 32 = .ok (.getfield 20, 3) := by decide +kernel
theorem lr_d_Network_init_35 : decode prog_3_method_1_code 35 = .ok (.iload_n 1, 1) := by decide +kernel
theorem lr_d_Network_init_36 : decode prog_3_method_1_code 36 = .ok (.new 18, 3) := by decide +kernel
theorem lr_d_Network_init_39 : decode prog_3_method_1_code 39 = .ok (.dup, 1) := by decide +kernel
theorem lr_d_Network_init_40 : decode prog_3_method_1_code 40 = .ok (.invokespecial 24, 3) := by decide +kernel
theorem lr_d_Network_init_43 : decode prog_3_method_1_code 43 = .ok (.aastore, 1) := by decide +kernel
theorem lr_d_Network_init_44 : decode prog_3_method_1_code 44 = .ok (.iinc 1 1, 3) := by decide +kernel
theorem lr_d_Network_init_47 : decode prog_3_method_1_code 47 = .ok (.goto (-22), 3) := by decide +kernel
theorem lr_d_Network_init_50 : decode prog_3_method_1_code 50 = .ok (.return_, 1) := by decide +kernel
abbrev lr_m_Node_init : lr_M := (⟨lr_R2, "<init>", "(ILLeasedReferences$Network;)V"⟩, prog_4_method_1_code, 4, none, 2, 32)
theorem lr_d_Node_init_0 : decode prog_4_method_1_code 0 = .ok (.aload_n 0, 1) := by decide +kernel
theorem lr_d_Node_init_1 : decode prog_4_method_1_code 1 = .ok (.invokespecial 3, 3) := by decide +kernel
theorem lr_d_Node_init_4 : decode prog_4_method_1_code 4 = .ok (.aload_n 0, 1) := by decide +kernel
theorem lr_d_Node_init_5 : decode prog_4_method_1_code 5 = .ok (.iload_n 1, 1) := by decide +kernel
theorem lr_d_Node_init_6 : decode prog_4_method_1_code 6 = .ok (.putfield 9, 3) := by decide +kernel
theorem lr_d_Node_init_9 : decode prog_4_method_1_code 9 = .ok (.aload_n 0, 1) := by decide +kernel
theorem lr_d_Node_init_10 : decode prog_4_method_1_code 10 = .ok (.aload_n 2, 1) := by decide +kernel
theorem lr_d_Node_init_11 : decode prog_4_method_1_code 11 = .ok (.putfield 15, 3) := by decide +kernel
theorem lr_d_Node_init_14 : decode prog_4_method_1_code 14 = .ok (.aload_n 0, 1) := by decide +kernel
theorem lr_d_Node_init_15 : decode prog_4_method_1_code 15 = .ok (.bipush 8, 2) := by decide +kernel
theorem lr_d_Node_init_17 : decode prog_4_method_1_code 17 = .ok (.anewarray 19, 3) := by decide +kernel
theorem lr_d_Node_init_20 : decode prog_4_method_1_code 20 = .ok (.putfield 21, 3) := by decide +kernel
theorem lr_d_Node_init_23 : decode prog_4_method_1_code 23 = .ok (.iconst 0, 1) := by decide +kernel
theorem lr_d_Node_init_24 : decode prog_4_method_1_code 24 = .ok (.istore_n 3, 1) := by decide +kernel
theorem lr_d_Node_init_25 : decode prog_4_method_1_code 25 = .ok (.iload_n 3, 1) := by decide +kernel
theorem lr_d_Node_init_26 : decode prog_4_method_1_code 26 = .ok (.bipush 8, 2) := by decide +kernel
theorem lr_d_Node_init_28 : decode prog_4_method_1_code 28 = .ok (.if_icmp .ge 22, 3) := by decide +kernel
theorem lr_d_Node_init_31 : decode prog_4_method_1_code 31 = .ok (.aload_n 0, 1) := by decide +kernel
theorem lr_d_Node_init_32 : decode prog_4_method_1_code 32 = .ok (.getfield 21, 3) := by decide +kernel
theorem lr_d_Node_init_35 : decode prog_4_method_1_code 35 = .ok (.iload_n 3, 1) := by decide +kernel
theorem lr_d_Node_init_36 : decode prog_4_method_1_code 36 = .ok (.new 19, 3) := by decide +kernel
theorem lr_d_Node_init_39 : decode prog_4_method_1_code 39 = .ok (.dup, 1) := by decide +kernel
theorem lr_d_Node_init_40 : decode prog_4_method_1_code 40 = .ok (.invokespecial 25, 3) := by decide +kernel
theorem lr_d_Node_init_43 : decode prog_4_method_1_code 43 = .ok (.aastore, 1) := by decide +kernel
theorem lr_d_Node_init_44 : decode prog_4_method_1_code 44 = .ok (.iinc 3 1, 3) := by decide +kernel
theorem lr_d_Node_init_47 : decode prog_4_method_1_code 47 = .ok (.goto (-22), 3) := by decide +kernel
theorem lr_d_Node_init_50 : decode prog_4_method_1_code 50 = .ok (.aload_n 0, 1) := by decide +kernel
theorem lr_d_Node_init_51 : decode prog_4_method_1_code 51 = .ok (.iconst 3, 1) := by decide +kernel
theorem lr_d_Node_init_52 : decode prog_4_method_1_code 52 = .ok (.newarray .int, 2) := by decide +kernel
theorem lr_d_Node_init_54 : decode prog_4_method_1_code 54 = .ok (.putfield 26, 3) := by decide +kernel
theorem lr_d_Node_init_57 : decode prog_4_method_1_code 57 = .ok (.iconst 0, 1) := by decide +kernel
theorem lr_d_Node_init_58 : decode prog_4_method_1_code 58 = .ok (.istore_n 3, 1) := by decide +kernel
theorem lr_d_Node_init_59 : decode prog_4_method_1_code 59 = .ok (.iload_n 3, 1) := by decide +kernel
theorem lr_d_Node_init_60 : decode prog_4_method_1_code 60 = .ok (.iconst 3, 1) := by decide +kernel
theorem lr_d_Node_init_61 : decode prog_4_method_1_code 61 = .ok (.if_icmp .ge 16, 3) := by decide +kernel
theorem lr_d_Node_init_64 : decode prog_4_method_1_code 64 = .ok (.aload_n 0, 1) := by decide +kernel
theorem lr_d_Node_init_65 : decode prog_4_method_1_code 65 = .ok (.getfield 26, 3) := by decide +kernel
theorem lr_d_Node_init_68 : decode prog_4_method_1_code 68 = .ok (.iload_n 3, 1) := by decide +kernel
theorem lr_d_Node_init_69 : decode prog_4_method_1_code 69 = .ok (.iconst (-1), 1) := by decide +kernel
theorem lr_d_Node_init_70 : decode prog_4_method_1_code 70 = .ok (.iastore, 1) := by decide +kernel
theorem lr_d_Node_init_71 : decode prog_4_method_1_code 71 = .ok (.iinc 3 1, 3) := by decide +kernel
theorem lr_d_Node_init_74 : decode prog_4_method_1_code 74 = .ok (.goto (-15), 3) := by decide +kernel
theorem lr_d_Node_init_77 : decode prog_4_method_1_code 77 = .ok (.aload_n 0, 1) := by decide +kernel
theorem lr_d_Node_init_78 : decode prog_4_method_1_code 78 = .ok (.bipush 6, 2) := by decide +kernel
theorem lr_d_Node_init_80 : decode prog_4_method_1_code 80 = .ok (.anewarray 30, 3) := by decide +kernel
theorem lr_d_Node_init_83 : decode prog_4_method_1_code 83 = .ok (.putfield 32, 3) := by decide +kernel
theorem lr_d_Node_init_86 : decode prog_4_method_1_code 86 = .ok (.iconst 0, 1) := by decide +kernel
theorem lr_d_Node_init_87 : decode prog_4_method_1_code 87 = .ok (.istore_n 3, 1) := by decide +kernel
theorem lr_d_Node_init_88 : decode prog_4_method_1_code 88 = .ok (.iload_n 3, 1) := by decide +kernel
theorem lr_d_Node_init_89 : decode prog_4_method_1_code 89 = .ok (.bipush 6, 2) := by decide +kernel
theorem lr_d_Node_init_91 : decode prog_4_method_1_code 91 = .ok (.if_icmp .ge 22, 3) := by decide +kernel
theorem lr_d_Node_init_94 : decode prog_4_method_1_code 94 = .ok (.aload_n 0, 1) := by decide +kernel
theorem lr_d_Node_init_95 : decode prog_4_method_1_code 95 = .ok (.getfield 32, 3) := by decide +kernel
theorem lr_d_Node_init_98 : decode prog_4_method_1_code 98 = .ok (.iload_n 3, 1) := by decide +kernel
theorem lr_d_Node_init_99 : decode prog_4_method_1_code 99 = .ok (.new 30, 3) := by decide +kernel
theorem lr_d_Node_init_102 : decode prog_4_method_1_code 102 = .ok (.dup, 1) := by decide +kernel
theorem lr_d_Node_init_103 : decode prog_4_method_1_code 103 = .ok (.invokespecial 36, 3) := by decide +kernel
theorem lr_d_Node_init_106 : decode prog_4_method_1_code 106 = .ok (.aastore, 1) := by decide +kernel
theorem lr_d_Node_init_107 : decode prog_4_method_1_code 107 = .ok (.iinc 3 1, 3) := by decide +kernel
theorem lr_d_Node_init_110 : decode prog_4_method_1_code 110 = .ok (.goto (-22), 3) := by decide +kernel
theorem lr_d_Node_init_113 : decode prog_4_method_1_code 113 = .ok (.aload_n 0, 1) := by decide +kernel
theorem lr_d_Node_init_114 : decode prog_4_method_1_code 114 = .ok (.new 37, 3) := by decide +kernel
theorem lr_d_Node_init_117 : decode prog_4_method_1_code 117 = .ok (.dup, 1) := by decide +kernel
theorem lr_d_Node_init_118 : decode prog_4_method_1_code 118 = .ok (.invokespecial 39, 3) := by decide +kernel
theorem lr_d_Node_init_121 : decode prog_4_method_1_code 121 = .ok (.putfield 40, 3) := by decide +kernel
theorem lr_d_Node_init_124 : decode prog_4_method_1_code 124 = .ok (.aload_n 0, 1) := by decide +kernel
theorem lr_d_Node_init_125 : decode prog_4_method_1_code 125 = .ok (.getfield 40, 3) := by decide +kernel
theorem lr_d_Node_init_128 : decode prog_4_method_1_code 128 = .ok (.iconst 0, 1) := by decide +kernel
theorem lr_d_Node_init_129 : decode prog_4_method_1_code 129 = .ok (.putfield 44, 3) := by decide +kernel
theorem lr_d_Node_init_132 : decode prog_4_method_1_code 132 = .ok (.aload_n 0, 1) := by decide +kernel
theorem lr_d_Node_init_133 : decode prog_4_method_1_code 133 = .ok (.iconst 4, 1) := by decide +kernel
theorem lr_d_Node_init_134 : decode prog_4_method_1_code 134 = .ok (.anewarray 47, 3) := by decide +kernel
theorem lr_d_Node_init_137 : decode prog_4_method_1_code 137 = .ok (.putfield 49, 3) := by decide +kernel
theorem lr_d_Node_init_140 : decode prog_4_method_1_code 140 = .ok (.iconst 0, 1) := by decide +kernel
theorem lr_d_Node_init_141 : decode prog_4_method_1_code 141 = .ok (.istore_n 3, 1) := by decide +kernel
theorem lr_d_Node_init_142 : decode prog_4_method_1_code 142 = .ok (.iload_n 3, 1) := by decide +kernel
theorem lr_d_Node_init_143 : decode prog_4_method_1_code 143 = .ok (.iconst 4, 1) := by decide +kernel
theorem lr_d_Node_init_144 : decode prog_4_method_1_code 144 = .ok (.if_icmp .ge 22, 3) := by decide +kernel
theorem lr_d_Node_init_147 : decode prog_4_method_1_code 147 = .ok (.aload_n 0, 1) := by decide +kernel
theorem lr_d_Node_init_148 : decode prog_4_method_1_code 148 = .ok (.getfield 49, 3) := by decide +kernel
theorem lr_d_Node_init_151 : decode prog_4_method_1_code 151 = .ok (.iload_n 3, 1) := by decide +kernel
theorem lr_d_Node_init_152 : decode prog_4_method_1_code 152 = .ok (.new 47, 3) := by decide +kernel
theorem lr_d_Node_init_155 : decode prog_4_method_1_code 155 = .ok (.dup, 1) := by decide +kernel
theorem lr_d_Node_init_156 : decode prog_4_method_1_code 156 = .ok (.invokespecial 53, 3) := by decide +kernel
theorem lr_d_Node_init_159 : decode prog_4_method_1_code 159 = .ok (.aastore, 1) := by decide +kernel
theorem lr_d_Node_init_160 : decode prog_4_method_1_code 160 = .ok (.iinc 3 1, 3) := by decide +kernel
theorem lr_d_Node_init_163 : decode prog_4_method_1_code 163 = .ok (.goto (-21), 3) := by decide +kernel
theorem lr_d_Node_init_166 : decode prog_4_method_1_code 166 = .ok (.aload_n 0, 1) := by decide +kernel
theorem lr_d_Node_init_167 : decode prog_4_method_1_code 167 = .ok (.bipush 8, 2) := by decide +kernel
theorem lr_d_Node_init_169 : decode prog_4_method_1_code 169 = .ok (.newarray .boolean, 2) := by decide +kernel
theorem lr_d_Node_init_171 : decode prog_4_method_1_code 171 = .ok (.putfield 54, 3) := by decide +kernel
theorem lr_d_Node_init_174 : decode prog_4_method_1_code 174 = .ok (.aload_n 0, 1) := by decide +kernel
theorem lr_d_Node_init_175 : decode prog_4_method_1_code 175 = .ok (.iconst 0, 1) := by decide +kernel
theorem lr_d_Node_init_176 : decode prog_4_method_1_code 176 = .ok (.putfield 58, 3) := by decide +kernel
theorem lr_d_Node_init_179 : decode prog_4_method_1_code 179 = .ok (.aload_n 0, 1) := by decide +kernel
theorem lr_d_Node_init_180 : decode prog_4_method_1_code 180 = .ok (.iconst 0, 1) := by decide +kernel
theorem lr_d_Node_init_181 : decode prog_4_method_1_code 181 = .ok (.putfield 61, 3) := by decide +kernel
theorem lr_d_Node_init_184 : decode prog_4_method_1_code 184 = .ok (.return_, 1) := by decide +kernel
abbrev lr_m_Pin_init : lr_M := (lr_iP, prog_5_method_1_code, 1, none, 1, 12)
theorem lr_d_Pin_init_0 : decode prog_5_method_1_code 0 = .ok (.aload_n 0, 1) := by decide +kernel
theorem lr_d_Pin_init_1 : decode prog_5_method_1_code 1 = .ok (.invokespecial 1, 3) := by decide +kernel
theorem lr_d_Pin_init_4 : decode prog_5_method_1_code 4 = .ok (.return_, 1) := by decide +kernel
abbrev lr_m_Request_init : lr_M := (lr_iQ, prog_6_method_1_code, 1, none, 1, 12)
theorem lr_d_Request_init_0 : decode prog_6_method_1_code 0 = .ok (.aload_n 0, 1) := by decide +kernel
theorem lr_d_Request_init_1 : decode prog_6_method_1_code 1 = .ok (.invokespecial 3, 3) := by decide +kernel
theorem lr_d_Request_init_4 : decode prog_6_method_1_code 4 = .ok (.return_, 1) := by decide +kernel
abbrev lr_m_Slot_init : lr_M := (⟨lr_R5, "<init>", "()V"⟩, prog_7_method_1_code, 1, none, 1, 12)
theorem lr_d_Slot_init_0 : decode prog_7_method_1_code 0 = .ok (.aload_n 0, 1) := by decide +kernel
theorem lr_d_Slot_init_1 : decode prog_7_method_1_code 1 = .ok (.invokespecial 3, 3) := by decide +kernel
theorem lr_d_Slot_init_4 : decode prog_7_method_1_code 4 = .ok (.aload_n 0, 1) := by decide +kernel
theorem lr_d_Slot_init_5 : decode prog_7_method_1_code 5 = .ok (.iconst 0, 1) := by decide +kernel
theorem lr_d_Slot_init_6 : decode prog_7_method_1_code 6 = .ok (.putfield 9, 3) := by decide +kernel
theorem lr_d_Slot_init_9 : decode prog_7_method_1_code 9 = .ok (.aload_n 0, 1) := by decide +kernel
theorem lr_d_Slot_init_10 : decode prog_7_method_1_code 10 = .ok (.iconst 2, 1) := by decide +kernel
theorem lr_d_Slot_init_11 : decode prog_7_method_1_code 11 = .ok (.newarray .int, 2) := by decide +kernel
theorem lr_d_Slot_init_13 : decode prog_7_method_1_code 13 = .ok (.putfield 15, 3) := by decide +kernel
theorem lr_d_Slot_init_16 : decode prog_7_method_1_code 16 = .ok (.aload_n 0, 1) := by decide +kernel
theorem lr_d_Slot_init_17 : decode prog_7_method_1_code 17 = .ok (.iconst 4, 1) := by decide +kernel
theorem lr_d_Slot_init_18 : decode prog_7_method_1_code 18 = .ok (.newarray .int, 2) := by decide +kernel
theorem lr_d_Slot_init_20 : decode prog_7_method_1_code 20 = .ok (.putfield 19, 3) := by decide +kernel
theorem lr_d_Slot_init_23 : decode prog_7_method_1_code 23 = .ok (.aload_n 0, 1) := by decide +kernel
theorem lr_d_Slot_init_24 : decode prog_7_method_1_code 24 = .ok (.iconst 4, 1) := by decide +kernel
theorem lr_d_Slot_init_25 : decode prog_7_method_1_code 25 = .ok (.newarray .int, 2) := by decide +kernel
theorem lr_d_Slot_init_27 : decode prog_7_method_1_code 27 = .ok (.putfield 22, 3) := by decide +kernel
theorem lr_d_Slot_init_30 : decode prog_7_method_1_code 30 = .ok (.return_, 1) := by decide +kernel
abbrev lr_m_X_init : lr_M := (⟨lr_R6, "<init>", "()V"⟩, prog_1_method_1_code, 3, none, 3, 55)
theorem lr_d_X_init_0 : decode prog_1_method_1_code 0 = .ok (.aload_n 0, 1) := by decide +kernel
theorem lr_d_X_init_1 : decode prog_1_method_1_code 1 = .ok (.invokespecial 1, 3) := by decide +kernel
theorem lr_d_X_init_4 : decode prog_1_method_1_code 4 = .ok (.new 7, 3) := by decide +kernel
theorem lr_d_X_init_7 : decode prog_1_method_1_code 7 = .ok (.dup, 1) := by decide +kernel
theorem lr_d_X_init_8 : decode prog_1_method_1_code 8 = .ok (.invokespecial 9, 3) := by decide +kernel
theorem lr_d_X_init_11 : decode prog_1_method_1_code 11 = .ok (.astore_n 1, 1) := by decide +kernel
theorem lr_d_X_init_12 : decode prog_1_method_1_code 12 = .ok (.aload_n 0, 1) := by decide +kernel
theorem lr_d_X_init_13 : decode prog_1_method_1_code 13 = .ok (.aload_n 1, 1) := by decide +kernel
theorem lr_d_X_init_14 : decode prog_1_method_1_code 14 = .ok (.putfield 10, 3) := by decide +kernel
theorem lr_d_X_init_17 : decode prog_1_method_1_code 17 = .ok (.aload_n 0, 1) := by decide +kernel
theorem lr_d_X_init_18 : decode prog_1_method_1_code 18 = .ok (.iconst 4, 1) := by decide +kernel
theorem lr_d_X_init_19 : decode prog_1_method_1_code 19 = .ok (.anewarray 16, 3) := by decide +kernel
theorem lr_d_X_init_22 : decode prog_1_method_1_code 22 = .ok (.putfield 18, 3) := by decide +kernel
theorem lr_d_X_init_25 : decode prog_1_method_1_code 25 = .ok (.iconst 0, 1) := by decide +kernel
theorem lr_d_X_init_26 : decode prog_1_method_1_code 26 = .ok (.istore_n 2, 1) := by decide +kernel
theorem lr_d_X_init_27 : decode prog_1_method_1_code 27 = .ok (.iload_n 2, 1) := by decide +kernel
theorem lr_d_X_init_28 : decode prog_1_method_1_code 28 = .ok (.iconst 4, 1) := by decide +kernel
theorem lr_d_X_init_29 : decode prog_1_method_1_code 29 = .ok (.if_icmp .ge 24, 3) := by decide +kernel
theorem lr_d_X_init_32 : decode prog_1_method_1_code 32 = .ok (.aload_n 0, 1) := by decide +kernel
theorem lr_d_X_init_33 : decode prog_1_method_1_code 33 = .ok (.getfield 18, 3) := by decide +kernel
theorem lr_d_X_init_36 : decode prog_1_method_1_code 36 = .ok (.iload_n 2, 1) := by decide +kernel
theorem lr_d_X_init_37 : decode prog_1_method_1_code 37 = .ok (.new 16, 3) := by decide +kernel
theorem lr_d_X_init_40 : decode prog_1_method_1_code 40 = .ok (.dup, 1) := by decide +kernel
theorem lr_d_X_init_41 : decode prog_1_method_1_code 41 = .ok (.iload_n 2, 1) := by decide +kernel
theorem lr_d_X_init_42 : decode prog_1_method_1_code 42 = .ok (.aload_n 1, 1) := by decide +kernel
theorem lr_d_X_init_43 : decode prog_1_method_1_code 43 = .ok (.invokespecial 22, 3) := by decide +kernel
theorem lr_d_X_init_46 : decode prog_1_method_1_code 46 = .ok (.aastore, 1) := by decide +kernel
theorem lr_d_X_init_47 : decode prog_1_method_1_code 47 = .ok (.iinc 2 1, 3) := by decide +kernel
theorem lr_d_X_init_50 : decode prog_1_method_1_code 50 = .ok (.goto (-23), 3) := by decide +kernel
theorem lr_d_X_init_53 : decode prog_1_method_1_code 53 = .ok (.aload_n 0, 1) := by decide +kernel
theorem lr_d_X_init_54 : decode prog_1_method_1_code 54 = .ok (.new 25, 3) := by decide +kernel
theorem lr_d_X_init_57 : decode prog_1_method_1_code 57 = .ok (.dup, 1) := by decide +kernel
theorem lr_d_X_init_58 : decode prog_1_method_1_code 58 = .ok (.invokespecial 27, 3) := by decide +kernel
theorem lr_d_X_init_61 : decode prog_1_method_1_code 61 = .ok (.putfield 28, 3) := by decide +kernel
theorem lr_d_X_init_64 : decode prog_1_method_1_code 64 = .ok (.aload_n 0, 1) := by decide +kernel
theorem lr_d_X_init_65 : decode prog_1_method_1_code 65 = .ok (.iconst 0, 1) := by decide +kernel
theorem lr_d_X_init_66 : decode prog_1_method_1_code 66 = .ok (.putfield 32, 3) := by decide +kernel
theorem lr_d_X_init_69 : decode prog_1_method_1_code 69 = .ok (.aload_n 0, 1) := by decide +kernel
theorem lr_d_X_init_70 : decode prog_1_method_1_code 70 = .ok (.iconst 0, 1) := by decide +kernel
theorem lr_d_X_init_71 : decode prog_1_method_1_code 71 = .ok (.putfield 36, 3) := by decide +kernel
theorem lr_d_X_init_74 : decode prog_1_method_1_code 74 = .ok (.return_, 1) := by decide +kernel
abbrev lr_m_M_init : lr_M := (⟨lr_R7, "<init>", "()V"⟩, prog_9_method_1_code, 2, none, 1, 12)
theorem lr_d_M_init_0 : decode prog_9_method_1_code 0 = .ok (.aload_n 0, 1) := by decide +kernel
theorem lr_d_M_init_1 : decode prog_9_method_1_code 1 = .ok (.invokespecial 1, 3) := by decide +kernel
theorem lr_d_M_init_4 : decode prog_9_method_1_code 4 = .ok (.aload_n 0, 1) := by decide +kernel
theorem lr_d_M_init_5 : decode prog_9_method_1_code 5 = .ok (.iconst 4, 1) := by decide +kernel
theorem lr_d_M_init_6 : decode prog_9_method_1_code 6 = .ok (.newarray .boolean, 2) := by decide +kernel
theorem lr_d_M_init_8 : decode prog_9_method_1_code 8 = .ok (.putfield 7, 3) := by decide +kernel
theorem lr_d_M_init_11 : decode prog_9_method_1_code 11 = .ok (.aload_n 0, 1) := by decide +kernel
theorem lr_d_M_init_12 : decode prog_9_method_1_code 12 = .ok (.bipush 12, 2) := by decide +kernel
theorem lr_d_M_init_14 : decode prog_9_method_1_code 14 = .ok (.newarray .int, 2) := by decide +kernel
theorem lr_d_M_init_16 : decode prog_9_method_1_code 16 = .ok (.putfield 13, 3) := by decide +kernel
theorem lr_d_M_init_19 : decode prog_9_method_1_code 19 = .ok (.aload_n 0, 1) := by decide +kernel
theorem lr_d_M_init_20 : decode prog_9_method_1_code 20 = .ok (.iconst 4, 1) := by decide +kernel
theorem lr_d_M_init_21 : decode prog_9_method_1_code 21 = .ok (.newarray .int, 2) := by decide +kernel
theorem lr_d_M_init_23 : decode prog_9_method_1_code 23 = .ok (.putfield 17, 3) := by decide +kernel
theorem lr_d_M_init_26 : decode prog_9_method_1_code 26 = .ok (.aload_n 0, 1) := by decide +kernel
theorem lr_d_M_init_27 : decode prog_9_method_1_code 27 = .ok (.bipush 32, 2) := by decide +kernel
theorem lr_d_M_init_29 : decode prog_9_method_1_code 29 = .ok (.newarray .int, 2) := by decide +kernel
theorem lr_d_M_init_31 : decode prog_9_method_1_code 31 = .ok (.putfield 20, 3) := by decide +kernel
theorem lr_d_M_init_34 : decode prog_9_method_1_code 34 = .ok (.aload_n 0, 1) := by decide +kernel
theorem lr_d_M_init_35 : decode prog_9_method_1_code 35 = .ok (.bipush 32, 2) := by decide +kernel
theorem lr_d_M_init_37 : decode prog_9_method_1_code 37 = .ok (.newarray .int, 2) := by decide +kernel
theorem lr_d_M_init_39 : decode prog_9_method_1_code 39 = .ok (.putfield 23, 3) := by decide +kernel
theorem lr_d_M_init_42 : decode prog_9_method_1_code 42 = .ok (.aload_n 0, 1) := by decide +kernel
theorem lr_d_M_init_43 : decode prog_9_method_1_code 43 = .ok (.bipush 32, 2) := by decide +kernel
theorem lr_d_M_init_45 : decode prog_9_method_1_code 45 = .ok (.newarray .int, 2) := by decide +kernel
theorem lr_d_M_init_47 : decode prog_9_method_1_code 47 = .ok (.putfield 26, 3) := by decide +kernel
theorem lr_d_M_init_50 : decode prog_9_method_1_code 50 = .ok (.aload_n 0, 1) := by decide +kernel
theorem lr_d_M_init_51 : decode prog_9_method_1_code 51 = .ok (.bipush 64, 2) := by decide +kernel
theorem lr_d_M_init_53 : decode prog_9_method_1_code 53 = .ok (.newarray .int, 2) := by decide +kernel
theorem lr_d_M_init_55 : decode prog_9_method_1_code 55 = .ok (.putfield 29, 3) := by decide +kernel
theorem lr_d_M_init_58 : decode prog_9_method_1_code 58 = .ok (.aload_n 0, 1) := by decide +kernel
theorem lr_d_M_init_59 : decode prog_9_method_1_code 59 = .ok (.sipush 128, 3) := by decide +kernel
theorem lr_d_M_init_62 : decode prog_9_method_1_code 62 = .ok (.newarray .int, 2) := by decide +kernel
theorem lr_d_M_init_64 : decode prog_9_method_1_code 64 = .ok (.putfield 32, 3) := by decide +kernel
theorem lr_d_M_init_67 : decode prog_9_method_1_code 67 = .ok (.aload_n 0, 1) := by decide +kernel
theorem lr_d_M_init_68 : decode prog_9_method_1_code 68 = .ok (.sipush 128, 3) := by decide +kernel
theorem lr_d_M_init_71 : decode prog_9_method_1_code 71 = .ok (.newarray .int, 2) := by decide +kernel
theorem lr_d_M_init_73 : decode prog_9_method_1_code 73 = .ok (.putfield 35, 3) := by decide +kernel
theorem lr_d_M_init_76 : decode prog_9_method_1_code 76 = .ok (.aload_n 0, 1) := by decide +kernel
theorem lr_d_M_init_77 : decode prog_9_method_1_code 77 = .ok (.bipush 32, 2) := by decide +kernel
theorem lr_d_M_init_79 : decode prog_9_method_1_code 79 = .ok (.newarray .int, 2) := by decide +kernel
theorem lr_d_M_init_81 : decode prog_9_method_1_code 81 = .ok (.putfield 38, 3) := by decide +kernel
theorem lr_d_M_init_84 : decode prog_9_method_1_code 84 = .ok (.aload_n 0, 1) := by decide +kernel
theorem lr_d_M_init_85 : decode prog_9_method_1_code 85 = .ok (.bipush 32, 2) := by decide +kernel
theorem lr_d_M_init_87 : decode prog_9_method_1_code 87 = .ok (.newarray .int, 2) := by decide +kernel
theorem lr_d_M_init_89 : decode prog_9_method_1_code 89 = .ok (.putfield 41, 3) := by decide +kernel
theorem lr_d_M_init_92 : decode prog_9_method_1_code 92 = .ok (.aload_n 0, 1) := by decide +kernel
theorem lr_d_M_init_93 : decode prog_9_method_1_code 93 = .ok (.bipush 32, 2) := by decide +kernel
theorem lr_d_M_init_95 : decode prog_9_method_1_code 95 = .ok (.newarray .int, 2) := by decide +kernel
theorem lr_d_M_init_97 : decode prog_9_method_1_code 97 = .ok (.putfield 44, 3) := by decide +kernel
theorem lr_d_M_init_100 : decode prog_9_method_1_code 100 = .ok (.aload_n 0, 1) := by decide +kernel
theorem lr_d_M_init_101 : decode prog_9_method_1_code 101 = .ok (.bipush 32, 2) := by decide +kernel
theorem lr_d_M_init_103 : decode prog_9_method_1_code 103 = .ok (.newarray .int, 2) := by decide +kernel
theorem lr_d_M_init_105 : decode prog_9_method_1_code 105 = .ok (.putfield 47, 3) := by decide +kernel
theorem lr_d_M_init_108 : decode prog_9_method_1_code 108 = .ok (.aload_n 0, 1) := by decide +kernel
theorem lr_d_M_init_109 : decode prog_9_method_1_code 109 = .ok (.bipush 32, 2) := by decide +kernel
theorem lr_d_M_init_111 : decode prog_9_method_1_code 111 = .ok (.newarray .boolean, 2) := by decide +kernel
theorem lr_d_M_init_113 : decode prog_9_method_1_code 113 = .ok (.putfield 50, 3) := by decide +kernel
theorem lr_d_M_init_116 : decode prog_9_method_1_code 116 = .ok (.aload_n 0, 1) := by decide +kernel
theorem lr_d_M_init_117 : decode prog_9_method_1_code 117 = .ok (.bipush 32, 2) := by decide +kernel
theorem lr_d_M_init_119 : decode prog_9_method_1_code 119 = .ok (.newarray .int, 2) := by decide +kernel
theorem lr_d_M_init_121 : decode prog_9_method_1_code 121 = .ok (.putfield 53, 3) := by decide +kernel
theorem lr_d_M_init_124 : decode prog_9_method_1_code 124 = .ok (.aload_n 0, 1) := by decide +kernel
theorem lr_d_M_init_125 : decode prog_9_method_1_code 125 = .ok (.bipush 32, 2) := by decide +kernel
theorem lr_d_M_init_127 : decode prog_9_method_1_code 127 = .ok (.newarray .int, 2) := by decide +kernel
theorem lr_d_M_init_129 : decode prog_9_method_1_code 129 = .ok (.putfield 56, 3) := by decide +kernel
theorem lr_d_M_init_132 : decode prog_9_method_1_code 132 = .ok (.aload_n 0, 1) := by decide +kernel
theorem lr_d_M_init_133 : decode prog_9_method_1_code 133 = .ok (.sipush 192, 3) := by decide +kernel
theorem lr_d_M_init_136 : decode prog_9_method_1_code 136 = .ok (.newarray .int, 2) := by decide +kernel
theorem lr_d_M_init_138 : decode prog_9_method_1_code 138 = .ok (.putfield 59, 3) := by decide +kernel
theorem lr_d_M_init_141 : decode prog_9_method_1_code 141 = .ok (.aload_n 0, 1) := by decide +kernel
theorem lr_d_M_init_142 : decode prog_9_method_1_code 142 = .ok (.bipush 6, 2) := by decide +kernel
theorem lr_d_M_init_144 : decode prog_9_method_1_code 144 = .ok (.newarray .int, 2) := by decide +kernel
theorem lr_d_M_init_146 : decode prog_9_method_1_code 146 = .ok (.putfield 62, 3) := by decide +kernel
theorem lr_d_M_init_149 : decode prog_9_method_1_code 149 = .ok (.aload_n 0, 1) := by decide +kernel
theorem lr_d_M_init_150 : decode prog_9_method_1_code 150 = .ok (.sipush 512, 3) := by decide +kernel
theorem lr_d_M_init_153 : decode prog_9_method_1_code 153 = .ok (.newarray .int, 2) := by decide +kernel
theorem lr_d_M_init_155 : decode prog_9_method_1_code 155 = .ok (.putfield 65, 3) := by decide +kernel
theorem lr_d_M_init_158 : decode prog_9_method_1_code 158 = .ok (.aload_n 0, 1) := by decide +kernel
theorem lr_d_M_init_159 : decode prog_9_method_1_code 159 = .ok (.sipush 512, 3) := by decide +kernel
theorem lr_d_M_init_162 : decode prog_9_method_1_code 162 = .ok (.newarray .int, 2) := by decide +kernel
theorem lr_d_M_init_164 : decode prog_9_method_1_code 164 = .ok (.putfield 68, 3) := by decide +kernel
theorem lr_d_M_init_167 : decode prog_9_method_1_code 167 = .ok (.aload_n 0, 1) := by decide +kernel
theorem lr_d_M_init_168 : decode prog_9_method_1_code 168 = .ok (.sipush 512, 3) := by decide +kernel
theorem lr_d_M_init_171 : decode prog_9_method_1_code 171 = .ok (.newarray .boolean, 2) := by decide +kernel
theorem lr_d_M_init_173 : decode prog_9_method_1_code 173 = .ok (.putfield 71, 3) := by decide +kernel
theorem lr_d_M_init_176 : decode prog_9_method_1_code 176 = .ok (.aload_n 0, 1) := by decide +kernel
theorem lr_d_M_init_177 : decode prog_9_method_1_code 177 = .ok (.iconst 4, 1) := by decide +kernel
theorem lr_d_M_init_178 : decode prog_9_method_1_code 178 = .ok (.newarray .int, 2) := by decide +kernel
theorem lr_d_M_init_180 : decode prog_9_method_1_code 180 = .ok (.putfield 74, 3) := by decide +kernel
theorem lr_d_M_init_183 : decode prog_9_method_1_code 183 = .ok (.aload_n 0, 1) := by decide +kernel
theorem lr_d_M_init_184 : decode prog_9_method_1_code 184 = .ok (.iconst 4, 1) := by decide +kernel
theorem lr_d_M_init_185 : decode prog_9_method_1_code 185 = .ok (.newarray .int, 2) := by decide +kernel
theorem lr_d_M_init_187 : decode prog_9_method_1_code 187 = .ok (.putfield 77, 3) := by decide +kernel
theorem lr_d_M_init_190 : decode prog_9_method_1_code 190 = .ok (.aload_n 0, 1) := by decide +kernel
theorem lr_d_M_init_191 : decode prog_9_method_1_code 191 = .ok (.iconst 4, 1) := by decide +kernel
theorem lr_d_M_init_192 : decode prog_9_method_1_code 192 = .ok (.newarray .int, 2) := by decide +kernel
theorem lr_d_M_init_194 : decode prog_9_method_1_code 194 = .ok (.putfield 80, 3) := by decide +kernel
theorem lr_d_M_init_197 : decode prog_9_method_1_code 197 = .ok (.aload_n 0, 1) := by decide +kernel
theorem lr_d_M_init_198 : decode prog_9_method_1_code 198 = .ok (.iconst 4, 1) := by decide +kernel
theorem lr_d_M_init_199 : decode prog_9_method_1_code 199 = .ok (.newarray .int, 2) := by decide +kernel
theorem lr_d_M_init_201 : decode prog_9_method_1_code 201 = .ok (.putfield 83, 3) := by decide +kernel
theorem lr_d_M_init_204 : decode prog_9_method_1_code 204 = .ok (.aload_n 0, 1) := by decide +kernel
theorem lr_d_M_init_205 : decode prog_9_method_1_code 205 = .ok (.iconst 4, 1) := by decide +kernel
theorem lr_d_M_init_206 : decode prog_9_method_1_code 206 = .ok (.newarray .int, 2) := by decide +kernel
theorem lr_d_M_init_208 : decode prog_9_method_1_code 208 = .ok (.putfield 86, 3) := by decide +kernel
theorem lr_d_M_init_211 : decode prog_9_method_1_code 211 = .ok (.aload_n 0, 1) := by decide +kernel
theorem lr_d_M_init_212 : decode prog_9_method_1_code 212 = .ok (.iconst 4, 1) := by decide +kernel
theorem lr_d_M_init_213 : decode prog_9_method_1_code 213 = .ok (.newarray .int, 2) := by decide +kernel
theorem lr_d_M_init_215 : decode prog_9_method_1_code 215 = .ok (.putfield 89, 3) := by decide +kernel
theorem lr_d_M_init_218 : decode prog_9_method_1_code 218 = .ok (.aload_n 0, 1) := by decide +kernel
theorem lr_d_M_init_219 : decode prog_9_method_1_code 219 = .ok (.bipush 16, 2) := by decide +kernel
theorem lr_d_M_init_221 : decode prog_9_method_1_code 221 = .ok (.newarray .int, 2) := by decide +kernel
theorem lr_d_M_init_223 : decode prog_9_method_1_code 223 = .ok (.putfield 92, 3) := by decide +kernel
theorem lr_d_M_init_226 : decode prog_9_method_1_code 226 = .ok (.aload_n 0, 1) := by decide +kernel
theorem lr_d_M_init_227 : decode prog_9_method_1_code 227 = .ok (.bipush 16, 2) := by decide +kernel
theorem lr_d_M_init_229 : decode prog_9_method_1_code 229 = .ok (.newarray .int, 2) := by decide +kernel
theorem lr_d_M_init_231 : decode prog_9_method_1_code 231 = .ok (.putfield 95, 3) := by decide +kernel
theorem lr_d_M_init_234 : decode prog_9_method_1_code 234 = .ok (.aload_n 0, 1) := by decide +kernel
theorem lr_d_M_init_235 : decode prog_9_method_1_code 235 = .ok (.bipush 16, 2) := by decide +kernel
theorem lr_d_M_init_237 : decode prog_9_method_1_code 237 = .ok (.newarray .int, 2) := by decide +kernel
theorem lr_d_M_init_239 : decode prog_9_method_1_code 239 = .ok (.putfield 98, 3) := by decide +kernel
theorem lr_d_M_init_242 : decode prog_9_method_1_code 242 = .ok (.aload_n 0, 1) := by decide +kernel
theorem lr_d_M_init_243 : decode prog_9_method_1_code 243 = .ok (.bipush 16, 2) := by decide +kernel
theorem lr_d_M_init_245 : decode prog_9_method_1_code 245 = .ok (.newarray .int, 2) := by decide +kernel
theorem lr_d_M_init_247 : decode prog_9_method_1_code 247 = .ok (.putfield 101, 3) := by decide +kernel
theorem lr_d_M_init_250 : decode prog_9_method_1_code 250 = .ok (.aload_n 0, 1) := by decide +kernel
theorem lr_d_M_init_251 : decode prog_9_method_1_code 251 = .ok (.bipush 8, 2) := by decide +kernel
theorem lr_d_M_init_253 : decode prog_9_method_1_code 253 = .ok (.newarray .boolean, 2) := by decide +kernel
theorem lr_d_M_init_255 : decode prog_9_method_1_code 255 = .ok (.putfield 104, 3) := by decide +kernel
theorem lr_d_M_init_258 : decode prog_9_method_1_code 258 = .ok (.iconst 0, 1) := by decide +kernel
theorem lr_d_M_init_259 : decode prog_9_method_1_code 259 = .ok (.istore_n 1, 1) := by decide +kernel
theorem lr_d_M_init_260 : decode prog_9_method_1_code 260 = .ok (.iload_n 1, 1) := by decide +kernel
theorem lr_d_M_init_261 : decode prog_9_method_1_code 261 = .ok (.bipush 12, 2) := by decide +kernel
theorem lr_d_M_init_263 : decode prog_9_method_1_code 263 = .ok (.if_icmp .ge 16, 3) := by decide +kernel
theorem lr_d_M_init_266 : decode prog_9_method_1_code 266 = .ok (.aload_n 0, 1) := by decide +kernel
theorem lr_d_M_init_267 : decode prog_9_method_1_code 267 = .ok (.getfield 13, 3) := by decide +kernel
theorem lr_d_M_init_270 : decode prog_9_method_1_code 270 = .ok (.iload_n 1, 1) := by decide +kernel
theorem lr_d_M_init_271 : decode prog_9_method_1_code 271 = .ok (.iconst (-1), 1) := by decide +kernel
theorem lr_d_M_init_272 : decode prog_9_method_1_code 272 = .ok (.iastore, 1) := by decide +kernel
theorem lr_d_M_init_273 : decode prog_9_method_1_code 273 = .ok (.iinc 1 1, 3) := by decide +kernel
theorem lr_d_M_init_276 : decode prog_9_method_1_code 276 = .ok (.goto (-16), 3) := by decide +kernel
theorem lr_d_M_init_279 : decode prog_9_method_1_code 279 = .ok (.return_, 1) := by decide +kernel
abbrev lr_e_Message : va_E := .inr (0, [.int 0, .int 0, .int 0, .int 0, .int 0, .int 0])
abbrev lr_e_Network : va_E := .inr (1, [.int 0, .int 0, .null])
abbrev lr_e_Node : va_E := .inr (2, [.int 0, .null, .null, .null, .null, .null, .null, .null, .int 0, .int 0])
abbrev lr_e_Pin : va_E := .inr (3, [.int 0, .int 0, .int 0])
abbrev lr_e_Request : va_E := .inr (4, [.int 0, .int 0, .int 0, .int 0, .int 0, .int 0])
abbrev lr_e_Slot : va_E := .inr (5, [.int 0, .int 0, .int 0, .null, .null, .null, .int 0, .int 0, .int 0, .int 0, .int 0, .int 0, .int 0])
abbrev lr_e_X : va_E := .inr (6, [.null, .null, .null, .int 0, .int 0])
abbrev lr_e_M : va_E := .inr (7, [.int 0, .null, .null, .null, .null, .null, .null, .null, .null, .null, .null, .null, .null, .null, .null, .null, .null, .int 0, .null, .int 0, .null, .null, .null, .null, .int 0, .null, .null, .null, .null, .null, .null, .null, .null, .null, .null, .null])
theorem lr_w_2 : (Jvm.Cond.initialized "LeasedReferences$Network") ∈ lr_tb := lr_mem 46 (by decide +kernel) (by decide +kernel)
theorem lr_w_3 : (Jvm.Cond.initialized "LeasedReferences$Message") ∈ lr_tb := lr_mem 47 (by decide +kernel) (by decide +kernel)
theorem lr_w_4 : (Jvm.Cond.initialized "LeasedReferences$Node") ∈ lr_tb := lr_mem 48 (by decide +kernel) (by decide +kernel)
theorem lr_w_5 : (Jvm.Cond.initialized "LeasedReferences$Slot") ∈ lr_tb := lr_mem 49 (by decide +kernel) (by decide +kernel)
theorem lr_w_6 : (Jvm.Cond.initialized "LeasedReferences$Pin") ∈ lr_tb := lr_mem 50 (by decide +kernel) (by decide +kernel)
theorem lr_w_7 : (Jvm.Cond.initialized "LeasedReferences$Request") ∈ lr_tb := lr_mem 51 (by decide +kernel) (by decide +kernel)
theorem lr_w_15 : (Jvm.Cond.methodLink "LeasedReferences" (1 : Nat) ({ cls := "java/lang/Object", name := "<init>", desc := "()V" } : Jvm.MethodName)) ∈ lr_tb := lr_mem 59 (by decide +kernel) (by decide +kernel)
theorem lr_w_16 : (Jvm.Cond.instanceMethod ({ cls := "java/lang/Object", name := "<init>", desc := "()V" } : Jvm.MethodName)) ∈ lr_tb := lr_mem 60 (by decide +kernel) (by decide +kernel)
theorem lr_w_17 : (Jvm.Cond.code ({ cls := "java/lang/Object", name := "<init>", desc := "()V" } : Jvm.MethodName) object_method_1_code (1 : Nat) (Option.none : Option Jvm.ClassFile.FieldType)) ∈ lr_tb := lr_mem 61 (by decide +kernel) (by decide +kernel)
theorem lr_w_18 : (Jvm.Cond.classLink "LeasedReferences" (7 : Nat) "LeasedReferences$Network") ∈ lr_tb := lr_mem 62 (by decide +kernel) (by decide +kernel)
theorem lr_w_19 : (Jvm.Cond.instantiable "LeasedReferences$Network" (3 : Nat)) ∈ lr_tb := lr_mem 63 (by decide +kernel) (by decide +kernel)
theorem lr_w_20 : (Jvm.Cond.methodLink "LeasedReferences" (9 : Nat) ({ cls := "LeasedReferences$Network", name := "<init>", desc := "()V" } : Jvm.MethodName)) ∈ lr_tb := lr_mem 64 (by decide +kernel) (by decide +kernel)
theorem lr_w_21 : (Jvm.Cond.instanceMethod ({ cls := "LeasedReferences$Network", name := "<init>", desc := "()V" } : Jvm.MethodName)) ∈ lr_tb := lr_mem 65 (by decide +kernel) (by decide +kernel)
theorem lr_w_22 : (Jvm.Cond.code ({ cls := "LeasedReferences$Network", name := "<init>", desc := "()V" } : Jvm.MethodName) prog_3_method_1_code (2 : Nat) (Option.none : Option Jvm.ClassFile.FieldType)) ∈ lr_tb := lr_mem 66 (by decide +kernel) (by decide +kernel)
theorem lr_w_23 : (Jvm.Cond.methodLink "LeasedReferences$Network" (3 : Nat) ({ cls := "java/lang/Object", name := "<init>", desc := "()V" } : Jvm.MethodName)) ∈ lr_tb := lr_mem 67 (by decide +kernel) (by decide +kernel)
theorem lr_w_24 : (Jvm.Cond.classLink "LeasedReferences$Network" (18 : Nat) "LeasedReferences$Message") ∈ lr_tb := lr_mem 68 (by decide +kernel) (by decide +kernel)
theorem lr_w_26 : (Jvm.Cond.instantiable "LeasedReferences$Message" (6 : Nat)) ∈ lr_tb := lr_mem 70 (by decide +kernel) (by decide +kernel)
theorem lr_w_28 : (Jvm.Cond.instanceMethod ({ cls := "LeasedReferences$Message", name := "<init>", desc := "()V" } : Jvm.MethodName)) ∈ lr_tb := lr_mem 72 (by decide +kernel) (by decide +kernel)
theorem lr_w_29 : (Jvm.Cond.code ({ cls := "LeasedReferences$Message", name := "<init>", desc := "()V" } : Jvm.MethodName) prog_2_method_1_code (1 : Nat) (Option.none : Option Jvm.ClassFile.FieldType)) ∈ lr_tb := lr_mem 73 (by decide +kernel) (by decide +kernel)
theorem lr_w_30 : (Jvm.Cond.methodLink "LeasedReferences$Message" (3 : Nat) ({ cls := "java/lang/Object", name := "<init>", desc := "()V" } : Jvm.MethodName)) ∈ lr_tb := lr_mem 74 (by decide +kernel) (by decide +kernel)
theorem lr_w_64 : (Jvm.Cond.fieldLink "LeasedReferences$Network" (9 : Nat) "LeasedReferences$Network" "clock" "I") ∈ lr_tb := lr_mem 108 (by decide +kernel) (by decide +kernel)
theorem lr_w_67 : (Jvm.Cond.fieldLink "LeasedReferences$Network" (15 : Nat) "LeasedReferences$Network" "count" "I") ∈ lr_tb := lr_mem 111 (by decide +kernel) (by decide +kernel)
theorem lr_w_69 : (Jvm.Cond.fieldLink "LeasedReferences$Network" (20 : Nat) "LeasedReferences$Network" "messages" "[LLeasedReferences$Message;") ∈ lr_tb := lr_mem 113 (by decide +kernel) (by decide +kernel)
theorem lr_w_78 : (Jvm.Cond.classLink "LeasedReferences" (16 : Nat) "LeasedReferences$Node") ∈ lr_tb := lr_mem 122 (by decide +kernel) (by decide +kernel)
theorem lr_w_80 : (Jvm.Cond.instantiable "LeasedReferences$Node" (10 : Nat)) ∈ lr_tb := lr_mem 124 (by decide +kernel) (by decide +kernel)
theorem lr_w_81 : (Jvm.Cond.methodLink "LeasedReferences" (22 : Nat) ({ cls := "LeasedReferences$Node", name := "<init>", desc := "(ILLeasedReferences$Network;)V" } : Jvm.MethodName)) ∈ lr_tb := lr_mem 125 (by decide +kernel) (by decide +kernel)
theorem lr_w_82 : (Jvm.Cond.instanceMethod ({ cls := "LeasedReferences$Node", name := "<init>", desc := "(ILLeasedReferences$Network;)V" } : Jvm.MethodName)) ∈ lr_tb := lr_mem 126 (by decide +kernel) (by decide +kernel)
theorem lr_w_83 : (Jvm.Cond.code ({ cls := "LeasedReferences$Node", name := "<init>", desc := "(ILLeasedReferences$Network;)V" } : Jvm.MethodName) prog_4_method_1_code (4 : Nat) (Option.none : Option Jvm.ClassFile.FieldType)) ∈ lr_tb := lr_mem 127 (by decide +kernel) (by decide +kernel)
theorem lr_w_84 : (Jvm.Cond.methodLink "LeasedReferences$Node" (3 : Nat) ({ cls := "java/lang/Object", name := "<init>", desc := "()V" } : Jvm.MethodName)) ∈ lr_tb := lr_mem 128 (by decide +kernel) (by decide +kernel)
theorem lr_w_85 : (Jvm.Cond.classLink "LeasedReferences$Node" (19 : Nat) "LeasedReferences$Slot") ∈ lr_tb := lr_mem 129 (by decide +kernel) (by decide +kernel)
theorem lr_w_87 : (Jvm.Cond.instantiable "LeasedReferences$Slot" (13 : Nat)) ∈ lr_tb := lr_mem 131 (by decide +kernel) (by decide +kernel)
theorem lr_w_88 : (Jvm.Cond.methodLink "LeasedReferences$Node" (25 : Nat) ({ cls := "LeasedReferences$Slot", name := "<init>", desc := "()V" } : Jvm.MethodName)) ∈ lr_tb := lr_mem 132 (by decide +kernel) (by decide +kernel)
theorem lr_w_89 : (Jvm.Cond.instanceMethod ({ cls := "LeasedReferences$Slot", name := "<init>", desc := "()V" } : Jvm.MethodName)) ∈ lr_tb := lr_mem 133 (by decide +kernel) (by decide +kernel)
theorem lr_w_90 : (Jvm.Cond.code ({ cls := "LeasedReferences$Slot", name := "<init>", desc := "()V" } : Jvm.MethodName) prog_7_method_1_code (1 : Nat) (Option.none : Option Jvm.ClassFile.FieldType)) ∈ lr_tb := lr_mem 134 (by decide +kernel) (by decide +kernel)
theorem lr_w_91 : (Jvm.Cond.methodLink "LeasedReferences$Slot" (3 : Nat) ({ cls := "java/lang/Object", name := "<init>", desc := "()V" } : Jvm.MethodName)) ∈ lr_tb := lr_mem 135 (by decide +kernel) (by decide +kernel)
theorem lr_w_92 : (Jvm.Cond.fieldLink "LeasedReferences$Slot" (9 : Nat) "LeasedReferences$Slot" "holds" "I") ∈ lr_tb := lr_mem 136 (by decide +kernel) (by decide +kernel)
theorem lr_w_99 : (Jvm.Cond.fieldLink "LeasedReferences$Slot" (15 : Nat) "LeasedReferences$Slot" "fields" "[I") ∈ lr_tb := lr_mem 143 (by decide +kernel) (by decide +kernel)
theorem lr_w_102 : (Jvm.Cond.fieldLink "LeasedReferences$Slot" (19 : Nat) "LeasedReferences$Slot" "last" "[I") ∈ lr_tb := lr_mem 146 (by decide +kernel) (by decide +kernel)
theorem lr_w_104 : (Jvm.Cond.fieldLink "LeasedReferences$Slot" (22 : Nat) "LeasedReferences$Slot" "listedUntil" "[I") ∈ lr_tb := lr_mem 148 (by decide +kernel) (by decide +kernel)
theorem lr_w_146 : (Jvm.Cond.arrayClass Jvm.ClassFile.FieldType.int) ∈ lr_tb := lr_mem 190 (by decide +kernel) (by decide +kernel)
theorem lr_w_147 : (Jvm.Cond.classLink "LeasedReferences$Node" (30 : Nat) "LeasedReferences$Pin") ∈ lr_tb := lr_mem 191 (by decide +kernel) (by decide +kernel)
theorem lr_w_149 : (Jvm.Cond.instantiable "LeasedReferences$Pin" (3 : Nat)) ∈ lr_tb := lr_mem 193 (by decide +kernel) (by decide +kernel)
theorem lr_w_151 : (Jvm.Cond.instanceMethod ({ cls := "LeasedReferences$Pin", name := "<init>", desc := "()V" } : Jvm.MethodName)) ∈ lr_tb := lr_mem 195 (by decide +kernel) (by decide +kernel)
theorem lr_w_152 : (Jvm.Cond.code ({ cls := "LeasedReferences$Pin", name := "<init>", desc := "()V" } : Jvm.MethodName) prog_5_method_1_code (1 : Nat) (Option.none : Option Jvm.ClassFile.FieldType)) ∈ lr_tb := lr_mem 196 (by decide +kernel) (by decide +kernel)
theorem lr_w_153 : (Jvm.Cond.methodLink "LeasedReferences$Pin" (1 : Nat) ({ cls := "java/lang/Object", name := "<init>", desc := "()V" } : Jvm.MethodName)) ∈ lr_tb := lr_mem 197 (by decide +kernel) (by decide +kernel)
theorem lr_w_164 : (Jvm.Cond.classLink "LeasedReferences$Node" (37 : Nat) "LeasedReferences$Request") ∈ lr_tb := lr_mem 208 (by decide +kernel) (by decide +kernel)
theorem lr_w_165 : (Jvm.Cond.instantiable "LeasedReferences$Request" (6 : Nat)) ∈ lr_tb := lr_mem 209 (by decide +kernel) (by decide +kernel)
theorem lr_w_167 : (Jvm.Cond.instanceMethod ({ cls := "LeasedReferences$Request", name := "<init>", desc := "()V" } : Jvm.MethodName)) ∈ lr_tb := lr_mem 211 (by decide +kernel) (by decide +kernel)
theorem lr_w_168 : (Jvm.Cond.code ({ cls := "LeasedReferences$Request", name := "<init>", desc := "()V" } : Jvm.MethodName) prog_6_method_1_code (1 : Nat) (Option.none : Option Jvm.ClassFile.FieldType)) ∈ lr_tb := lr_mem 212 (by decide +kernel) (by decide +kernel)
theorem lr_w_169 : (Jvm.Cond.methodLink "LeasedReferences$Request" (3 : Nat) ({ cls := "java/lang/Object", name := "<init>", desc := "()V" } : Jvm.MethodName)) ∈ lr_tb := lr_mem 213 (by decide +kernel) (by decide +kernel)
theorem lr_w_170 : (Jvm.Cond.fieldLink "LeasedReferences$Node" (44 : Nat) "LeasedReferences$Request" "state" "I") ∈ lr_tb := lr_mem 214 (by decide +kernel) (by decide +kernel)
theorem lr_w_194 : (Jvm.Cond.classLink "LeasedReferences$Node" (47 : Nat) "LeasedReferences$Message") ∈ lr_tb := lr_mem 238 (by decide +kernel) (by decide +kernel)
theorem lr_w_196 : (Jvm.Cond.fieldLink "LeasedReferences$Node" (9 : Nat) "LeasedReferences$Node" "id" "I") ∈ lr_tb := lr_mem 240 (by decide +kernel) (by decide +kernel)
theorem lr_w_197 : (Jvm.Cond.fieldLink "LeasedReferences$Node" (15 : Nat) "LeasedReferences$Node" "network" "LLeasedReferences$Network;") ∈ lr_tb := lr_mem 241 (by decide +kernel) (by decide +kernel)
theorem lr_w_198 : (Jvm.Cond.fieldLink "LeasedReferences$Node" (21 : Nat) "LeasedReferences$Node" "slots" "[LLeasedReferences$Slot;") ∈ lr_tb := lr_mem 242 (by decide +kernel) (by decide +kernel)
theorem lr_w_200 : (Jvm.Cond.fieldLink "LeasedReferences$Node" (26 : Nat) "LeasedReferences$Node" "roots" "[I") ∈ lr_tb := lr_mem 244 (by decide +kernel) (by decide +kernel)
theorem lr_w_202 : (Jvm.Cond.fieldLink "LeasedReferences$Node" (32 : Nat) "LeasedReferences$Node" "pins" "[LLeasedReferences$Pin;") ∈ lr_tb := lr_mem 246 (by decide +kernel) (by decide +kernel)
theorem lr_w_203 : (Jvm.Cond.fieldLink "LeasedReferences$Node" (40 : Nat) "LeasedReferences$Node" "request" "LLeasedReferences$Request;") ∈ lr_tb := lr_mem 247 (by decide +kernel) (by decide +kernel)
theorem lr_w_205 : (Jvm.Cond.fieldLink "LeasedReferences$Node" (49 : Nat) "LeasedReferences$Node" "replies" "[LLeasedReferences$Message;") ∈ lr_tb := lr_mem 249 (by decide +kernel) (by decide +kernel)
theorem lr_w_206 : (Jvm.Cond.fieldLink "LeasedReferences$Node" (54 : Nat) "LeasedReferences$Node" "kept" "[Z") ∈ lr_tb := lr_mem 250 (by decide +kernel) (by decide +kernel)
theorem lr_w_207 : (Jvm.Cond.fieldLink "LeasedReferences$Node" (58 : Nat) "LeasedReferences$Node" "latestNumber" "I") ∈ lr_tb := lr_mem 251 (by decide +kernel) (by decide +kernel)
theorem lr_w_208 : (Jvm.Cond.fieldLink "LeasedReferences$Node" (61 : Nat) "LeasedReferences$Node" "crashed" "Z") ∈ lr_tb := lr_mem 252 (by decide +kernel) (by decide +kernel)
theorem lr_w_231 : (Jvm.Cond.arrayClass Jvm.ClassFile.FieldType.boolean) ∈ lr_tb := lr_mem 275 (by decide +kernel) (by decide +kernel)
theorem lr_w_232 : (Jvm.Cond.classLink "LeasedReferences" (25 : Nat) "LeasedReferences$Message") ∈ lr_tb := lr_mem 276 (by decide +kernel) (by decide +kernel)
theorem lr_w_234 : (Jvm.Cond.fieldLink "LeasedReferences" (10 : Nat) "LeasedReferences" "network" "LLeasedReferences$Network;") ∈ lr_tb := lr_mem 278 (by decide +kernel) (by decide +kernel)
theorem lr_w_235 : (Jvm.Cond.fieldLink "LeasedReferences" (18 : Nat) "LeasedReferences" "nodes" "[LLeasedReferences$Node;") ∈ lr_tb := lr_mem 279 (by decide +kernel) (by decide +kernel)
theorem lr_w_236 : (Jvm.Cond.fieldLink "LeasedReferences" (28 : Nat) "LeasedReferences" "taken" "LLeasedReferences$Message;") ∈ lr_tb := lr_mem 280 (by decide +kernel) (by decide +kernel)
theorem lr_w_237 : (Jvm.Cond.fieldLink "LeasedReferences" (32 : Nat) "LeasedReferences" "nextSerial" "I") ∈ lr_tb := lr_mem 281 (by decide +kernel) (by decide +kernel)
theorem lr_w_238 : (Jvm.Cond.fieldLink "LeasedReferences" (36 : Nat) "LeasedReferences" "nextPass" "I") ∈ lr_tb := lr_mem 282 (by decide +kernel) (by decide +kernel)
theorem lr_w_537 : (Jvm.Cond.methodLink "LeasedReferencesModel" (1 : Nat) ({ cls := "java/lang/Object", name := "<init>", desc := "()V" } : Jvm.MethodName)) ∈ lr_tb := lr_mem 581 (by decide +kernel) (by decide +kernel)
theorem lr_w_539 : (Jvm.Cond.fieldLink "LeasedReferencesModel" (7 : Nat) "LeasedReferencesModel" "dead" "[Z") ∈ lr_tb := lr_mem 583 (by decide +kernel) (by decide +kernel)
theorem lr_w_540 : (Jvm.Cond.fieldLink "LeasedReferencesModel" (13 : Nat) "LeasedReferencesModel" "roots" "[I") ∈ lr_tb := lr_mem 584 (by decide +kernel) (by decide +kernel)
theorem lr_w_541 : (Jvm.Cond.fieldLink "LeasedReferencesModel" (17 : Nat) "LeasedReferencesModel" "numbers" "[I") ∈ lr_tb := lr_mem 585 (by decide +kernel) (by decide +kernel)
theorem lr_w_542 : (Jvm.Cond.fieldLink "LeasedReferencesModel" (20 : Nat) "LeasedReferencesModel" "holds" "[I") ∈ lr_tb := lr_mem 586 (by decide +kernel) (by decide +kernel)
theorem lr_w_543 : (Jvm.Cond.fieldLink "LeasedReferencesModel" (23 : Nat) "LeasedReferencesModel" "serials" "[I") ∈ lr_tb := lr_mem 587 (by decide +kernel) (by decide +kernel)
theorem lr_w_544 : (Jvm.Cond.fieldLink "LeasedReferencesModel" (26 : Nat) "LeasedReferencesModel" "values" "[I") ∈ lr_tb := lr_mem 588 (by decide +kernel) (by decide +kernel)
theorem lr_w_545 : (Jvm.Cond.fieldLink "LeasedReferencesModel" (29 : Nat) "LeasedReferencesModel" "fields" "[I") ∈ lr_tb := lr_mem 589 (by decide +kernel) (by decide +kernel)
theorem lr_w_546 : (Jvm.Cond.fieldLink "LeasedReferencesModel" (32 : Nat) "LeasedReferencesModel" "lasts" "[I") ∈ lr_tb := lr_mem 590 (by decide +kernel) (by decide +kernel)
theorem lr_w_547 : (Jvm.Cond.fieldLink "LeasedReferencesModel" (35 : Nat) "LeasedReferencesModel" "until" "[I") ∈ lr_tb := lr_mem 591 (by decide +kernel) (by decide +kernel)
theorem lr_w_548 : (Jvm.Cond.fieldLink "LeasedReferencesModel" (38 : Nat) "LeasedReferencesModel" "owners" "[I") ∈ lr_tb := lr_mem 592 (by decide +kernel) (by decide +kernel)
theorem lr_w_549 : (Jvm.Cond.fieldLink "LeasedReferencesModel" (41 : Nat) "LeasedReferencesModel" "firsts" "[I") ∈ lr_tb := lr_mem 593 (by decide +kernel) (by decide +kernel)
theorem lr_w_550 : (Jvm.Cond.fieldLink "LeasedReferencesModel" (44 : Nat) "LeasedReferencesModel" "sents" "[I") ∈ lr_tb := lr_mem 594 (by decide +kernel) (by decide +kernel)
theorem lr_w_551 : (Jvm.Cond.fieldLink "LeasedReferencesModel" (47 : Nat) "LeasedReferencesModel" "expiry" "[I") ∈ lr_tb := lr_mem 595 (by decide +kernel) (by decide +kernel)
theorem lr_w_552 : (Jvm.Cond.fieldLink "LeasedReferencesModel" (50 : Nat) "LeasedReferencesModel" "good" "[Z") ∈ lr_tb := lr_mem 596 (by decide +kernel) (by decide +kernel)
theorem lr_w_553 : (Jvm.Cond.fieldLink "LeasedReferencesModel" (53 : Nat) "LeasedReferencesModel" "debt" "[I") ∈ lr_tb := lr_mem 597 (by decide +kernel) (by decide +kernel)
theorem lr_w_554 : (Jvm.Cond.fieldLink "LeasedReferencesModel" (56 : Nat) "LeasedReferencesModel" "creditor" "[I") ∈ lr_tb := lr_mem 598 (by decide +kernel) (by decide +kernel)
theorem lr_w_556 : (Jvm.Cond.fieldLink "LeasedReferencesModel" (59 : Nat) "LeasedReferencesModel" "air" "[I") ∈ lr_tb := lr_mem 600 (by decide +kernel) (by decide +kernel)
theorem lr_w_558 : (Jvm.Cond.fieldLink "LeasedReferencesModel" (62 : Nat) "LeasedReferencesModel" "got" "[I") ∈ lr_tb := lr_mem 602 (by decide +kernel) (by decide +kernel)
theorem lr_w_559 : (Jvm.Cond.fieldLink "LeasedReferencesModel" (65 : Nat) "LeasedReferencesModel" "pinAt" "[I") ∈ lr_tb := lr_mem 603 (by decide +kernel) (by decide +kernel)
theorem lr_w_560 : (Jvm.Cond.fieldLink "LeasedReferencesModel" (68 : Nat) "LeasedReferencesModel" "pinTime" "[I") ∈ lr_tb := lr_mem 604 (by decide +kernel) (by decide +kernel)
theorem lr_w_561 : (Jvm.Cond.fieldLink "LeasedReferencesModel" (71 : Nat) "LeasedReferencesModel" "pinOver" "[Z") ∈ lr_tb := lr_mem 605 (by decide +kernel) (by decide +kernel)
theorem lr_w_563 : (Jvm.Cond.fieldLink "LeasedReferencesModel" (74 : Nat) "LeasedReferencesModel" "callState" "[I") ∈ lr_tb := lr_mem 607 (by decide +kernel) (by decide +kernel)
theorem lr_w_564 : (Jvm.Cond.fieldLink "LeasedReferencesModel" (77 : Nat) "LeasedReferencesModel" "callNumber" "[I") ∈ lr_tb := lr_mem 608 (by decide +kernel) (by decide +kernel)
theorem lr_w_565 : (Jvm.Cond.fieldLink "LeasedReferencesModel" (80 : Nat) "LeasedReferencesModel" "callSlot" "[I") ∈ lr_tb := lr_mem 609 (by decide +kernel) (by decide +kernel)
theorem lr_w_566 : (Jvm.Cond.fieldLink "LeasedReferencesModel" (83 : Nat) "LeasedReferencesModel" "callAmount" "[I") ∈ lr_tb := lr_mem 610 (by decide +kernel) (by decide +kernel)
theorem lr_w_567 : (Jvm.Cond.fieldLink "LeasedReferencesModel" (86 : Nat) "LeasedReferencesModel" "callSent" "[I") ∈ lr_tb := lr_mem 611 (by decide +kernel) (by decide +kernel)
theorem lr_w_568 : (Jvm.Cond.fieldLink "LeasedReferencesModel" (89 : Nat) "LeasedReferencesModel" "callResult" "[I") ∈ lr_tb := lr_mem 612 (by decide +kernel) (by decide +kernel)
theorem lr_w_569 : (Jvm.Cond.fieldLink "LeasedReferencesModel" (92 : Nat) "LeasedReferencesModel" "doneNumber" "[I") ∈ lr_tb := lr_mem 613 (by decide +kernel) (by decide +kernel)
theorem lr_w_570 : (Jvm.Cond.fieldLink "LeasedReferencesModel" (95 : Nat) "LeasedReferencesModel" "doneKind" "[I") ∈ lr_tb := lr_mem 614 (by decide +kernel) (by decide +kernel)
theorem lr_w_571 : (Jvm.Cond.fieldLink "LeasedReferencesModel" (98 : Nat) "LeasedReferencesModel" "doneSerial" "[I") ∈ lr_tb := lr_mem 615 (by decide +kernel) (by decide +kernel)
theorem lr_w_572 : (Jvm.Cond.fieldLink "LeasedReferencesModel" (101 : Nat) "LeasedReferencesModel" "doneExtra" "[I") ∈ lr_tb := lr_mem 616 (by decide +kernel) (by decide +kernel)
theorem lr_w_573 : (Jvm.Cond.fieldLink "LeasedReferencesModel" (104 : Nat) "LeasedReferencesModel" "kept" "[Z") ∈ lr_tb := lr_mem 617 (by decide +kernel) (by decide +kernel)
