theorem lr_d_Message_write_0 : decode prog_2_method_2_code 0 = .ok (.aload_n 0, 1) := by decide +kernel
theorem lr_d_Message_write_1 : decode prog_2_method_2_code 1 = .ok (.iload_n 1, 1) := by decide +kernel
theorem lr_d_Message_write_2 : decode prog_2_method_2_code 2 = .ok (.putfield 9, 3) := by decide +kernel
theorem lr_d_Message_write_5 : decode prog_2_method_2_code 5 = .ok (.aload_n 0, 1) := by decide +kernel
theorem lr_d_Message_write_6 : decode prog_2_method_2_code 6 = .ok (.iload_n 2, 1) := by decide +kernel
theorem lr_d_Message_write_7 : decode prog_2_method_2_code 7 = .ok (.putfield 15, 3) := by decide +kernel
theorem lr_d_Message_write_10 : decode prog_2_method_2_code 10 = .ok (.aload_n 0, 1) := by decide +kernel
theorem lr_d_Message_write_11 : decode prog_2_method_2_code 11 = .ok (.iload_n 3, 1) := by decide +kernel
theorem lr_d_Message_write_12 : decode prog_2_method_2_code 12 = .ok (.putfield 18, 3) := by decide +kernel
theorem lr_d_Message_write_15 : decode prog_2_method_2_code 15 = .ok (.aload_n 0, 1) := by decide +kernel
theorem lr_d_Message_write_16 : decode prog_2_method_2_code 16 = .ok (.iload 4, 2) := by decide +kernel
theorem lr_d_Message_write_18 : decode prog_2_method_2_code 18 = .ok (.putfield 21, 3) := by decide +kernel
theorem lr_d_Message_write_21 : decode prog_2_method_2_code 21 = .ok (.aload_n 0, 1) := by decide +kernel
theorem lr_d_Message_write_22 : decode prog_2_method_2_code 22 = .ok (.iload 5, 2) := by decide +kernel
theorem lr_d_Message_write_24 : decode prog_2_method_2_code 24 = .ok (.putfield 24, 3) := by decide +kernel
theorem lr_d_Message_write_27 : decode prog_2_method_2_code 27 = .ok (.aload_n 0, 1) := by decide +kernel
theorem lr_d_Message_write_28 : decode prog_2_method_2_code 28 = .ok (.iload 6, 2) := by decide +kernel
theorem lr_d_Message_write_30 : decode prog_2_method_2_code 30 = .ok (.putfield 27, 3) := by decide +kernel
theorem lr_d_Message_write_33 : decode prog_2_method_2_code 33 = .ok (.return_, 1) := by decide +kernel
theorem lr_d_Message_become_0 : decode prog_2_method_3_code 0 = .ok (.aload_n 0, 1) := by decide +kernel
theorem lr_d_Message_become_1 : decode prog_2_method_3_code 1 = .ok (.aload_n 1, 1) := by decide +kernel
theorem lr_d_Message_become_2 : decode prog_2_method_3_code 2 = .ok (.getfield 9, 3) := by decide +kernel
theorem lr_d_Message_become_5 : decode prog_2_method_3_code 5 = .ok (.aload_n 1, 1) := by decide +kernel
theorem lr_d_Message_become_6 : decode prog_2_method_3_code 6 = .ok (.getfield 15, 3) := by decide +kernel
theorem lr_d_Message_become_9 : decode prog_2_method_3_code 9 = .ok (.aload_n 1, 1) := by decide +kernel
theorem lr_d_Message_become_10 : decode prog_2_method_3_code 10 = .ok (.getfield 18, 3) := by decide +kernel
theorem lr_d_Message_become_13 : decode prog_2_method_3_code 13 = .ok (.aload_n 1, 1) := by decide +kernel
theorem lr_d_Message_become_14 : decode prog_2_method_3_code 14 = .ok (.getfield 21, 3) := by decide +kernel
theorem lr_d_Message_become_17 : decode prog_2_method_3_code 17 = .ok (.aload_n 1, 1) := by decide +kernel
theorem lr_d_Message_become_18 : decode prog_2_method_3_code 18 = .ok (.getfield 24, 3) := by decide +kernel
theorem lr_d_Message_become_21 : decode prog_2_method_3_code 21 = .ok (.aload_n 1, 1) := by decide +kernel
theorem lr_d_Message_become_22 : decode prog_2_method_3_code 22 = .ok (.getfield 27, 3) := by decide +kernel
theorem lr_d_Message_become_25 : decode prog_2_method_3_code 25 = .ok (.invokevirtual 30, 3) := by decide +kernel
theorem lr_d_Message_become_28 : decode prog_2_method_3_code 28 = .ok (.return_, 1) := by decide +kernel
theorem lr_d_Message_part_0 : decode prog_2_method_4_code 0 = .ok (.iload_n 1, 1) := by decide +kernel
theorem lr_d_Message_part_1 : decode prog_2_method_4_code 1 = .ok (.tableswitch 69 0 5 #[39, 44, 49, 54, 59, 64], 39) := by decide +kernel
theorem lr_d_Message_part_40 : decode prog_2_method_4_code 40 = .ok (.aload_n 0, 1) := by decide +kernel
theorem lr_d_Message_part_41 : decode prog_2_method_4_code 41 = .ok (.getfield 9, 3) := by decide +kernel
theorem lr_d_Message_part_44 : decode prog_2_method_4_code 44 = .ok (.ireturn, 1) := by decide +kernel
theorem lr_d_Message_part_45 : decode prog_2_method_4_code 45 = .ok (.aload_n 0, 1) := by decide +kernel
theorem lr_d_Message_part_46 : decode prog_2_method_4_code 46 = .ok (.getfield 15, 3) := by decide +kernel
theorem lr_d_Message_part_49 : decode prog_2_method_4_code 49 = .ok (.ireturn, 1) := by decide +kernel
theorem lr_d_Message_part_50 : decode prog_2_method_4_code 50 = .ok (.aload_n 0, 1) := by decide +kernel
theorem lr_d_Message_part_51 : decode prog_2_method_4_code 51 = .ok (.getfield 18, 3) := by decide +kernel
theorem lr_d_Message_part_54 : decode prog_2_method_4_code 54 = .ok (.ireturn, 1) := by decide +kernel
theorem lr_d_Message_part_55 : decode prog_2_method_4_code 55 = .ok (.aload_n 0, 1) := by decide +kernel
theorem lr_d_Message_part_56 : decode prog_2_method_4_code 56 = .ok (.getfield 21, 3) := by decide +kernel
theorem lr_d_Message_part_59 : decode prog_2_method_4_code 59 = .ok (.ireturn, 1) := by decide +kernel
theorem lr_d_Message_part_60 : decode prog_2_method_4_code 60 = .ok (.aload_n 0, 1) := by decide +kernel
theorem lr_d_Message_part_61 : decode prog_2_method_4_code 61 = .ok (.getfield 24, 3) := by decide +kernel
theorem lr_d_Message_part_64 : decode prog_2_method_4_code 64 = .ok (.ireturn, 1) := by decide +kernel
theorem lr_d_Message_part_65 : decode prog_2_method_4_code 65 = .ok (.aload_n 0, 1) := by decide +kernel
theorem lr_d_Message_part_66 : decode prog_2_method_4_code 66 = .ok (.getfield 27, 3) := by decide +kernel
theorem lr_d_Message_part_69 : decode prog_2_method_4_code 69 = .ok (.ireturn, 1) := by decide +kernel
theorem lr_d_Message_part_70 : decode prog_2_method_4_code 70 = .ok (.iconst (-1), 1) := by decide +kernel
theorem lr_d_Message_part_71 : decode prog_2_method_4_code 71 = .ok (.ireturn, 1) := by decide +kernel
theorem lr_d_Network_hasPlace_0 : decode prog_3_method_2_code 0 = .ok (.iload_n 1, 1) := by decide +kernel
theorem lr_d_Network_hasPlace_1 : decode prog_3_method_2_code 1 = .ok (.ifCond .lt 15, 3) := by decide +kernel
theorem lr_d_Network_hasPlace_4 : decode prog_3_method_2_code 4 = .ok (.iload_n 1, 1) := by decide +kernel
theorem lr_d_Network_hasPlace_5 : decode prog_3_method_2_code 5 = .ok (.aload_n 0, 1) := by decide +kernel
theorem lr_d_Network_hasPlace_6 : decode prog_3_method_2_code 6 = .ok (.getfield 15, 3) := by decide +kernel
theorem lr_d_Network_hasPlace_9 : decode prog_3_method_2_code 9 = .ok (.if_icmp .ge 7, 3) := by decide +kernel
theorem lr_d_Network_hasPlace_12 : decode prog_3_method_2_code 12 = .ok (.iconst 1, 1) := by decide +kernel
theorem lr_d_Network_hasPlace_13 : decode prog_3_method_2_code 13 = .ok (.goto 4, 3) := by decide +kernel
theorem lr_d_Network_hasPlace_16 : decode prog_3_method_2_code 16 = .ok (.iconst 0, 1) := by decide +kernel
theorem lr_d_Network_hasPlace_17 : decode prog_3_method_2_code 17 = .ok (.ireturn, 1) := by decide +kernel
theorem lr_d_Network_send_0 : decode prog_3_method_3_code 0 = .ok (.aload_n 0, 1) := by decide +kernel
theorem lr_d_Network_send_1 : decode prog_3_method_3_code 1 = .ok (.getfield 15, 3) := by decide +kernel
theorem lr_d_Network_send_4 : decode prog_3_method_3_code 4 = .ok (.bipush 32, 2) := by decide +kernel
theorem lr_d_Network_send_6 : decode prog_3_method_3_code 6 = .ok (.if_icmp .ge 34, 3) := by decide +kernel
theorem lr_d_Network_send_9 : decode prog_3_method_3_code 9 = .ok (.aload_n 0, 1) := by decide +kernel
theorem lr_d_Network_send_10 : decode prog_3_method_3_code 10 = .ok (.getfield 20, 3) := by decide +kernel
theorem lr_d_Network_send_13 : decode prog_3_method_3_code 13 = .ok (.aload_n 0, 1) := by decide +kernel
theorem lr_d_Network_send_14 : decode prog_3_method_3_code 14 = .ok (.getfield 15, 3) := by decide +kernel
theorem lr_d_Network_send_17 : decode prog_3_method_3_code 17 = .ok (.aaload, 1) := by decide +kernel
theorem lr_d_Network_send_18 : decode prog_3_method_3_code 18 = .ok (.iload_n 1, 1) := by decide +kernel
theorem lr_d_Network_send_19 : decode prog_3_method_3_code 19 = .ok (.iload_n 2, 1) := by decide +kernel
theorem lr_d_Network_send_20 : decode prog_3_method_3_code 20 = .ok (.iload_n 3, 1) := by decide +kernel
theorem lr_d_Network_send_21 : decode prog_3_method_3_code 21 = .ok (.iload 4, 2) := by decide +kernel
theorem lr_d_Network_send_23 : decode prog_3_method_3_code 23 = .ok (.iload 5, 2) := by decide +kernel
theorem lr_d_Network_send_25 : decode prog_3_method_3_code 25 = .ok (.iload 6, 2) := by decide +kernel
theorem lr_d_Network_send_27 : decode prog_3_method_3_code 27 = .ok (.invokevirtual 25, 3) := by decide +kernel
theorem lr_d_Network_send_30 : decode prog_3_method_3_code 30 = .ok (.aload_n 0, 1) := by decide +kernel
theorem lr_d_Network_send_31 : decode prog_3_method_3_code 31 = .ok (.dup, 1) := by decide +kernel
theorem lr_d_Network_send_32 : decode prog_3_method_3_code 32 = .ok (.getfield 15, 3) := by decide +kernel
theorem lr_d_Network_send_35 : decode prog_3_method_3_code 35 = .ok (.iconst 1, 1) := by decide +kernel
theorem lr_d_Network_send_36 : decode prog_3_method_3_code 36 = .ok (.iadd, 1) := by decide +kernel
theorem lr_d_Network_send_37 : decode prog_3_method_3_code 37 = .ok (.putfield 15, 3) := by decide +kernel
theorem lr_d_Network_send_40 : decode prog_3_method_3_code 40 = .ok (.return_, 1) := by decide +kernel
theorem lr_d_Network_sendAgain_0 : decode prog_3_method_4_code 0 = .ok (.aload_n 0, 1) := by decide +kernel
theorem lr_d_Network_sendAgain_1 : decode prog_3_method_4_code 1 = .ok (.aload_n 1, 1) := by decide +kernel
theorem lr_d_Network_sendAgain_2 : decode prog_3_method_4_code 2 = .ok (.getfield 29, 3) := by decide +kernel
theorem lr_d_Network_sendAgain_5 : decode prog_3_method_4_code 5 = .ok (.aload_n 1, 1) := by decide +kernel
theorem lr_d_Network_sendAgain_6 : decode prog_3_method_4_code 6 = .ok (.getfield 32, 3) := by decide +kernel
theorem lr_d_Network_sendAgain_9 : decode prog_3_method_4_code 9 = .ok (.aload_n 1, 1) := by decide +kernel
theorem lr_d_Network_sendAgain_10 : decode prog_3_method_4_code 10 = .ok (.getfield 35, 3) := by decide +kernel
theorem lr_d_Network_sendAgain_13 : decode prog_3_method_4_code 13 = .ok (.aload_n 1, 1) := by decide +kernel
theorem lr_d_Network_sendAgain_14 : decode prog_3_method_4_code 14 = .ok (.getfield 38, 3) := by decide +kernel
theorem lr_d_Network_sendAgain_17 : decode prog_3_method_4_code 17 = .ok (.aload_n 1, 1) := by decide +kernel
theorem lr_d_Network_sendAgain_18 : decode prog_3_method_4_code 18 = .ok (.getfield 41, 3) := by decide +kernel
theorem lr_d_Network_sendAgain_21 : decode prog_3_method_4_code 21 = .ok (.aload_n 1, 1) := by decide +kernel
theorem lr_d_Network_sendAgain_22 : decode prog_3_method_4_code 22 = .ok (.getfield 44, 3) := by decide +kernel
theorem lr_d_Network_sendAgain_25 : decode prog_3_method_4_code 25 = .ok (.invokevirtual 47, 3) := by decide +kernel
theorem lr_d_Network_sendAgain_28 : decode prog_3_method_4_code 28 = .ok (.return_, 1) := by decide +kernel
theorem lr_d_Network_takeOut_0 : decode prog_3_method_5_code 0 = .ok (.aload_n 0, 1) := by decide +kernel
theorem lr_d_Network_takeOut_1 : decode prog_3_method_5_code 1 = .ok (.getfield 20, 3) := by decide +kernel
theorem lr_d_Network_takeOut_4 : decode prog_3_method_5_code 4 = .ok (.iload_n 1, 1) := by decide +kernel
theorem lr_d_Network_takeOut_5 : decode prog_3_method_5_code 5 = .ok (.aaload, 1) := by decide +kernel
theorem lr_d_Network_takeOut_6 : decode prog_3_method_5_code 6 = .ok (.astore_n 2, 1) := by decide +kernel
theorem lr_d_Network_takeOut_7 : decode prog_3_method_5_code 7 = .ok (.iload_n 1, 1) := by decide +kernel
theorem lr_d_Network_takeOut_8 : decode prog_3_method_5_code 8 = .ok (.iconst 1, 1) := by decide +kernel
theorem lr_d_Network_takeOut_9 : decode prog_3_method_5_code 9 = .ok (.iadd, 1) := by decide +kernel
theorem lr_d_Network_takeOut_10 : decode prog_3_method_5_code 10 = .ok (.istore_n 3, 1) := by decide +kernel
theorem lr_d_Network_takeOut_11 : decode prog_3_method_5_code 11 = .ok (.iload_n 3, 1) := by decide +kernel
theorem lr_d_Network_takeOut_12 : decode prog_3_method_5_code 12 = .ok (.aload_n 0, 1) := by decide +kernel
theorem lr_d_Network_takeOut_13 : decode prog_3_method_5_code 13 = .ok (.getfield 15, 3) := by decide +kernel
theorem lr_d_Network_takeOut_16 : decode prog_3_method_5_code 16 = .ok (.if_icmp .ge 23, 3) := by decide +kernel
theorem lr_d_Network_takeOut_19 : decode prog_3_method_5_code 19 = .ok (.aload_n 0, 1) := by decide +kernel
theorem lr_d_Network_takeOut_20 : decode prog_3_method_5_code 20 = .ok (.getfield 20, 3) := by decide +kernel
theorem lr_d_Network_takeOut_23 : decode prog_3_method_5_code 23 = .ok (.iload_n 3, 1) := by decide +kernel
theorem lr_d_Network_takeOut_24 : decode prog_3_method_5_code 24 = .ok (.iconst 1, 1) := by decide +kernel
theorem lr_d_Network_takeOut_25 : decode prog_3_method_5_code 25 = .ok (.isub, 1) := by decide +kernel
theorem lr_d_Network_takeOut_26 : decode prog_3_method_5_code 26 = .ok (.aload_n 0, 1) := by decide +kernel
theorem lr_d_Network_takeOut_27 : decode prog_3_method_5_code 27 = .ok (.getfield 20, 3) := by decide +kernel
theorem lr_d_Network_takeOut_30 : decode prog_3_method_5_code 30 = .ok (.iload_n 3, 1) := by decide +kernel
theorem lr_d_Network_takeOut_31 : decode prog_3_method_5_code 31 = .ok (.aaload, 1) := by decide +kernel
theorem lr_d_Network_takeOut_32 : decode prog_3_method_5_code 32 = .ok (.aastore, 1) := by decide +kernel
theorem lr_d_Network_takeOut_33 : decode prog_3_method_5_code 33 = .ok (.iinc 3 1, 3) := by decide +kernel
theorem lr_d_Network_takeOut_36 : decode prog_3_method_5_code 36 = .ok (.goto (-25), 3) := by decide +kernel
theorem lr_d_Network_takeOut_39 : decode prog_3_method_5_code 39 = .ok (.aload_n 0, 1) := by decide +kernel
theorem lr_d_Network_takeOut_40 : decode prog_3_method_5_code 40 = .ok (.dup, 1) := by decide +kernel
theorem lr_d_Network_takeOut_41 : decode prog_3_method_5_code 41 = .ok (.getfield 15, 3) := by decide +kernel
theorem lr_d_Network_takeOut_44 : decode prog_3_method_5_code 44 = .ok (.iconst 1, 1) := by decide +kernel
theorem lr_d_Network_takeOut_45 : decode prog_3_method_5_code 45 = .ok (.isub, 1) := by decide +kernel
theorem lr_d_Network_takeOut_46 : decode prog_3_method_5_code 46 = .ok (.putfield 15, 3) := by decide +kernel
theorem lr_d_Network_takeOut_49 : decode prog_3_method_5_code 49 = .ok (.aload_n 0, 1) := by decide +kernel
theorem lr_d_Network_takeOut_50 : decode prog_3_method_5_code 50 = .ok (.getfield 20, 3) := by decide +kernel
theorem lr_d_Network_takeOut_53 : decode prog_3_method_5_code 53 = .ok (.aload_n 0, 1) := by decide +kernel
theorem lr_d_Network_takeOut_54 : decode prog_3_method_5_code 54 = .ok (.getfield 15, 3) := by decide +kernel
theorem lr_d_Network_takeOut_57 : decode prog_3_method_5_code 57 = .ok (.aload_n 2, 1) := by decide +kernel
theorem lr_d_Network_takeOut_58 : decode prog_3_method_5_code 58 = .ok (.aastore, 1) := by decide +kernel
theorem lr_d_Network_takeOut_59 : decode prog_3_method_5_code 59 = .ok (.return_, 1) := by decide +kernel
theorem lr_d_Node_leastEmptySlot_0 : decode prog_4_method_2_code 0 = .ok (.iconst 0, 1) := by decide +kernel
theorem lr_d_Node_leastEmptySlot_1 : decode prog_4_method_2_code 1 = .ok (.istore_n 1, 1) := by decide +kernel
theorem lr_d_Node_leastEmptySlot_2 : decode prog_4_method_2_code 2 = .ok (.iload_n 1, 1) := by decide +kernel
theorem lr_d_Node_leastEmptySlot_3 : decode prog_4_method_2_code 3 = .ok (.bipush 8, 2) := by decide +kernel
theorem lr_d_Node_leastEmptySlot_5 : decode prog_4_method_2_code 5 = .ok (.if_icmp .ge 23, 3) := by decide +kernel
theorem lr_d_Node_leastEmptySlot_8 : decode prog_4_method_2_code 8 = .ok (.aload_n 0, 1) := by decide +kernel
theorem lr_d_Node_leastEmptySlot_9 : decode prog_4_method_2_code 9 = .ok (.getfield 21, 3) := by decide +kernel
theorem lr_d_Node_leastEmptySlot_12 : decode prog_4_method_2_code 12 = .ok (.iload_n 1, 1) := by decide +kernel
theorem lr_d_Node_leastEmptySlot_13 : decode prog_4_method_2_code 13 = .ok (.aaload, 1) := by decide +kernel
theorem lr_d_Node_leastEmptySlot_14 : decode prog_4_method_2_code 14 = .ok (.getfield 65, 3) := by decide +kernel
theorem lr_d_Node_leastEmptySlot_17 : decode prog_4_method_2_code 17 = .ok (.ifCond .ne 5, 3) := by decide +kernel
theorem lr_d_Node_leastEmptySlot_20 : decode prog_4_method_2_code 20 = .ok (.iload_n 1, 1) := by decide +kernel
theorem lr_d_Node_leastEmptySlot_21 : decode prog_4_method_2_code 21 = .ok (.ireturn, 1) := by decide +kernel
theorem lr_d_Node_leastEmptySlot_22 : decode prog_4_method_2_code 22 = .ok (.iinc 1 1, 3) := by decide +kernel
theorem lr_d_Node_leastEmptySlot_25 : decode prog_4_method_2_code 25 = .ok (.goto (-23), 3) := by decide +kernel
theorem lr_d_Node_leastEmptySlot_28 : decode prog_4_method_2_code 28 = .ok (.iconst (-1), 1) := by decide +kernel
theorem lr_d_Node_leastEmptySlot_29 : decode prog_4_method_2_code 29 = .ok (.ireturn, 1) := by decide +kernel
theorem lr_d_Node_slotWith_0 : decode prog_4_method_3_code 0 = .ok (.iconst 0, 1) := by decide +kernel
theorem lr_d_Node_slotWith_1 : decode prog_4_method_3_code 1 = .ok (.istore_n 2, 1) := by decide +kernel
theorem lr_d_Node_slotWith_2 : decode prog_4_method_3_code 2 = .ok (.iload_n 2, 1) := by decide +kernel
theorem lr_d_Node_slotWith_3 : decode prog_4_method_3_code 3 = .ok (.bipush 8, 2) := by decide +kernel
theorem lr_d_Node_slotWith_5 : decode prog_4_method_3_code 5 = .ok (.if_icmp .ge 36, 3) := by decide +kernel
theorem lr_d_Node_slotWith_8 : decode prog_4_method_3_code 8 = .ok (.aload_n 0, 1) := by decide +kernel
theorem lr_d_Node_slotWith_9 : decode prog_4_method_3_code 9 = .ok (.getfield 21, 3) := by decide +kernel
theorem lr_d_Node_slotWith_12 : decode prog_4_method_3_code 12 = .ok (.iload_n 2, 1) := by decide +kernel
theorem lr_d_Node_slotWith_13 : decode prog_4_method_3_code 13 = .ok (.aaload, 1) := by decide +kernel
theorem lr_d_Node_slotWith_14 : decode prog_4_method_3_code 14 = .ok (.getfield 65, 3) := by decide +kernel
theorem lr_d_Node_slotWith_17 : decode prog_4_method_3_code 17 = .ok (.ifCond .eq 18, 3) := by decide +kernel
theorem lr_d_Node_slotWith_20 : decode prog_4_method_3_code 20 = .ok (.aload_n 0, 1) := by decide +kernel
theorem lr_d_Node_slotWith_21 : decode prog_4_method_3_code 21 = .ok (.getfield 21, 3) := by decide +kernel
theorem lr_d_Node_slotWith_24 : decode prog_4_method_3_code 24 = .ok (.iload_n 2, 1) := by decide +kernel
theorem lr_d_Node_slotWith_25 : decode prog_4_method_3_code 25 = .ok (.aaload, 1) := by decide +kernel
theorem lr_d_Node_slotWith_26 : decode prog_4_method_3_code 26 = .ok (.getfield 68, 3) := by decide +kernel
theorem lr_d_Node_slotWith_29 : decode prog_4_method_3_code 29 = .ok (.iload_n 1, 1) := by decide +kernel
theorem lr_d_Node_slotWith_30 : decode prog_4_method_3_code 30 = .ok (.if_icmp .ne 5, 3) := by decide +kernel
theorem lr_d_Node_slotWith_33 : decode prog_4_method_3_code 33 = .ok (.iload_n 2, 1) := by decide +kernel
theorem lr_d_Node_slotWith_34 : decode prog_4_method_3_code 34 = .ok (.ireturn, 1) := by decide +kernel
theorem lr_d_Node_slotWith_35 : decode prog_4_method_3_code 35 = .ok (.iinc 2 1, 3) := by decide +kernel
theorem lr_d_Node_slotWith_38 : decode prog_4_method_3_code 38 = .ok (.goto (-36), 3) := by decide +kernel
theorem lr_d_Node_slotWith_41 : decode prog_4_method_3_code 41 = .ok (.iconst (-1), 1) := by decide +kernel
theorem lr_d_Node_slotWith_42 : decode prog_4_method_3_code 42 = .ok (.ireturn, 1) := by decide +kernel
theorem lr_d_Node_rootHolds_0 : decode prog_4_method_4_code 0 = .ok (.aload_n 0, 1) := by decide +kernel
theorem lr_d_Node_rootHolds_1 : decode prog_4_method_4_code 1 = .ok (.getfield 26, 3) := by decide +kernel
theorem lr_d_Node_rootHolds_4 : decode prog_4_method_4_code 4 = .ok (.iload_n 1, 1) := by decide +kernel
theorem lr_d_Node_rootHolds_5 : decode prog_4_method_4_code 5 = .ok (.iaload, 1) := by decide +kernel
theorem lr_d_Node_rootHolds_6 : decode prog_4_method_4_code 6 = .ok (.istore_n 3, 1) := by decide +kernel
theorem lr_d_Node_rootHolds_7 : decode prog_4_method_4_code 7 = .ok (.iload_n 3, 1) := by decide +kernel
theorem lr_d_Node_rootHolds_8 : decode prog_4_method_4_code 8 = .ok (.iconst (-1), 1) := by decide +kernel
theorem lr_d_Node_rootHolds_9 : decode prog_4_method_4_code 9 = .ok (.if_icmp .ne 7, 3) := by decide +kernel
theorem lr_d_Node_rootHolds_12 : decode prog_4_method_4_code 12 = .ok (.iconst 0, 1) := by decide +kernel
theorem lr_d_Node_rootHolds_13 : decode prog_4_method_4_code 13 = .ok (.goto 12, 3) := by decide +kernel
theorem lr_d_Node_rootHolds_16 : decode prog_4_method_4_code 16 = .ok (.aload_n 0, 1) := by decide +kernel
theorem lr_d_Node_rootHolds_17 : decode prog_4_method_4_code 17 = .ok (.getfield 21, 3) := by decide +kernel
theorem lr_d_Node_rootHolds_20 : decode prog_4_method_4_code 20 = .ok (.iload_n 3, 1) := by decide +kernel
theorem lr_d_Node_rootHolds_21 : decode prog_4_method_4_code 21 = .ok (.aaload, 1) := by decide +kernel
theorem lr_d_Node_rootHolds_22 : decode prog_4_method_4_code 22 = .ok (.getfield 65, 3) := by decide +kernel
theorem lr_d_Node_rootHolds_25 : decode prog_4_method_4_code 25 = .ok (.iload_n 2, 1) := by decide +kernel
theorem lr_d_Node_rootHolds_26 : decode prog_4_method_4_code 26 = .ok (.if_icmp .ne 7, 3) := by decide +kernel
theorem lr_d_Node_rootHolds_29 : decode prog_4_method_4_code 29 = .ok (.iconst 1, 1) := by decide +kernel
theorem lr_d_Node_rootHolds_30 : decode prog_4_method_4_code 30 = .ok (.goto 4, 3) := by decide +kernel
theorem lr_d_Node_rootHolds_33 : decode prog_4_method_4_code 33 = .ok (.iconst 0, 1) := by decide +kernel
theorem lr_d_Node_rootHolds_34 : decode prog_4_method_4_code 34 = .ok (.ireturn, 1) := by decide +kernel
theorem lr_d_Slot_state_0 : decode prog_7_method_4_code 0 = .ok (.iload_n 1, 1) := by decide +kernel
theorem lr_d_Slot_state_1 : decode prog_7_method_4_code 1 = .ok (.aload_n 0, 1) := by decide +kernel
theorem lr_d_Slot_state_2 : decode prog_7_method_4_code 2 = .ok (.getfield 34, 3) := by decide +kernel
theorem lr_d_Slot_state_5 : decode prog_7_method_4_code 5 = .ok (.if_icmp .lt 5, 3) := by decide +kernel
theorem lr_d_Slot_state_8 : decode prog_7_method_4_code 8 = .ok (.iconst 2, 1) := by decide +kernel
theorem lr_d_Slot_state_9 : decode prog_7_method_4_code 9 = .ok (.ireturn, 1) := by decide +kernel
theorem lr_d_Slot_state_10 : decode prog_7_method_4_code 10 = .ok (.aload_n 0, 1) := by decide +kernel
theorem lr_d_Slot_state_11 : decode prog_7_method_4_code 11 = .ok (.getfield 37, 3) := by decide +kernel
theorem lr_d_Slot_state_14 : decode prog_7_method_4_code 14 = .ok (.ifCond .eq 7, 3) := by decide +kernel
theorem lr_d_Slot_state_17 : decode prog_7_method_4_code 17 = .ok (.iconst 1, 1) := by decide +kernel
theorem lr_d_Slot_state_18 : decode prog_7_method_4_code 18 = .ok (.goto 4, 3) := by decide +kernel
theorem lr_d_Slot_state_21 : decode prog_7_method_4_code 21 = .ok (.iconst 0, 1) := by decide +kernel
theorem lr_d_Slot_state_22 : decode prog_7_method_4_code 22 = .ok (.ireturn, 1) := by decide +kernel
theorem lr_d_Node_rootIsGood_0 : decode prog_4_method_5_code 0 = .ok (.aload_n 0, 1) := by decide +kernel
theorem lr_d_Node_rootIsGood_1 : decode prog_4_method_5_code 1 = .ok (.getfield 26, 3) := by decide +kernel
theorem lr_d_Node_rootIsGood_4 : decode prog_4_method_5_code 4 = .ok (.iload_n 1, 1) := by decide +kernel
theorem lr_d_Node_rootIsGood_5 : decode prog_4_method_5_code 5 = .ok (.iaload, 1) := by decide +kernel
theorem lr_d_Node_rootIsGood_6 : decode prog_4_method_5_code 6 = .ok (.istore_n 2, 1) := by decide +kernel
theorem lr_d_Node_rootIsGood_7 : decode prog_4_method_5_code 7 = .ok (.iload_n 2, 1) := by decide +kernel
theorem lr_d_Node_rootIsGood_8 : decode prog_4_method_5_code 8 = .ok (.iconst (-1), 1) := by decide +kernel
theorem lr_d_Node_rootIsGood_9 : decode prog_4_method_5_code 9 = .ok (.if_icmp .eq 40, 3) := by decide +kernel
theorem lr_d_Node_rootIsGood_12 : decode prog_4_method_5_code 12 = .ok (.aload_n 0, 1) := by decide +kernel
theorem lr_d_Node_rootIsGood_13 : decode prog_4_method_5_code 13 = .ok (.getfield 21, 3) := by decide +kernel
theorem lr_d_Node_rootIsGood_16 : decode prog_4_method_5_code 16 = .ok (.iload_n 2, 1) := by decide +kernel
theorem lr_d_Node_rootIsGood_17 : decode prog_4_method_5_code 17 = .ok (.aaload, 1) := by decide +kernel
theorem lr_d_Node_rootIsGood_18 : decode prog_4_method_5_code 18 = .ok (.getfield 65, 3) := by decide +kernel
theorem lr_d_Node_rootIsGood_21 : decode prog_4_method_5_code 21 = .ok (.iconst 2, 1) := by decide +kernel
theorem lr_d_Node_rootIsGood_22 : decode prog_4_method_5_code 22 = .ok (.if_icmp .ne 27, 3) := by decide +kernel
theorem lr_d_Node_rootIsGood_25 : decode prog_4_method_5_code 25 = .ok (.aload_n 0, 1) := by decide +kernel
theorem lr_d_Node_rootIsGood_26 : decode prog_4_method_5_code 26 = .ok (.getfield 21, 3) := by decide +kernel
theorem lr_d_Node_rootIsGood_29 : decode prog_4_method_5_code 29 = .ok (.iload_n 2, 1) := by decide +kernel
theorem lr_d_Node_rootIsGood_30 : decode prog_4_method_5_code 30 = .ok (.aaload, 1) := by decide +kernel
theorem lr_d_Node_rootIsGood_31 : decode prog_4_method_5_code 31 = .ok (.aload_n 0, 1) := by decide +kernel
theorem lr_d_Node_rootIsGood_32 : decode prog_4_method_5_code 32 = .ok (.getfield 15, 3) := by decide +kernel
theorem lr_d_Node_rootIsGood_35 : decode prog_4_method_5_code 35 = .ok (.getfield 71, 3) := by decide +kernel
theorem lr_d_Node_rootIsGood_38 : decode prog_4_method_5_code 38 = .ok (.invokevirtual 76, 3) := by decide +kernel
theorem lr_d_Node_rootIsGood_41 : decode prog_4_method_5_code 41 = .ok (.iconst 1, 1) := by decide +kernel
theorem lr_d_Node_rootIsGood_42 : decode prog_4_method_5_code 42 = .ok (.if_icmp .ne 7, 3) := by decide +kernel
theorem lr_d_Node_rootIsGood_45 : decode prog_4_method_5_code 45 = .ok (.iconst 1, 1) := by decide +kernel
theorem lr_d_Node_rootIsGood_46 : decode prog_4_method_5_code 46 = .ok (.goto 4, 3) := by decide +kernel
theorem lr_d_Node_rootIsGood_49 : decode prog_4_method_5_code 49 = .ok (.iconst 0, 1) := by decide +kernel
theorem lr_d_Node_rootIsGood_50 : decode prog_4_method_5_code 50 = .ok (.ireturn, 1) := by decide +kernel
theorem lr_d_Node_isLive_0 : decode prog_4_method_6_code 0 = .ok (.aload_n 0, 1) := by decide +kernel
theorem lr_d_Node_isLive_1 : decode prog_4_method_6_code 1 = .ok (.getfield 15, 3) := by decide +kernel
theorem lr_d_Node_isLive_4 : decode prog_4_method_6_code 4 = .ok (.getfield 71, 3) := by decide +kernel
theorem lr_d_Node_isLive_7 : decode prog_4_method_6_code 7 = .ok (.aload_n 1, 1) := by decide +kernel
theorem lr_d_Node_isLive_8 : decode prog_4_method_6_code 8 = .ok (.getfield 79, 3) := by decide +kernel
theorem lr_d_Node_isLive_11 : decode prog_4_method_6_code 11 = .ok (.if_icmp .ge 7, 3) := by decide +kernel
theorem lr_d_Node_isLive_14 : decode prog_4_method_6_code 14 = .ok (.iconst 1, 1) := by decide +kernel
theorem lr_d_Node_isLive_15 : decode prog_4_method_6_code 15 = .ok (.goto 4, 3) := by decide +kernel
theorem lr_d_Node_isLive_18 : decode prog_4_method_6_code 18 = .ok (.iconst 0, 1) := by decide +kernel
theorem lr_d_Node_isLive_19 : decode prog_4_method_6_code 19 = .ok (.ireturn, 1) := by decide +kernel
theorem lr_d_Node_livePins_0 : decode prog_4_method_7_code 0 = .ok (.iconst 0, 1) := by decide +kernel
theorem lr_d_Node_livePins_1 : decode prog_4_method_7_code 1 = .ok (.istore_n 1, 1) := by decide +kernel
theorem lr_d_Node_livePins_2 : decode prog_4_method_7_code 2 = .ok (.iconst 0, 1) := by decide +kernel
theorem lr_d_Node_livePins_3 : decode prog_4_method_7_code 3 = .ok (.istore_n 2, 1) := by decide +kernel
theorem lr_d_Node_livePins_4 : decode prog_4_method_7_code 4 = .ok (.iload_n 2, 1) := by decide +kernel
theorem lr_d_Node_livePins_5 : decode prog_4_method_7_code 5 = .ok (.bipush 6, 2) := by decide +kernel
theorem lr_d_Node_livePins_7 : decode prog_4_method_7_code 7 = .ok (.if_icmp .ge 25, 3) := by decide +kernel
theorem lr_d_Node_livePins_10 : decode prog_4_method_7_code 10 = .ok (.aload_n 0, 1) := by decide +kernel
theorem lr_d_Node_livePins_11 : decode prog_4_method_7_code 11 = .ok (.aload_n 0, 1) := by decide +kernel
theorem lr_d_Node_livePins_12 : decode prog_4_method_7_code 12 = .ok (.getfield 32, 3) := by decide +kernel
theorem lr_d_Node_livePins_15 : decode prog_4_method_7_code 15 = .ok (.iload_n 2, 1) := by decide +kernel
theorem lr_d_Node_livePins_16 : decode prog_4_method_7_code 16 = .ok (.aaload, 1) := by decide +kernel
theorem lr_d_Node_livePins_17 : decode prog_4_method_7_code 17 = .ok (.invokevirtual 82, 3) := by decide +kernel
theorem lr_d_Node_livePins_20 : decode prog_4_method_7_code 20 = .ok (.ifCond .eq 6, 3) := by decide +kernel
theorem lr_d_Node_livePins_23 : decode prog_4_method_7_code 23 = .ok (.iinc 1 1, 3) := by decide +kernel
theorem lr_d_Node_livePins_26 : decode prog_4_method_7_code 26 = .ok (.iinc 2 1, 3) := by decide +kernel
theorem lr_d_Node_livePins_29 : decode prog_4_method_7_code 29 = .ok (.goto (-25), 3) := by decide +kernel
theorem lr_d_Node_livePins_32 : decode prog_4_method_7_code 32 = .ok (.iload_n 1, 1) := by decide +kernel
theorem lr_d_Node_livePins_33 : decode prog_4_method_7_code 33 = .ok (.ireturn, 1) := by decide +kernel
theorem lr_d_Node_pinDown_0 : decode prog_4_method_9_code 0 = .ok (.iconst 0, 1) := by decide +kernel
theorem lr_d_Node_pinDown_1 : decode prog_4_method_9_code 1 = .ok (.istore_n 3, 1) := by decide +kernel
theorem lr_d_Node_pinDown_2 : decode prog_4_method_9_code 2 = .ok (.iload_n 3, 1) := by decide +kernel
theorem lr_d_Node_pinDown_3 : decode prog_4_method_9_code 3 = .ok (.bipush 6, 2) := by decide +kernel
theorem lr_d_Node_pinDown_5 : decode prog_4_method_9_code 5 = .ok (.if_icmp .ge 54, 3) := by decide +kernel
theorem lr_d_Node_pinDown_8 : decode prog_4_method_9_code 8 = .ok (.aload_n 0, 1) := by decide +kernel
theorem lr_d_Node_pinDown_9 : decode prog_4_method_9_code 9 = .ok (.getfield 32, 3) := by decide +kernel
theorem lr_d_Node_pinDown_12 : decode prog_4_method_9_code 12 = .ok (.iload_n 3, 1) := by decide +kernel
theorem lr_d_Node_pinDown_13 : decode prog_4_method_9_code 13 = .ok (.aaload, 1) := by decide +kernel
theorem lr_d_Node_pinDown_14 : decode prog_4_method_9_code 14 = .ok (.astore 4, 2) := by decide +kernel
theorem lr_d_Node_pinDown_16 : decode prog_4_method_9_code 16 = .ok (.aload_n 0, 1) := by decide +kernel
theorem lr_d_Node_pinDown_17 : decode prog_4_method_9_code 17 = .ok (.aload 4, 2) := by decide +kernel
theorem lr_d_Node_pinDown_19 : decode prog_4_method_9_code 19 = .ok (.invokevirtual 82, 3) := by decide +kernel
theorem lr_d_Node_pinDown_22 : decode prog_4_method_9_code 22 = .ok (.ifCond .ne 31, 3) := by decide +kernel
theorem lr_d_Node_pinDown_25 : decode prog_4_method_9_code 25 = .ok (.aload 4, 2) := by decide +kernel
theorem lr_d_Node_pinDown_27 : decode prog_4_method_9_code 27 = .ok (.iload_n 2, 1) := by decide +kernel
theorem lr_d_Node_pinDown_28 : decode prog_4_method_9_code 28 = .ok (.putfield 97, 3) := by decide +kernel
theorem lr_d_Node_pinDown_31 : decode prog_4_method_9_code 31 = .ok (.aload 4, 2) := by decide +kernel
theorem lr_d_Node_pinDown_33 : decode prog_4_method_9_code 33 = .ok (.iload_n 1, 1) := by decide +kernel
theorem lr_d_Node_pinDown_34 : decode prog_4_method_9_code 34 = .ok (.putfield 98, 3) := by decide +kernel
theorem lr_d_Node_pinDown_37 : decode prog_4_method_9_code 37 = .ok (.aload 4, 2) := by decide +kernel
theorem lr_d_Node_pinDown_39 : decode prog_4_method_9_code 39 = .ok (.aload_n 0, 1) := by decide +kernel
theorem lr_d_Node_pinDown_40 : decode prog_4_method_9_code 40 = .ok (.getfield 15, 3) := by decide +kernel
theorem lr_d_Node_pinDown_43 : decode prog_4_method_9_code 43 = .ok (.getfield 71, 3) := by decide +kernel
theorem lr_d_Node_pinDown_46 : decode prog_4_method_9_code 46 = .ok (.bipush 24, 2) := by decide +kernel
theorem lr_d_Node_pinDown_48 : decode prog_4_method_9_code 48 = .ok (.iadd, 1) := by decide +kernel
theorem lr_d_Node_pinDown_49 : decode prog_4_method_9_code 49 = .ok (.putfield 79, 3) := by decide +kernel
theorem lr_d_Node_pinDown_52 : decode prog_4_method_9_code 52 = .ok (.return_, 1) := by decide +kernel
theorem lr_d_Node_pinDown_53 : decode prog_4_method_9_code 53 = .ok (.iinc 3 1, 3) := by decide +kernel
theorem lr_d_Node_pinDown_56 : decode prog_4_method_9_code 56 = .ok (.goto (-54), 3) := by decide +kernel
theorem lr_d_Node_pinDown_59 : decode prog_4_method_9_code 59 = .ok (.return_, 1) := by decide +kernel
theorem lr_d_Node_sendPass_0 : decode prog_4_method_8_code 0 = .ok (.aload_n 0, 1) := by decide +kernel
theorem lr_d_Node_sendPass_1 : decode prog_4_method_8_code 1 = .ok (.getfield 26, 3) := by decide +kernel
theorem lr_d_Node_sendPass_4 : decode prog_4_method_8_code 4 = .ok (.iload_n 1, 1) := by decide +kernel
theorem lr_d_Node_sendPass_5 : decode prog_4_method_8_code 5 = .ok (.iaload, 1) := by decide +kernel
theorem lr_d_Node_sendPass_6 : decode prog_4_method_8_code 6 = .ok (.istore 5, 2) := by decide +kernel
theorem lr_d_Node_sendPass_8 : decode prog_4_method_8_code 8 = .ok (.aload_n 0, 1) := by decide +kernel
theorem lr_d_Node_sendPass_9 : decode prog_4_method_8_code 9 = .ok (.getfield 21, 3) := by decide +kernel
theorem lr_d_Node_sendPass_12 : decode prog_4_method_8_code 12 = .ok (.iload 5, 2) := by decide +kernel
theorem lr_d_Node_sendPass_14 : decode prog_4_method_8_code 14 = .ok (.aaload, 1) := by decide +kernel
theorem lr_d_Node_sendPass_15 : decode prog_4_method_8_code 15 = .ok (.astore 6, 2) := by decide +kernel
theorem lr_d_Node_sendPass_17 : decode prog_4_method_8_code 17 = .ok (.aload_n 0, 1) := by decide +kernel
theorem lr_d_Node_sendPass_18 : decode prog_4_method_8_code 18 = .ok (.iload 5, 2) := by decide +kernel
theorem lr_d_Node_sendPass_20 : decode prog_4_method_8_code 20 = .ok (.iload 4, 2) := by decide +kernel
theorem lr_d_Node_sendPass_22 : decode prog_4_method_8_code 22 = .ok (.invokevirtual 86, 3) := by decide +kernel
theorem lr_d_Node_sendPass_25 : decode prog_4_method_8_code 25 = .ok (.aload 6, 2) := by decide +kernel
theorem lr_d_Node_sendPass_27 : decode prog_4_method_8_code 27 = .ok (.getfield 65, 3) := by decide +kernel
theorem lr_d_Node_sendPass_30 : decode prog_4_method_8_code 30 = .ok (.iconst 1, 1) := by decide +kernel
theorem lr_d_Node_sendPass_31 : decode prog_4_method_8_code 31 = .ok (.if_icmp .ne 10, 3) := by decide +kernel
theorem lr_d_Node_sendPass_34 : decode prog_4_method_8_code 34 = .ok (.aload_n 0, 1) := by decide +kernel
theorem lr_d_Node_sendPass_35 : decode prog_4_method_8_code 35 = .ok (.getfield 9, 3) := by decide +kernel
theorem lr_d_Node_sendPass_38 : decode prog_4_method_8_code 38 = .ok (.goto 8, 3) := by decide +kernel
theorem lr_d_Node_sendPass_41 : decode prog_4_method_8_code 41 = .ok (.aload 6, 2) := by decide +kernel
theorem lr_d_Node_sendPass_43 : decode prog_4_method_8_code 43 = .ok (.getfield 90, 3) := by decide +kernel
theorem lr_d_Node_sendPass_46 : decode prog_4_method_8_code 46 = .ok (.istore 7, 2) := by decide +kernel
theorem lr_d_Node_sendPass_48 : decode prog_4_method_8_code 48 = .ok (.aload_n 0, 1) := by decide +kernel
theorem lr_d_Node_sendPass_49 : decode prog_4_method_8_code 49 = .ok (.getfield 15, 3) := by decide +kernel
theorem lr_d_Node_sendPass_52 : decode prog_4_method_8_code 52 = .ok (.iconst 0, 1) := by decide +kernel
theorem lr_d_Node_sendPass_53 : decode prog_4_method_8_code 53 = .ok (.aload_n 0, 1) := by decide +kernel
theorem lr_d_Node_sendPass_54 : decode prog_4_method_8_code 54 = .ok (.getfield 9, 3) := by decide +kernel
theorem lr_d_Node_sendPass_57 : decode prog_4_method_8_code 57 = .ok (.iload_n 2, 1) := by decide +kernel
theorem lr_d_Node_sendPass_58 : decode prog_4_method_8_code 58 = .ok (.aload 6, 2) := by decide +kernel
theorem lr_d_Node_sendPass_60 : decode prog_4_method_8_code 60 = .ok (.getfield 68, 3) := by decide +kernel
theorem lr_d_Node_sendPass_63 : decode prog_4_method_8_code 63 = .ok (.iload 4, 2) := by decide +kernel
theorem lr_d_Node_sendPass_65 : decode prog_4_method_8_code 65 = .ok (.iconst 4, 1) := by decide +kernel
theorem lr_d_Node_sendPass_66 : decode prog_4_method_8_code 66 = .ok (.iload_n 3, 1) := by decide +kernel
theorem lr_d_Node_sendPass_67 : decode prog_4_method_8_code 67 = .ok (.imul, 1) := by decide +kernel
theorem lr_d_Node_sendPass_68 : decode prog_4_method_8_code 68 = .ok (.iload 7, 2) := by decide +kernel
theorem lr_d_Node_sendPass_70 : decode prog_4_method_8_code 70 = .ok (.iadd, 1) := by decide +kernel
theorem lr_d_Node_sendPass_71 : decode prog_4_method_8_code 71 = .ok (.invokevirtual 93, 3) := by decide +kernel
theorem lr_d_Node_sendPass_74 : decode prog_4_method_8_code 74 = .ok (.return_, 1) := by decide +kernel
theorem lr_d_Node_sendRequest_0 : decode prog_4_method_11_code 0 = .ok (.aload_n 0, 1) := by decide +kernel
theorem lr_d_Node_sendRequest_1 : decode prog_4_method_11_code 1 = .ok (.getfield 21, 3) := by decide +kernel
theorem lr_d_Node_sendRequest_4 : decode prog_4_method_11_code 4 = .ok (.aload_n 0, 1) := by decide +kernel
theorem lr_d_Node_sendRequest_5 : decode prog_4_method_11_code 5 = .ok (.getfield 40, 3) := by decide +kernel
theorem lr_d_Node_sendRequest_8 : decode prog_4_method_11_code 8 = .ok (.getfield 104, 3) := by decide +kernel
theorem lr_d_Node_sendRequest_11 : decode prog_4_method_11_code 11 = .ok (.aaload, 1) := by decide +kernel
theorem lr_d_Node_sendRequest_12 : decode prog_4_method_11_code 12 = .ok (.astore_n 1, 1) := by decide +kernel
theorem lr_d_Node_sendRequest_13 : decode prog_4_method_11_code 13 = .ok (.aload_n 0, 1) := by decide +kernel
theorem lr_d_Node_sendRequest_14 : decode prog_4_method_11_code 14 = .ok (.getfield 40, 3) := by decide +kernel
theorem lr_d_Node_sendRequest_17 : decode prog_4_method_11_code 17 = .ok (.aload_n 0, 1) := by decide +kernel
theorem lr_d_Node_sendRequest_18 : decode prog_4_method_11_code 18 = .ok (.getfield 15, 3) := by decide +kernel
theorem lr_d_Node_sendRequest_21 : decode prog_4_method_11_code 21 = .ok (.getfield 71, 3) := by decide +kernel
theorem lr_d_Node_sendRequest_24 : decode prog_4_method_11_code 24 = .ok (.putfield 111, 3) := by decide +kernel
theorem lr_d_Node_sendRequest_27 : decode prog_4_method_11_code 27 = .ok (.aload_n 0, 1) := by decide +kernel
theorem lr_d_Node_sendRequest_28 : decode prog_4_method_11_code 28 = .ok (.getfield 15, 3) := by decide +kernel
theorem lr_d_Node_sendRequest_31 : decode prog_4_method_11_code 31 = .ok (.bipush 6, 2) := by decide +kernel
theorem lr_d_Node_sendRequest_33 : decode prog_4_method_11_code 33 = .ok (.aload_n 0, 1) := by decide +kernel
theorem lr_d_Node_sendRequest_34 : decode prog_4_method_11_code 34 = .ok (.getfield 9, 3) := by decide +kernel
theorem lr_d_Node_sendRequest_37 : decode prog_4_method_11_code 37 = .ok (.aload_n 1, 1) := by decide +kernel
theorem lr_d_Node_sendRequest_38 : decode prog_4_method_11_code 38 = .ok (.getfield 90, 3) := by decide +kernel
theorem lr_d_Node_sendRequest_41 : decode prog_4_method_11_code 41 = .ok (.aload_n 1, 1) := by decide +kernel
theorem lr_d_Node_sendRequest_42 : decode prog_4_method_11_code 42 = .ok (.getfield 68, 3) := by decide +kernel
theorem lr_d_Node_sendRequest_45 : decode prog_4_method_11_code 45 = .ok (.aload_n 0, 1) := by decide +kernel
theorem lr_d_Node_sendRequest_46 : decode prog_4_method_11_code 46 = .ok (.getfield 40, 3) := by decide +kernel
theorem lr_d_Node_sendRequest_49 : decode prog_4_method_11_code 49 = .ok (.getfield 101, 3) := by decide +kernel
theorem lr_d_Node_sendRequest_52 : decode prog_4_method_11_code 52 = .ok (.aload_n 0, 1) := by decide +kernel
theorem lr_d_Node_sendRequest_53 : decode prog_4_method_11_code 53 = .ok (.getfield 40, 3) := by decide +kernel
theorem lr_d_Node_sendRequest_56 : decode prog_4_method_11_code 56 = .ok (.getfield 105, 3) := by decide +kernel
theorem lr_d_Node_sendRequest_59 : decode prog_4_method_11_code 59 = .ok (.invokevirtual 93, 3) := by decide +kernel
theorem lr_d_Node_sendRequest_62 : decode prog_4_method_11_code 62 = .ok (.return_, 1) := by decide +kernel
theorem lr_d_Node_startRequest_0 : decode prog_4_method_10_code 0 = .ok (.aload_n 0, 1) := by decide +kernel
theorem lr_d_Node_startRequest_1 : decode prog_4_method_10_code 1 = .ok (.getfield 40, 3) := by decide +kernel
theorem lr_d_Node_startRequest_4 : decode prog_4_method_10_code 4 = .ok (.iconst 1, 1) := by decide +kernel
theorem lr_d_Node_startRequest_5 : decode prog_4_method_10_code 5 = .ok (.putfield 44, 3) := by decide +kernel
theorem lr_d_Node_startRequest_8 : decode prog_4_method_10_code 8 = .ok (.aload_n 0, 1) := by decide +kernel
theorem lr_d_Node_startRequest_9 : decode prog_4_method_10_code 9 = .ok (.getfield 40, 3) := by decide +kernel
theorem lr_d_Node_startRequest_12 : decode prog_4_method_10_code 12 = .ok (.dup, 1) := by decide +kernel
theorem lr_d_Node_startRequest_13 : decode prog_4_method_10_code 13 = .ok (.getfield 101, 3) := by decide +kernel
theorem lr_d_Node_startRequest_16 : decode prog_4_method_10_code 16 = .ok (.iconst 1, 1) := by decide +kernel
theorem lr_d_Node_startRequest_17 : decode prog_4_method_10_code 17 = .ok (.iadd, 1) := by decide +kernel
theorem lr_d_Node_startRequest_18 : decode prog_4_method_10_code 18 = .ok (.putfield 101, 3) := by decide +kernel
theorem lr_d_Node_startRequest_21 : decode prog_4_method_10_code 21 = .ok (.aload_n 0, 1) := by decide +kernel
theorem lr_d_Node_startRequest_22 : decode prog_4_method_10_code 22 = .ok (.getfield 40, 3) := by decide +kernel
theorem lr_d_Node_startRequest_25 : decode prog_4_method_10_code 25 = .ok (.iload_n 1, 1) := by decide +kernel
theorem lr_d_Node_startRequest_26 : decode prog_4_method_10_code 26 = .ok (.putfield 104, 3) := by decide +kernel
theorem lr_d_Node_startRequest_29 : decode prog_4_method_10_code 29 = .ok (.aload_n 0, 1) := by decide +kernel
theorem lr_d_Node_startRequest_30 : decode prog_4_method_10_code 30 = .ok (.getfield 40, 3) := by decide +kernel
theorem lr_d_Node_startRequest_33 : decode prog_4_method_10_code 33 = .ok (.iload_n 2, 1) := by decide +kernel
theorem lr_d_Node_startRequest_34 : decode prog_4_method_10_code 34 = .ok (.putfield 105, 3) := by decide +kernel
theorem lr_d_Node_startRequest_37 : decode prog_4_method_10_code 37 = .ok (.aload_n 0, 1) := by decide +kernel
theorem lr_d_Node_startRequest_38 : decode prog_4_method_10_code 38 = .ok (.invokevirtual 108, 3) := by decide +kernel
theorem lr_d_Node_startRequest_41 : decode prog_4_method_10_code 41 = .ok (.return_, 1) := by decide +kernel
theorem lr_d_Node_sendDirty_0 : decode prog_4_method_12_code 0 = .ok (.aload_n 0, 1) := by decide +kernel
theorem lr_d_Node_sendDirty_1 : decode prog_4_method_12_code 1 = .ok (.dup, 1) := by decide +kernel
theorem lr_d_Node_sendDirty_2 : decode prog_4_method_12_code 2 = .ok (.getfield 58, 3) := by decide +kernel
theorem lr_d_Node_sendDirty_5 : decode prog_4_method_12_code 5 = .ok (.iconst 1, 1) := by decide +kernel
theorem lr_d_Node_sendDirty_6 : decode prog_4_method_12_code 6 = .ok (.iadd, 1) := by decide +kernel
theorem lr_d_Node_sendDirty_7 : decode prog_4_method_12_code 7 = .ok (.putfield 58, 3) := by decide +kernel
theorem lr_d_Node_sendDirty_10 : decode prog_4_method_12_code 10 = .ok (.aload_n 1, 1) := by decide +kernel
theorem lr_d_Node_sendDirty_11 : decode prog_4_method_12_code 11 = .ok (.aload_n 0, 1) := by decide +kernel
theorem lr_d_Node_sendDirty_12 : decode prog_4_method_12_code 12 = .ok (.getfield 15, 3) := by decide +kernel
theorem lr_d_Node_sendDirty_15 : decode prog_4_method_12_code 15 = .ok (.getfield 71, 3) := by decide +kernel
theorem lr_d_Node_sendDirty_18 : decode prog_4_method_12_code 18 = .ok (.putfield 114, 3) := by decide +kernel
theorem lr_d_Node_sendDirty_21 : decode prog_4_method_12_code 21 = .ok (.aload_n 0, 1) := by decide +kernel
theorem lr_d_Node_sendDirty_22 : decode prog_4_method_12_code 22 = .ok (.getfield 15, 3) := by decide +kernel
theorem lr_d_Node_sendDirty_25 : decode prog_4_method_12_code 25 = .ok (.iconst 2, 1) := by decide +kernel
theorem lr_d_Node_sendDirty_26 : decode prog_4_method_12_code 26 = .ok (.aload_n 0, 1) := by decide +kernel
theorem lr_d_Node_sendDirty_27 : decode prog_4_method_12_code 27 = .ok (.getfield 9, 3) := by decide +kernel
theorem lr_d_Node_sendDirty_30 : decode prog_4_method_12_code 30 = .ok (.aload_n 1, 1) := by decide +kernel
theorem lr_d_Node_sendDirty_31 : decode prog_4_method_12_code 31 = .ok (.getfield 90, 3) := by decide +kernel
theorem lr_d_Node_sendDirty_34 : decode prog_4_method_12_code 34 = .ok (.aload_n 1, 1) := by decide +kernel
theorem lr_d_Node_sendDirty_35 : decode prog_4_method_12_code 35 = .ok (.getfield 68, 3) := by decide +kernel
theorem lr_d_Node_sendDirty_38 : decode prog_4_method_12_code 38 = .ok (.aload_n 0, 1) := by decide +kernel
theorem lr_d_Node_sendDirty_39 : decode prog_4_method_12_code 39 = .ok (.getfield 58, 3) := by decide +kernel
theorem lr_d_Node_sendDirty_42 : decode prog_4_method_12_code 42 = .ok (.aload_n 0, 1) := by decide +kernel
theorem lr_d_Node_sendDirty_43 : decode prog_4_method_12_code 43 = .ok (.getfield 15, 3) := by decide +kernel
theorem lr_d_Node_sendDirty_46 : decode prog_4_method_12_code 46 = .ok (.getfield 71, 3) := by decide +kernel
theorem lr_d_Node_sendDirty_49 : decode prog_4_method_12_code 49 = .ok (.invokevirtual 93, 3) := by decide +kernel
theorem lr_d_Node_sendDirty_52 : decode prog_4_method_12_code 52 = .ok (.return_, 1) := by decide +kernel
theorem lr_d_Node_sendClean_0 : decode prog_4_method_13_code 0 = .ok (.aload_n 0, 1) := by decide +kernel
theorem lr_d_Node_sendClean_1 : decode prog_4_method_13_code 1 = .ok (.dup, 1) := by decide +kernel
theorem lr_d_Node_sendClean_2 : decode prog_4_method_13_code 2 = .ok (.getfield 58, 3) := by decide +kernel
theorem lr_d_Node_sendClean_5 : decode prog_4_method_13_code 5 = .ok (.iconst 1, 1) := by decide +kernel
theorem lr_d_Node_sendClean_6 : decode prog_4_method_13_code 6 = .ok (.iadd, 1) := by decide +kernel
theorem lr_d_Node_sendClean_7 : decode prog_4_method_13_code 7 = .ok (.putfield 58, 3) := by decide +kernel
theorem lr_d_Node_sendClean_10 : decode prog_4_method_13_code 10 = .ok (.aload_n 0, 1) := by decide +kernel
theorem lr_d_Node_sendClean_11 : decode prog_4_method_13_code 11 = .ok (.getfield 15, 3) := by decide +kernel
theorem lr_d_Node_sendClean_14 : decode prog_4_method_13_code 14 = .ok (.iconst 5, 1) := by decide +kernel
theorem lr_d_Node_sendClean_15 : decode prog_4_method_13_code 15 = .ok (.aload_n 0, 1) := by decide +kernel
theorem lr_d_Node_sendClean_16 : decode prog_4_method_13_code 16 = .ok (.getfield 9, 3) := by decide +kernel
theorem lr_d_Node_sendClean_19 : decode prog_4_method_13_code 19 = .ok (.aload_n 1, 1) := by decide +kernel
theorem lr_d_Node_sendClean_20 : decode prog_4_method_13_code 20 = .ok (.getfield 90, 3) := by decide +kernel
theorem lr_d_Node_sendClean_23 : decode prog_4_method_13_code 23 = .ok (.aload_n 1, 1) := by decide +kernel
theorem lr_d_Node_sendClean_24 : decode prog_4_method_13_code 24 = .ok (.getfield 68, 3) := by decide +kernel
theorem lr_d_Node_sendClean_27 : decode prog_4_method_13_code 27 = .ok (.aload_n 0, 1) := by decide +kernel
theorem lr_d_Node_sendClean_28 : decode prog_4_method_13_code 28 = .ok (.getfield 58, 3) := by decide +kernel
theorem lr_d_Node_sendClean_31 : decode prog_4_method_13_code 31 = .ok (.iconst 0, 1) := by decide +kernel
theorem lr_d_Node_sendClean_32 : decode prog_4_method_13_code 32 = .ok (.invokevirtual 93, 3) := by decide +kernel
theorem lr_d_Node_sendClean_35 : decode prog_4_method_13_code 35 = .ok (.return_, 1) := by decide +kernel
theorem lr_d_Slot_owe_0 : decode prog_7_method_6_code 0 = .ok (.aload_n 0, 1) := by decide +kernel
theorem lr_d_Slot_owe_1 : decode prog_7_method_6_code 1 = .ok (.aload_n 1, 1) := by decide +kernel
theorem lr_d_Slot_owe_2 : decode prog_7_method_6_code 2 = .ok (.getfield 45, 3) := by decide +kernel
theorem lr_d_Slot_owe_5 : decode prog_7_method_6_code 5 = .ok (.putfield 50, 3) := by decide +kernel
theorem lr_d_Slot_owe_8 : decode prog_7_method_6_code 8 = .ok (.aload_n 0, 1) := by decide +kernel
theorem lr_d_Slot_owe_9 : decode prog_7_method_6_code 9 = .ok (.aload_n 1, 1) := by decide +kernel
theorem lr_d_Slot_owe_10 : decode prog_7_method_6_code 10 = .ok (.getfield 53, 3) := by decide +kernel
theorem lr_d_Slot_owe_13 : decode prog_7_method_6_code 13 = .ok (.putfield 56, 3) := by decide +kernel
theorem lr_d_Slot_owe_16 : decode prog_7_method_6_code 16 = .ok (.return_, 1) := by decide +kernel
theorem lr_d_Node_becomePending_0 : decode prog_4_method_14_code 0 = .ok (.aload_n 1, 1) := by decide +kernel
theorem lr_d_Node_becomePending_1 : decode prog_4_method_14_code 1 = .ok (.iconst 0, 1) := by decide +kernel
theorem lr_d_Node_becomePending_2 : decode prog_4_method_14_code 2 = .ok (.putfield 115, 3) := by decide +kernel
theorem lr_d_Node_becomePending_5 : decode prog_4_method_14_code 5 = .ok (.aload_n 1, 1) := by decide +kernel
theorem lr_d_Node_becomePending_6 : decode prog_4_method_14_code 6 = .ok (.aload_n 0, 1) := by decide +kernel
theorem lr_d_Node_becomePending_7 : decode prog_4_method_14_code 7 = .ok (.getfield 15, 3) := by decide +kernel
theorem lr_d_Node_becomePending_10 : decode prog_4_method_14_code 10 = .ok (.getfield 71, 3) := by decide +kernel
theorem lr_d_Node_becomePending_13 : decode prog_4_method_14_code 13 = .ok (.bipush 24, 2) := by decide +kernel
theorem lr_d_Node_becomePending_15 : decode prog_4_method_14_code 15 = .ok (.iadd, 1) := by decide +kernel
theorem lr_d_Node_becomePending_16 : decode prog_4_method_14_code 16 = .ok (.putfield 118, 3) := by decide +kernel
theorem lr_d_Node_becomePending_19 : decode prog_4_method_14_code 19 = .ok (.aload_n 0, 1) := by decide +kernel
theorem lr_d_Node_becomePending_20 : decode prog_4_method_14_code 20 = .ok (.aload_n 1, 1) := by decide +kernel
theorem lr_d_Node_becomePending_21 : decode prog_4_method_14_code 21 = .ok (.invokevirtual 121, 3) := by decide +kernel
theorem lr_d_Node_becomePending_24 : decode prog_4_method_14_code 24 = .ok (.aload_n 1, 1) := by decide +kernel
theorem lr_d_Node_becomePending_25 : decode prog_4_method_14_code 25 = .ok (.aload_n 0, 1) := by decide +kernel
theorem lr_d_Node_becomePending_26 : decode prog_4_method_14_code 26 = .ok (.getfield 58, 3) := by decide +kernel
theorem lr_d_Node_becomePending_29 : decode prog_4_method_14_code 29 = .ok (.putfield 125, 3) := by decide +kernel
theorem lr_d_Node_becomePending_32 : decode prog_4_method_14_code 32 = .ok (.aload_n 1, 1) := by decide +kernel
theorem lr_d_Node_becomePending_33 : decode prog_4_method_14_code 33 = .ok (.aload_n 2, 1) := by decide +kernel
theorem lr_d_Node_becomePending_34 : decode prog_4_method_14_code 34 = .ok (.invokevirtual 128, 3) := by decide +kernel
theorem lr_d_Node_becomePending_37 : decode prog_4_method_14_code 37 = .ok (.return_, 1) := by decide +kernel
theorem lr_d_Slot_isFreshSurrogate_0 : decode prog_7_method_5_code 0 = .ok (.aload_n 0, 1) := by decide +kernel
theorem lr_d_Slot_isFreshSurrogate_1 : decode prog_7_method_5_code 1 = .ok (.getfield 9, 3) := by decide +kernel
theorem lr_d_Slot_isFreshSurrogate_4 : decode prog_7_method_5_code 4 = .ok (.iconst 2, 1) := by decide +kernel
theorem lr_d_Slot_isFreshSurrogate_5 : decode prog_7_method_5_code 5 = .ok (.if_icmp .ne 16, 3) := by decide +kernel
theorem lr_d_Slot_isFreshSurrogate_8 : decode prog_7_method_5_code 8 = .ok (.aload_n 0, 1) := by decide +kernel
theorem lr_d_Slot_isFreshSurrogate_9 : decode prog_7_method_5_code 9 = .ok (.iload_n 1, 1) := by decide +kernel
theorem lr_d_Slot_isFreshSurrogate_10 : decode prog_7_method_5_code 10 = .ok (.invokevirtual 41, 3) := by decide +kernel
theorem lr_d_Slot_isFreshSurrogate_13 : decode prog_7_method_5_code 13 = .ok (.iconst 2, 1) := by decide +kernel
theorem lr_d_Slot_isFreshSurrogate_14 : decode prog_7_method_5_code 14 = .ok (.if_icmp .eq 7, 3) := by decide +kernel
theorem lr_d_Slot_isFreshSurrogate_17 : decode prog_7_method_5_code 17 = .ok (.iconst 1, 1) := by decide +kernel
theorem lr_d_Slot_isFreshSurrogate_18 : decode prog_7_method_5_code 18 = .ok (.goto 4, 3) := by decide +kernel
theorem lr_d_Slot_isFreshSurrogate_21 : decode prog_7_method_5_code 21 = .ok (.iconst 0, 1) := by decide +kernel
theorem lr_d_Slot_isFreshSurrogate_22 : decode prog_7_method_5_code 22 = .ok (.ireturn, 1) := by decide +kernel
theorem lr_d_Node_repeatRequest_0 : decode prog_4_method_16_code 0 = .ok (.aload_n 0, 1) := by decide +kernel
theorem lr_d_Node_repeatRequest_1 : decode prog_4_method_16_code 1 = .ok (.getfield 21, 3) := by decide +kernel
theorem lr_d_Node_repeatRequest_4 : decode prog_4_method_16_code 4 = .ok (.aload_n 0, 1) := by decide +kernel
theorem lr_d_Node_repeatRequest_5 : decode prog_4_method_16_code 5 = .ok (.getfield 40, 3) := by decide +kernel
theorem lr_d_Node_repeatRequest_8 : decode prog_4_method_16_code 8 = .ok (.getfield 104, 3) := by decide +kernel
theorem lr_d_Node_repeatRequest_11 : decode prog_4_method_16_code 11 = .ok (.aaload, 1) := by decide +kernel
theorem lr_d_Node_repeatRequest_12 : decode prog_4_method_16_code 12 = .ok (.aload_n 0, 1) := by decide +kernel
theorem lr_d_Node_repeatRequest_13 : decode prog_4_method_16_code 13 = .ok (.getfield 15, 3) := by decide +kernel
theorem lr_d_Node_repeatRequest_16 : decode prog_4_method_16_code 16 = .ok (.getfield 71, 3) := by decide +kernel
theorem lr_d_Node_repeatRequest_19 : decode prog_4_method_16_code 19 = .ok (.invokevirtual 132, 3) := by decide +kernel
theorem lr_d_Node_repeatRequest_22 : decode prog_4_method_16_code 22 = .ok (.ifCond .eq 10, 3) := by decide +kernel
theorem lr_d_Node_repeatRequest_25 : decode prog_4_method_16_code 25 = .ok (.aload_n 0, 1) := by decide +kernel
theorem lr_d_Node_repeatRequest_26 : decode prog_4_method_16_code 26 = .ok (.invokevirtual 108, 3) := by decide +kernel
theorem lr_d_Node_repeatRequest_29 : decode prog_4_method_16_code 29 = .ok (.goto 11, 3) := by decide +kernel
theorem lr_d_Node_repeatRequest_32 : decode prog_4_method_16_code 32 = .ok (.aload_n 0, 1) := by decide +kernel
theorem lr_d_Node_repeatRequest_33 : decode prog_4_method_16_code 33 = .ok (.getfield 40, 3) := by decide +kernel
theorem lr_d_Node_repeatRequest_36 : decode prog_4_method_16_code 36 = .ok (.iconst 3, 1) := by decide +kernel
theorem lr_d_Node_repeatRequest_37 : decode prog_4_method_16_code 37 = .ok (.putfield 44, 3) := by decide +kernel
theorem lr_d_Node_repeatRequest_40 : decode prog_4_method_16_code 40 = .ok (.return_, 1) := by decide +kernel
theorem lr_d_Node_sendWhatIsDue_0 : decode prog_4_method_15_code 0 = .ok (.aload_n 0, 1) := by decide +kernel
theorem lr_d_Node_sendWhatIsDue_1 : decode prog_4_method_15_code 1 = .ok (.getfield 61, 3) := by decide +kernel
theorem lr_d_Node_sendWhatIsDue_4 : decode prog_4_method_15_code 4 = .ok (.ifCond .eq 4, 3) := by decide +kernel
theorem lr_d_Node_sendWhatIsDue_7 : decode prog_4_method_15_code 7 = .ok (.return_, 1) := by decide +kernel
theorem lr_d_Node_sendWhatIsDue_8 : decode prog_4_method_15_code 8 = .ok (.iconst 0, 1) := by decide +kernel
theorem lr_d_Node_sendWhatIsDue_9 : decode prog_4_method_15_code 9 = .ok (.istore_n 1, 1) := by decide +kernel
theorem lr_d_Node_sendWhatIsDue_10 : decode prog_4_method_15_code 10 = .ok (.iload_n 1, 1) := by decide +kernel
theorem lr_d_Node_sendWhatIsDue_11 : decode prog_4_method_15_code 11 = .ok (.bipush 8, 2) := by decide +kernel
theorem lr_d_Node_sendWhatIsDue_13 : decode prog_4_method_15_code 13 = .ok (.if_icmp .ge 52, 3) := by decide +kernel
theorem lr_d_Node_sendWhatIsDue_16 : decode prog_4_method_15_code 16 = .ok (.aload_n 0, 1) := by decide +kernel
theorem lr_d_Node_sendWhatIsDue_17 : decode prog_4_method_15_code 17 = .ok (.getfield 21, 3) := by decide +kernel
theorem lr_d_Node_sendWhatIsDue_20 : decode prog_4_method_15_code 20 = .ok (.iload_n 1, 1) := by decide +kernel
theorem lr_d_Node_sendWhatIsDue_21 : decode prog_4_method_15_code 21 = .ok (.aaload, 1) := by decide +kernel
theorem lr_d_Node_sendWhatIsDue_22 : decode prog_4_method_15_code 22 = .ok (.astore_n 2, 1) := by decide +kernel
theorem lr_d_Node_sendWhatIsDue_23 : decode prog_4_method_15_code 23 = .ok (.aload_n 2, 1) := by decide +kernel
theorem lr_d_Node_sendWhatIsDue_24 : decode prog_4_method_15_code 24 = .ok (.aload_n 0, 1) := by decide +kernel
theorem lr_d_Node_sendWhatIsDue_25 : decode prog_4_method_15_code 25 = .ok (.getfield 15, 3) := by decide +kernel
theorem lr_d_Node_sendWhatIsDue_28 : decode prog_4_method_15_code 28 = .ok (.getfield 71, 3) := by decide +kernel
theorem lr_d_Node_sendWhatIsDue_31 : decode prog_4_method_15_code 31 = .ok (.invokevirtual 132, 3) := by decide +kernel
theorem lr_d_Node_sendWhatIsDue_34 : decode prog_4_method_15_code 34 = .ok (.ifCond .eq 25, 3) := by decide +kernel
theorem lr_d_Node_sendWhatIsDue_37 : decode prog_4_method_15_code 37 = .ok (.aload_n 0, 1) := by decide +kernel
theorem lr_d_Node_sendWhatIsDue_38 : decode prog_4_method_15_code 38 = .ok (.getfield 15, 3) := by decide +kernel
theorem lr_d_Node_sendWhatIsDue_41 : decode prog_4_method_15_code 41 = .ok (.getfield 71, 3) := by decide +kernel
theorem lr_d_Node_sendWhatIsDue_44 : decode prog_4_method_15_code 44 = .ok (.aload_n 2, 1) := by decide +kernel
theorem lr_d_Node_sendWhatIsDue_45 : decode prog_4_method_15_code 45 = .ok (.getfield 114, 3) := by decide +kernel
theorem lr_d_Node_sendWhatIsDue_48 : decode prog_4_method_15_code 48 = .ok (.isub, 1) := by decide +kernel
theorem lr_d_Node_sendWhatIsDue_49 : decode prog_4_method_15_code 49 = .ok (.bipush 6, 2) := by decide +kernel
theorem lr_d_Node_sendWhatIsDue_51 : decode prog_4_method_15_code 51 = .ok (.if_icmp .lt 8, 3) := by decide +kernel
theorem lr_d_Node_sendWhatIsDue_54 : decode prog_4_method_15_code 54 = .ok (.aload_n 0, 1) := by decide +kernel
theorem lr_d_Node_sendWhatIsDue_55 : decode prog_4_method_15_code 55 = .ok (.aload_n 2, 1) := by decide +kernel
theorem lr_d_Node_sendWhatIsDue_56 : decode prog_4_method_15_code 56 = .ok (.invokevirtual 121, 3) := by decide +kernel
theorem lr_d_Node_sendWhatIsDue_59 : decode prog_4_method_15_code 59 = .ok (.iinc 1 1, 3) := by decide +kernel
theorem lr_d_Node_sendWhatIsDue_62 : decode prog_4_method_15_code 62 = .ok (.goto (-52), 3) := by decide +kernel
theorem lr_d_Node_sendWhatIsDue_65 : decode prog_4_method_15_code 65 = .ok (.aload_n 0, 1) := by decide +kernel
theorem lr_d_Node_sendWhatIsDue_66 : decode prog_4_method_15_code 66 = .ok (.getfield 40, 3) := by decide +kernel
theorem lr_d_Node_sendWhatIsDue_69 : decode prog_4_method_15_code 69 = .ok (.getfield 44, 3) := by decide +kernel
theorem lr_d_Node_sendWhatIsDue_72 : decode prog_4_method_15_code 72 = .ok (.iconst 1, 1) := by decide +kernel
theorem lr_d_Node_sendWhatIsDue_73 : decode prog_4_method_15_code 73 = .ok (.if_icmp .ne 26, 3) := by decide +kernel
theorem lr_d_Node_sendWhatIsDue_76 : decode prog_4_method_15_code 76 = .ok (.aload_n 0, 1) := by decide +kernel
theorem lr_d_Node_sendWhatIsDue_77 : decode prog_4_method_15_code 77 = .ok (.getfield 15, 3) := by decide +kernel
theorem lr_d_Node_sendWhatIsDue_80 : decode prog_4_method_15_code 80 = .ok (.getfield 71, 3) := by decide +kernel
theorem lr_d_Node_sendWhatIsDue_83 : decode prog_4_method_15_code 83 = .ok (.aload_n 0, 1) := by decide +kernel
theorem lr_d_Node_sendWhatIsDue_84 : decode prog_4_method_15_code 84 = .ok (.getfield 40, 3) := by decide +kernel
theorem lr_d_Node_sendWhatIsDue_87 : decode prog_4_method_15_code 87 = .ok (.getfield 111, 3) := by decide +kernel
theorem lr_d_Node_sendWhatIsDue_90 : decode prog_4_method_15_code 90 = .ok (.isub, 1) := by decide +kernel
theorem lr_d_Node_sendWhatIsDue_91 : decode prog_4_method_15_code 91 = .ok (.iconst 3, 1) := by decide +kernel
theorem lr_d_Node_sendWhatIsDue_92 : decode prog_4_method_15_code 92 = .ok (.if_icmp .lt 7, 3) := by decide +kernel
theorem lr_d_Node_sendWhatIsDue_95 : decode prog_4_method_15_code 95 = .ok (.aload_n 0, 1) := by decide +kernel
theorem lr_d_Node_sendWhatIsDue_96 : decode prog_4_method_15_code 96 = .ok (.invokevirtual 136, 3) := by decide +kernel
theorem lr_d_Node_sendWhatIsDue_99 : decode prog_4_method_15_code 99 = .ok (.return_, 1) := by decide +kernel
theorem lr_d_Slot_holdNewSurrogate_0 : decode prog_7_method_3_code 0 = .ok (.aload_n 0, 1) := by decide +kernel
theorem lr_d_Slot_holdNewSurrogate_1 : decode prog_7_method_3_code 1 = .ok (.iconst 2, 1) := by decide +kernel
theorem lr_d_Slot_holdNewSurrogate_2 : decode prog_7_method_3_code 2 = .ok (.putfield 9, 3) := by decide +kernel
theorem lr_d_Slot_holdNewSurrogate_5 : decode prog_7_method_3_code 5 = .ok (.aload_n 0, 1) := by decide +kernel
theorem lr_d_Slot_holdNewSurrogate_6 : decode prog_7_method_3_code 6 = .ok (.iload_n 1, 1) := by decide +kernel
theorem lr_d_Slot_holdNewSurrogate_7 : decode prog_7_method_3_code 7 = .ok (.putfield 25, 3) := by decide +kernel
theorem lr_d_Slot_holdNewSurrogate_10 : decode prog_7_method_3_code 10 = .ok (.aload_n 0, 1) := by decide +kernel
theorem lr_d_Slot_holdNewSurrogate_11 : decode prog_7_method_3_code 11 = .ok (.iload_n 2, 1) := by decide +kernel
theorem lr_d_Slot_holdNewSurrogate_12 : decode prog_7_method_3_code 12 = .ok (.putfield 31, 3) := by decide +kernel
theorem lr_d_Slot_holdNewSurrogate_15 : decode prog_7_method_3_code 15 = .ok (.aload_n 0, 1) := by decide +kernel
theorem lr_d_Slot_holdNewSurrogate_16 : decode prog_7_method_3_code 16 = .ok (.iconst 0, 1) := by decide +kernel
theorem lr_d_Slot_holdNewSurrogate_17 : decode prog_7_method_3_code 17 = .ok (.putfield 34, 3) := by decide +kernel
theorem lr_d_Slot_holdNewSurrogate_20 : decode prog_7_method_3_code 20 = .ok (.return_, 1) := by decide +kernel
theorem lr_d_Node_receivePass_0 : decode prog_4_method_18_code 0 = .ok (.aload_n 0, 1) := by decide +kernel
theorem lr_d_Node_receivePass_1 : decode prog_4_method_18_code 1 = .ok (.aload_n 1, 1) := by decide +kernel
theorem lr_d_Node_receivePass_2 : decode prog_4_method_18_code 2 = .ok (.getfield 167, 3) := by decide +kernel
theorem lr_d_Node_receivePass_5 : decode prog_4_method_18_code 5 = .ok (.invokevirtual 168, 3) := by decide +kernel
theorem lr_d_Node_receivePass_8 : decode prog_4_method_18_code 8 = .ok (.istore_n 2, 1) := by decide +kernel
theorem lr_d_Node_receivePass_9 : decode prog_4_method_18_code 9 = .ok (.iload_n 2, 1) := by decide +kernel
theorem lr_d_Node_receivePass_10 : decode prog_4_method_18_code 10 = .ok (.iconst (-1), 1) := by decide +kernel
theorem lr_d_Node_receivePass_11 : decode prog_4_method_18_code 11 = .ok (.if_icmp .ne 44, 3) := by decide +kernel
theorem lr_d_Node_receivePass_14 : decode prog_4_method_18_code 14 = .ok (.aload_n 1, 1) := by decide +kernel
theorem lr_d_Node_receivePass_15 : decode prog_4_method_18_code 15 = .ok (.getfield 171, 3) := by decide +kernel
theorem lr_d_Node_receivePass_18 : decode prog_4_method_18_code 18 = .ok (.iconst 4, 1) := by decide +kernel
theorem lr_d_Node_receivePass_19 : decode prog_4_method_18_code 19 = .ok (.irem, 1) := by decide +kernel
theorem lr_d_Node_receivePass_20 : decode prog_4_method_18_code 20 = .ok (.istore_n 3, 1) := by decide +kernel
theorem lr_d_Node_receivePass_21 : decode prog_4_method_18_code 21 = .ok (.aload_n 0, 1) := by decide +kernel
theorem lr_d_Node_receivePass_22 : decode prog_4_method_18_code 22 = .ok (.invokevirtual 174, 3) := by decide +kernel
theorem lr_d_Node_receivePass_25 : decode prog_4_method_18_code 25 = .ok (.istore_n 2, 1) := by decide +kernel
theorem lr_d_Node_receivePass_26 : decode prog_4_method_18_code 26 = .ok (.iload_n 3, 1) := by decide +kernel
theorem lr_d_Node_receivePass_27 : decode prog_4_method_18_code 27 = .ok (.aload_n 0, 1) := by decide +kernel
theorem lr_d_Node_receivePass_28 : decode prog_4_method_18_code 28 = .ok (.getfield 9, 3) := by decide +kernel
theorem lr_d_Node_receivePass_31 : decode prog_4_method_18_code 31 = .ok (.if_icmp .eq 8, 3) := by decide +kernel
theorem lr_d_Node_receivePass_34 : decode prog_4_method_18_code 34 = .ok (.iload_n 2, 1) := by decide +kernel
theorem lr_d_Node_receivePass_35 : decode prog_4_method_18_code 35 = .ok (.iconst (-1), 1) := by decide +kernel
theorem lr_d_Node_receivePass_36 : decode prog_4_method_18_code 36 = .ok (.if_icmp .ne 5, 3) := by decide +kernel
theorem lr_d_Node_receivePass_39 : decode prog_4_method_18_code 39 = .ok (.iconst 0, 1) := by decide +kernel
theorem lr_d_Node_receivePass_40 : decode prog_4_method_18_code 40 = .ok (.ireturn, 1) := by decide +kernel
theorem lr_d_Node_receivePass_41 : decode prog_4_method_18_code 41 = .ok (.aload_n 0, 1) := by decide +kernel
theorem lr_d_Node_receivePass_42 : decode prog_4_method_18_code 42 = .ok (.getfield 21, 3) := by decide +kernel
theorem lr_d_Node_receivePass_45 : decode prog_4_method_18_code 45 = .ok (.iload_n 2, 1) := by decide +kernel
theorem lr_d_Node_receivePass_46 : decode prog_4_method_18_code 46 = .ok (.aaload, 1) := by decide +kernel
theorem lr_d_Node_receivePass_47 : decode prog_4_method_18_code 47 = .ok (.aload_n 1, 1) := by decide +kernel
theorem lr_d_Node_receivePass_48 : decode prog_4_method_18_code 48 = .ok (.getfield 167, 3) := by decide +kernel
theorem lr_d_Node_receivePass_51 : decode prog_4_method_18_code 51 = .ok (.iload_n 3, 1) := by decide +kernel
theorem lr_d_Node_receivePass_52 : decode prog_4_method_18_code 52 = .ok (.invokevirtual 178, 3) := by decide +kernel
theorem lr_d_Node_receivePass_55 : decode prog_4_method_18_code 55 = .ok (.aload_n 0, 1) := by decide +kernel
theorem lr_d_Node_receivePass_56 : decode prog_4_method_18_code 56 = .ok (.getfield 26, 3) := by decide +kernel
theorem lr_d_Node_receivePass_59 : decode prog_4_method_18_code 59 = .ok (.aload_n 1, 1) := by decide +kernel
theorem lr_d_Node_receivePass_60 : decode prog_4_method_18_code 60 = .ok (.getfield 171, 3) := by decide +kernel
theorem lr_d_Node_receivePass_63 : decode prog_4_method_18_code 63 = .ok (.iconst 4, 1) := by decide +kernel
theorem lr_d_Node_receivePass_64 : decode prog_4_method_18_code 64 = .ok (.idiv, 1) := by decide +kernel
theorem lr_d_Node_receivePass_65 : decode prog_4_method_18_code 65 = .ok (.iload_n 2, 1) := by decide +kernel
theorem lr_d_Node_receivePass_66 : decode prog_4_method_18_code 66 = .ok (.iastore, 1) := by decide +kernel
theorem lr_d_Node_receivePass_67 : decode prog_4_method_18_code 67 = .ok (.aload_n 0, 1) := by decide +kernel
theorem lr_d_Node_receivePass_68 : decode prog_4_method_18_code 68 = .ok (.getfield 21, 3) := by decide +kernel
theorem lr_d_Node_receivePass_71 : decode prog_4_method_18_code 71 = .ok (.iload_n 2, 1) := by decide +kernel
theorem lr_d_Node_receivePass_72 : decode prog_4_method_18_code 72 = .ok (.aaload, 1) := by decide +kernel
theorem lr_d_Node_receivePass_73 : decode prog_4_method_18_code 73 = .ok (.astore_n 3, 1) := by decide +kernel
theorem lr_d_Node_receivePass_74 : decode prog_4_method_18_code 74 = .ok (.aload_n 3, 1) := by decide +kernel
theorem lr_d_Node_receivePass_75 : decode prog_4_method_18_code 75 = .ok (.getfield 65, 3) := by decide +kernel
theorem lr_d_Node_receivePass_78 : decode prog_4_method_18_code 78 = .ok (.iconst 1, 1) := by decide +kernel
theorem lr_d_Node_receivePass_79 : decode prog_4_method_18_code 79 = .ok (.if_icmp .ne 7, 3) := by decide +kernel
theorem lr_d_Node_receivePass_82 : decode prog_4_method_18_code 82 = .ok (.iconst 1, 1) := by decide +kernel
theorem lr_d_Node_receivePass_83 : decode prog_4_method_18_code 83 = .ok (.goto 14, 3) := by decide +kernel
theorem lr_d_Node_receivePass_86 : decode prog_4_method_18_code 86 = .ok (.aload_n 3, 1) := by decide +kernel
theorem lr_d_Node_receivePass_87 : decode prog_4_method_18_code 87 = .ok (.aload_n 0, 1) := by decide +kernel
theorem lr_d_Node_receivePass_88 : decode prog_4_method_18_code 88 = .ok (.getfield 15, 3) := by decide +kernel
theorem lr_d_Node_receivePass_91 : decode prog_4_method_18_code 91 = .ok (.getfield 71, 3) := by decide +kernel
theorem lr_d_Node_receivePass_94 : decode prog_4_method_18_code 94 = .ok (.invokevirtual 76, 3) := by decide +kernel
theorem lr_d_Node_receivePass_97 : decode prog_4_method_18_code 97 = .ok (.istore 4, 2) := by decide +kernel
theorem lr_d_Node_receivePass_99 : decode prog_4_method_18_code 99 = .ok (.iload 4, 2) := by decide +kernel
theorem lr_d_Node_receivePass_101 : decode prog_4_method_18_code 101 = .ok (.iconst 1, 1) := by decide +kernel
theorem lr_d_Node_receivePass_102 : decode prog_4_method_18_code 102 = .ok (.if_icmp .ne 31, 3) := by decide +kernel
theorem lr_d_Node_receivePass_105 : decode prog_4_method_18_code 105 = .ok (.aload_n 0, 1) := by decide +kernel
theorem lr_d_Node_receivePass_106 : decode prog_4_method_18_code 106 = .ok (.getfield 15, 3) := by decide +kernel
theorem lr_d_Node_receivePass_109 : decode prog_4_method_18_code 109 = .ok (.iconst 1, 1) := by decide +kernel
theorem lr_d_Node_receivePass_110 : decode prog_4_method_18_code 110 = .ok (.aload_n 0, 1) := by decide +kernel
theorem lr_d_Node_receivePass_111 : decode prog_4_method_18_code 111 = .ok (.getfield 9, 3) := by decide +kernel
theorem lr_d_Node_receivePass_114 : decode prog_4_method_18_code 114 = .ok (.aload_n 1, 1) := by decide +kernel
theorem lr_d_Node_receivePass_115 : decode prog_4_method_18_code 115 = .ok (.getfield 181, 3) := by decide +kernel
theorem lr_d_Node_receivePass_118 : decode prog_4_method_18_code 118 = .ok (.aload_n 1, 1) := by decide +kernel
theorem lr_d_Node_receivePass_119 : decode prog_4_method_18_code 119 = .ok (.getfield 167, 3) := by decide +kernel
theorem lr_d_Node_receivePass_122 : decode prog_4_method_18_code 122 = .ok (.aload_n 1, 1) := by decide +kernel
theorem lr_d_Node_receivePass_123 : decode prog_4_method_18_code 123 = .ok (.getfield 184, 3) := by decide +kernel
theorem lr_d_Node_receivePass_126 : decode prog_4_method_18_code 126 = .ok (.iconst 0, 1) := by decide +kernel
theorem lr_d_Node_receivePass_127 : decode prog_4_method_18_code 127 = .ok (.invokevirtual 93, 3) := by decide +kernel
theorem lr_d_Node_receivePass_130 : decode prog_4_method_18_code 130 = .ok (.goto 22, 3) := by decide +kernel
theorem lr_d_Node_receivePass_133 : decode prog_4_method_18_code 133 = .ok (.iload 4, 2) := by decide +kernel
theorem lr_d_Node_receivePass_135 : decode prog_4_method_18_code 135 = .ok (.ifCond .ne 11, 3) := by decide +kernel
theorem lr_d_Node_receivePass_138 : decode prog_4_method_18_code 138 = .ok (.aload_n 3, 1) := by decide +kernel
theorem lr_d_Node_receivePass_139 : decode prog_4_method_18_code 139 = .ok (.aload_n 1, 1) := by decide +kernel
theorem lr_d_Node_receivePass_140 : decode prog_4_method_18_code 140 = .ok (.invokevirtual 128, 3) := by decide +kernel
theorem lr_d_Node_receivePass_143 : decode prog_4_method_18_code 143 = .ok (.goto 9, 3) := by decide +kernel
theorem lr_d_Node_receivePass_146 : decode prog_4_method_18_code 146 = .ok (.aload_n 0, 1) := by decide +kernel
theorem lr_d_Node_receivePass_147 : decode prog_4_method_18_code 147 = .ok (.aload_n 3, 1) := by decide +kernel
theorem lr_d_Node_receivePass_148 : decode prog_4_method_18_code 148 = .ok (.aload_n 1, 1) := by decide +kernel
theorem lr_d_Node_receivePass_149 : decode prog_4_method_18_code 149 = .ok (.invokevirtual 185, 3) := by decide +kernel
theorem lr_d_Node_receivePass_152 : decode prog_4_method_18_code 152 = .ok (.iconst 1, 1) := by decide +kernel
theorem lr_d_Node_receivePass_153 : decode prog_4_method_18_code 153 = .ok (.ireturn, 1) := by decide +kernel
theorem lr_d_Node_receiveTaken_0 : decode prog_4_method_19_code 0 = .ok (.iconst 0, 1) := by decide +kernel
theorem lr_d_Node_receiveTaken_1 : decode prog_4_method_19_code 1 = .ok (.istore_n 2, 1) := by decide +kernel
theorem lr_d_Node_receiveTaken_2 : decode prog_4_method_19_code 2 = .ok (.iload_n 2, 1) := by decide +kernel
theorem lr_d_Node_receiveTaken_3 : decode prog_4_method_19_code 3 = .ok (.bipush 6, 2) := by decide +kernel
theorem lr_d_Node_receiveTaken_5 : decode prog_4_method_19_code 5 = .ok (.if_icmp .ge 48, 3) := by decide +kernel
theorem lr_d_Node_receiveTaken_8 : decode prog_4_method_19_code 8 = .ok (.aload_n 0, 1) := by decide +kernel
theorem lr_d_Node_receiveTaken_9 : decode prog_4_method_19_code 9 = .ok (.getfield 32, 3) := by decide +kernel
theorem lr_d_Node_receiveTaken_12 : decode prog_4_method_19_code 12 = .ok (.iload_n 2, 1) := by decide +kernel
theorem lr_d_Node_receiveTaken_13 : decode prog_4_method_19_code 13 = .ok (.aaload, 1) := by decide +kernel
theorem lr_d_Node_receiveTaken_14 : decode prog_4_method_19_code 14 = .ok (.astore_n 3, 1) := by decide +kernel
theorem lr_d_Node_receiveTaken_15 : decode prog_4_method_19_code 15 = .ok (.aload_n 0, 1) := by decide +kernel
theorem lr_d_Node_receiveTaken_16 : decode prog_4_method_19_code 16 = .ok (.aload_n 3, 1) := by decide +kernel
theorem lr_d_Node_receiveTaken_17 : decode prog_4_method_19_code 17 = .ok (.invokevirtual 82, 3) := by decide +kernel
theorem lr_d_Node_receiveTaken_20 : decode prog_4_method_19_code 20 = .ok (.ifCond .eq 27, 3) := by decide +kernel
theorem lr_d_Node_receiveTaken_23 : decode prog_4_method_19_code 23 = .ok (.aload_n 3, 1) := by decide +kernel
theorem lr_d_Node_receiveTaken_24 : decode prog_4_method_19_code 24 = .ok (.getfield 97, 3) := by decide +kernel
theorem lr_d_Node_receiveTaken_27 : decode prog_4_method_19_code 27 = .ok (.aload_n 1, 1) := by decide +kernel
theorem lr_d_Node_receiveTaken_28 : decode prog_4_method_19_code 28 = .ok (.getfield 184, 3) := by decide +kernel
theorem lr_d_Node_receiveTaken_31 : decode prog_4_method_19_code 31 = .ok (.if_icmp .ne 16, 3) := by decide +kernel
theorem lr_d_Node_receiveTaken_34 : decode prog_4_method_19_code 34 = .ok (.aload_n 3, 1) := by decide +kernel
theorem lr_d_Node_receiveTaken_35 : decode prog_4_method_19_code 35 = .ok (.aload_n 0, 1) := by decide +kernel
theorem lr_d_Node_receiveTaken_36 : decode prog_4_method_19_code 36 = .ok (.getfield 15, 3) := by decide +kernel
theorem lr_d_Node_receiveTaken_39 : decode prog_4_method_19_code 39 = .ok (.getfield 71, 3) := by decide +kernel
theorem lr_d_Node_receiveTaken_42 : decode prog_4_method_19_code 42 = .ok (.putfield 79, 3) := by decide +kernel
theorem lr_d_Node_receiveTaken_45 : decode prog_4_method_19_code 45 = .ok (.iconst 1, 1) := by decide +kernel
theorem lr_d_Node_receiveTaken_46 : decode prog_4_method_19_code 46 = .ok (.ireturn, 1) := by decide +kernel
theorem lr_d_Node_receiveTaken_47 : decode prog_4_method_19_code 47 = .ok (.iinc 2 1, 3) := by decide +kernel
theorem lr_d_Node_receiveTaken_50 : decode prog_4_method_19_code 50 = .ok (.goto (-48), 3) := by decide +kernel
theorem lr_d_Node_receiveTaken_53 : decode prog_4_method_19_code 53 = .ok (.iconst 0, 1) := by decide +kernel
theorem lr_d_Node_receiveTaken_54 : decode prog_4_method_19_code 54 = .ok (.ireturn, 1) := by decide +kernel
