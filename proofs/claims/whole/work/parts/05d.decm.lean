theorem lr_d_M_listing_0 : decode prog_9_method_43_code 0 = .ok (.iload_n 1, 1) := by decide +kernel
theorem lr_d_M_listing_1 : decode prog_9_method_43_code 1 = .ok (.iconst 4, 1) := by decide +kernel
theorem lr_d_M_listing_2 : decode prog_9_method_43_code 2 = .ok (.invokestatic 107, 3) := by decide +kernel
theorem lr_d_M_listing_5 : decode prog_9_method_43_code 5 = .ok (.ifCond .eq 40, 3) := by decide +kernel
theorem lr_d_M_listing_8 : decode prog_9_method_43_code 8 = .ok (.iload_n 2, 1) := by decide +kernel
theorem lr_d_M_listing_9 : decode prog_9_method_43_code 9 = .ok (.bipush 8, 2) := by decide +kernel
theorem lr_d_M_listing_11 : decode prog_9_method_43_code 11 = .ok (.invokestatic 107, 3) := by decide +kernel
theorem lr_d_M_listing_14 : decode prog_9_method_43_code 14 = .ok (.ifCond .eq 31, 3) := by decide +kernel
theorem lr_d_M_listing_17 : decode prog_9_method_43_code 17 = .ok (.iload_n 3, 1) := by decide +kernel
theorem lr_d_M_listing_18 : decode prog_9_method_43_code 18 = .ok (.iconst 4, 1) := by decide +kernel
theorem lr_d_M_listing_19 : decode prog_9_method_43_code 19 = .ok (.invokestatic 107, 3) := by decide +kernel
theorem lr_d_M_listing_22 : decode prog_9_method_43_code 22 = .ok (.ifCond .eq 23, 3) := by decide +kernel
theorem lr_d_M_listing_25 : decode prog_9_method_43_code 25 = .ok (.iload_n 3, 1) := by decide +kernel
theorem lr_d_M_listing_26 : decode prog_9_method_43_code 26 = .ok (.iload_n 1, 1) := by decide +kernel
theorem lr_d_M_listing_27 : decode prog_9_method_43_code 27 = .ok (.if_icmp .eq 18, 3) := by decide +kernel
theorem lr_d_M_listing_30 : decode prog_9_method_43_code 30 = .ok (.aload_n 0, 1) := by decide +kernel
theorem lr_d_M_listing_31 : decode prog_9_method_43_code 31 = .ok (.getfield 20, 3) := by decide +kernel
theorem lr_d_M_listing_34 : decode prog_9_method_43_code 34 = .ok (.bipush 8, 2) := by decide +kernel
theorem lr_d_M_listing_36 : decode prog_9_method_43_code 36 = .ok (.iload_n 1, 1) := by decide +kernel
theorem lr_d_M_listing_37 : decode prog_9_method_43_code 37 = .ok (.imul, 1) := by decide +kernel
theorem lr_d_M_listing_38 : decode prog_9_method_43_code 38 = .ok (.iload_n 2, 1) := by decide +kernel
theorem lr_d_M_listing_39 : decode prog_9_method_43_code 39 = .ok (.iadd, 1) := by decide +kernel
theorem lr_d_M_listing_40 : decode prog_9_method_43_code 40 = .ok (.iaload, 1) := by decide +kernel
theorem lr_d_M_listing_41 : decode prog_9_method_43_code 41 = .ok (.iconst 1, 1) := by decide +kernel
theorem lr_d_M_listing_42 : decode prog_9_method_43_code 42 = .ok (.if_icmp .eq 5, 3) := by decide +kernel
theorem lr_d_M_listing_45 : decode prog_9_method_43_code 45 = .ok (.iconst (-1), 1) := by decide +kernel
theorem lr_d_M_listing_46 : decode prog_9_method_43_code 46 = .ok (.ireturn, 1) := by decide +kernel
theorem lr_d_M_listing_47 : decode prog_9_method_43_code 47 = .ok (.aload_n 0, 1) := by decide +kernel
theorem lr_d_M_listing_48 : decode prog_9_method_43_code 48 = .ok (.getfield 35, 3) := by decide +kernel
theorem lr_d_M_listing_51 : decode prog_9_method_43_code 51 = .ok (.bipush 32, 2) := by decide +kernel
theorem lr_d_M_listing_53 : decode prog_9_method_43_code 53 = .ok (.iload_n 1, 1) := by decide +kernel
theorem lr_d_M_listing_54 : decode prog_9_method_43_code 54 = .ok (.imul, 1) := by decide +kernel
theorem lr_d_M_listing_55 : decode prog_9_method_43_code 55 = .ok (.iconst 4, 1) := by decide +kernel
theorem lr_d_M_listing_56 : decode prog_9_method_43_code 56 = .ok (.iload_n 2, 1) := by decide +kernel
theorem lr_d_M_listing_57 : decode prog_9_method_43_code 57 = .ok (.imul, 1) := by decide +kernel
theorem lr_d_M_listing_58 : decode prog_9_method_43_code 58 = .ok (.iadd, 1) := by decide +kernel
theorem lr_d_M_listing_59 : decode prog_9_method_43_code 59 = .ok (.iload_n 3, 1) := by decide +kernel
theorem lr_d_M_listing_60 : decode prog_9_method_43_code 60 = .ok (.iadd, 1) := by decide +kernel
theorem lr_d_M_listing_61 : decode prog_9_method_43_code 61 = .ok (.iaload, 1) := by decide +kernel
theorem lr_d_M_listing_62 : decode prog_9_method_43_code 62 = .ok (.aload_n 0, 1) := by decide +kernel
theorem lr_d_M_listing_63 : decode prog_9_method_43_code 63 = .ok (.getfield 119, 3) := by decide +kernel
theorem lr_d_M_listing_66 : decode prog_9_method_43_code 66 = .ok (.isub, 1) := by decide +kernel
theorem lr_d_M_listing_67 : decode prog_9_method_43_code 67 = .ok (.istore 4, 2) := by decide +kernel
theorem lr_d_M_listing_69 : decode prog_9_method_43_code 69 = .ok (.iload 4, 2) := by decide +kernel
theorem lr_d_M_listing_71 : decode prog_9_method_43_code 71 = .ok (.ifCond .le 8, 3) := by decide +kernel
theorem lr_d_M_listing_74 : decode prog_9_method_43_code 74 = .ok (.iload 4, 2) := by decide +kernel
theorem lr_d_M_listing_76 : decode prog_9_method_43_code 76 = .ok (.goto 4, 3) := by decide +kernel
theorem lr_d_M_listing_79 : decode prog_9_method_43_code 79 = .ok (.iconst 0, 1) := by decide +kernel
theorem lr_d_M_listing_80 : decode prog_9_method_43_code 80 = .ok (.ireturn, 1) := by decide +kernel
theorem lr_d_M_pins_0 : decode prog_9_method_44_code 0 = .ok (.iload_n 1, 1) := by decide +kernel
theorem lr_d_M_pins_1 : decode prog_9_method_44_code 1 = .ok (.iconst 4, 1) := by decide +kernel
theorem lr_d_M_pins_2 : decode prog_9_method_44_code 2 = .ok (.invokestatic 107, 3) := by decide +kernel
theorem lr_d_M_pins_5 : decode prog_9_method_44_code 5 = .ok (.ifCond .eq 11, 3) := by decide +kernel
theorem lr_d_M_pins_8 : decode prog_9_method_44_code 8 = .ok (.aload_n 0, 1) := by decide +kernel
theorem lr_d_M_pins_9 : decode prog_9_method_44_code 9 = .ok (.iload_n 1, 1) := by decide +kernel
theorem lr_d_M_pins_10 : decode prog_9_method_44_code 10 = .ok (.invokevirtual 146, 3) := by decide +kernel
theorem lr_d_M_pins_13 : decode prog_9_method_44_code 13 = .ok (.goto 4, 3) := by decide +kernel
theorem lr_d_M_pins_16 : decode prog_9_method_44_code 16 = .ok (.iconst (-1), 1) := by decide +kernel
theorem lr_d_M_pins_17 : decode prog_9_method_44_code 17 = .ok (.ireturn, 1) := by decide +kernel
theorem lr_d_M_outcome_0 : decode prog_9_method_45_code 0 = .ok (.iload_n 1, 1) := by decide +kernel
theorem lr_d_M_outcome_1 : decode prog_9_method_45_code 1 = .ok (.iconst 4, 1) := by decide +kernel
theorem lr_d_M_outcome_2 : decode prog_9_method_45_code 2 = .ok (.invokestatic 107, 3) := by decide +kernel
theorem lr_d_M_outcome_5 : decode prog_9_method_45_code 5 = .ok (.ifCond .eq 11, 3) := by decide +kernel
theorem lr_d_M_outcome_8 : decode prog_9_method_45_code 8 = .ok (.iload_n 2, 1) := by decide +kernel
theorem lr_d_M_outcome_9 : decode prog_9_method_45_code 9 = .ok (.iconst 3, 1) := by decide +kernel
theorem lr_d_M_outcome_10 : decode prog_9_method_45_code 10 = .ok (.invokestatic 107, 3) := by decide +kernel
theorem lr_d_M_outcome_13 : decode prog_9_method_45_code 13 = .ok (.ifCond .ne 5, 3) := by decide +kernel
theorem lr_d_M_outcome_16 : decode prog_9_method_45_code 16 = .ok (.iconst (-1), 1) := by decide +kernel
theorem lr_d_M_outcome_17 : decode prog_9_method_45_code 17 = .ok (.ireturn, 1) := by decide +kernel
theorem lr_d_M_outcome_18 : decode prog_9_method_45_code 18 = .ok (.iload_n 2, 1) := by decide +kernel
theorem lr_d_M_outcome_19 : decode prog_9_method_45_code 19 = .ok (.ifCond .ne 12, 3) := by decide +kernel
theorem lr_d_M_outcome_22 : decode prog_9_method_45_code 22 = .ok (.aload_n 0, 1) := by decide +kernel
theorem lr_d_M_outcome_23 : decode prog_9_method_45_code 23 = .ok (.getfield 74, 3) := by decide +kernel
theorem lr_d_M_outcome_26 : decode prog_9_method_45_code 26 = .ok (.iload_n 1, 1) := by decide +kernel
theorem lr_d_M_outcome_27 : decode prog_9_method_45_code 27 = .ok (.iaload, 1) := by decide +kernel
theorem lr_d_M_outcome_28 : decode prog_9_method_45_code 28 = .ok (.goto 23, 3) := by decide +kernel
theorem lr_d_M_outcome_31 : decode prog_9_method_45_code 31 = .ok (.iload_n 2, 1) := by decide +kernel
theorem lr_d_M_outcome_32 : decode prog_9_method_45_code 32 = .ok (.iconst 1, 1) := by decide +kernel
theorem lr_d_M_outcome_33 : decode prog_9_method_45_code 33 = .ok (.if_icmp .ne 12, 3) := by decide +kernel
theorem lr_d_M_outcome_36 : decode prog_9_method_45_code 36 = .ok (.aload_n 0, 1) := by decide +kernel
theorem lr_d_M_outcome_37 : decode prog_9_method_45_code 37 = .ok (.getfield 77, 3) := by decide +kernel
theorem lr_d_M_outcome_40 : decode prog_9_method_45_code 40 = .ok (.iload_n 1, 1) := by decide +kernel
theorem lr_d_M_outcome_41 : decode prog_9_method_45_code 41 = .ok (.iaload, 1) := by decide +kernel
theorem lr_d_M_outcome_42 : decode prog_9_method_45_code 42 = .ok (.goto 9, 3) := by decide +kernel
theorem lr_d_M_outcome_45 : decode prog_9_method_45_code 45 = .ok (.aload_n 0, 1) := by decide +kernel
theorem lr_d_M_outcome_46 : decode prog_9_method_45_code 46 = .ok (.getfield 89, 3) := by decide +kernel
theorem lr_d_M_outcome_49 : decode prog_9_method_45_code 49 = .ok (.iload_n 1, 1) := by decide +kernel
theorem lr_d_M_outcome_50 : decode prog_9_method_45_code 50 = .ok (.iaload, 1) := by decide +kernel
theorem lr_d_M_outcome_51 : decode prog_9_method_45_code 51 = .ok (.ireturn, 1) := by decide +kernel
