def lr_G_Node_receiveClean (n : Nat) (a1 : Nat) (t : lr_S) : Option (Int32 × lr_S) := (lr_G_Node_slotWith n (lr_rd t 3 a1 3) t).bind fun u1 => (if u1.1 = (-1 : Int32) then (some ((0 : Int32), u1.2)) else (if lr_in u1.1 8 = true then (if lr_in (lr_rd u1.2 3 a1 1) 4 = true then (if (lr_rd u1.2 9 (8 * n + u1.1.toNatClampNeg) (lr_rd u1.2 3 a1 1).toNatClampNeg) < (lr_rd u1.2 3 a1 4) then ((some (lr_wr u1.2 9 (8 * n + u1.1.toNatClampNeg) (lr_rd u1.2 3 a1 1).toNatClampNeg (lr_rd u1.2 3 a1 4))).bind fun t7 => (if lr_in (lr_rd t7 3 a1 1) 4 = true then ((some (lr_wr t7 10 (8 * n + u1.1.toNatClampNeg) (lr_rd t7 3 a1 1).toNatClampNeg (lr_rd t7 1 0 0))).bind fun t10 => (some ((1 : Int32), t10))) else none)) else (some ((0 : Int32), u1.2))) else none) else none))
set_option maxHeartbeats 4000000 in
theorem lr_r_Node_receiveClean {n : Nat} {a1 : Nat} {t : lr_S} {o : Int32 × lr_S} (h : lr_G_Node_receiveClean n a1 t = some o) : lr_RI 0 20 lr_m_Node_receiveClean [.inr (5, n), .inr (3, a1)] t o.1 o.2 := by
  refine lr_ofI (ty := .boolean) (own := lr_R2) (by decide) rfl rfl (Nat.le_of_ble_eq_true rfl) (fun X C E => ?_)
  show lr_T X 0 [(0, .inr (5, n)), (1, .inr (3, a1))] [] t
  have h := (show ((lr_G_Node_slotWith n (lr_rd t 3 a1 3) t).bind fun u1 => (if u1.1 = (-1 : Int32) then (some ((0 : Int32), u1.2)) else (if lr_in u1.1 8 = true then (if lr_in (lr_rd u1.2 3 a1 1) 4 = true then (if (lr_rd u1.2 9 (8 * n + u1.1.toNatClampNeg) (lr_rd u1.2 3 a1 1).toNatClampNeg) < (lr_rd u1.2 3 a1 4) then ((some (lr_wr u1.2 9 (8 * n + u1.1.toNatClampNeg) (lr_rd u1.2 3 a1 1).toNatClampNeg (lr_rd u1.2 3 a1 4))).bind fun t7 => (if lr_in (lr_rd t7 3 a1 1) 4 = true then ((some (lr_wr t7 10 (8 * n + u1.1.toNatClampNeg) (lr_rd t7 3 a1 1).toNatClampNeg (lr_rd t7 1 0 0))).bind fun t10 => (some ((1 : Int32), t10))) else none)) else (some ((0 : Int32), u1.2))) else none) else none))) = some o from h)
  refine lr_aload_n (pc := 0) C lr_d_Node_receiveClean_0 rfl 0 rfl ?_
  refine lr_aload_n (pc := 1) C lr_d_Node_receiveClean_1 rfl 1 rfl ?_
  refine lr_g2_167 (pc := 2) C lr_d_Node_receiveClean_2 ?_
  obtain ⟨u1, hu2, h⟩ := lr_bd h
  refine lr_callVi (pc := 5) (as := [.inl (lr_rd t 3 a1 3)]) (st := []) (fs := fun ad => lr_fs2 t n ad) C (lr_r_Node_slotWith hu2) lr_c2_168 lr_d_Node_receiveClean_5 rfl rfl (fun _ _ => rfl) (ci := 2) rfl rfl ⟨by decide, by decide⟩ (Nat.le_of_ble_eq_true rfl) ?_
  refine lr_istore_n (pc := 8) (ls' := [(2, .inl u1.1), (0, .inr (5, n)), (1, .inr (3, a1))]) C lr_d_Node_receiveClean_8 rfl (by decide) rfl ?_
  refine lr_iload_n (pc := 9) C lr_d_Node_receiveClean_9 rfl 0 rfl ?_
  refine lr_iconst (pc := 10) (v := -1) C lr_d_Node_receiveClean_10 (by decide) ?_
  refine lr_icmp_eq (pc := 11) (tgt := 35) C lr_d_Node_receiveClean_11 (by decide) (fun hc3 => ?_) (fun hc3 => ?_)
  · have h := lr_ps hc3 h
    refine lr_iconst (pc := 35) (v := 0) C lr_d_Node_receiveClean_35 (by decide) ?_
    have e := Option.some.inj h
    subst e
    exact lr_iret C E lr_d_Node_receiveClean_36 (by decide)
  · have h := lr_ng hc3 h
    refine lr_aload_n (pc := 14) C lr_d_Node_receiveClean_14 rfl 2 rfl ?_
    refine lr_g2_184 (pc := 15) C lr_d_Node_receiveClean_15 ?_
    refine lr_aload_n (pc := 18) C lr_d_Node_receiveClean_18 rfl 1 rfl ?_
    refine lr_g2_21 (pc := 19) C lr_d_Node_receiveClean_19 ?_
    refine lr_iload_n (pc := 22) C lr_d_Node_receiveClean_22 rfl 0 rfl ?_
    obtain ⟨hb4, h⟩ := lr_gd h
    refine lr_a6 (pc := 23) C lr_d_Node_receiveClean_23 hb4 ?_
    refine lr_g2_189 (pc := 24) C lr_d_Node_receiveClean_24 ?_
    refine lr_aload_n (pc := 27) C lr_d_Node_receiveClean_27 rfl 2 rfl ?_
    refine lr_g2_181 (pc := 28) C lr_d_Node_receiveClean_28 ?_
    obtain ⟨hb5, h⟩ := lr_gd h
    refine lr_li9 (pc := 31) C lr_d_Node_receiveClean_31 hb5 ?_
    refine lr_icmp_gt (pc := 32) (tgt := 37) C lr_d_Node_receiveClean_32 (by decide) (fun hc6 => ?_) (fun hc6 => ?_)
    · have h := lr_ps hc6 h
      refine lr_aload_n (pc := 37) C lr_d_Node_receiveClean_37 rfl 1 rfl ?_
      refine lr_g2_21 (pc := 38) C lr_d_Node_receiveClean_38 ?_
      refine lr_iload_n (pc := 41) C lr_d_Node_receiveClean_41 rfl 0 rfl ?_
      refine lr_a6 (pc := 42) C lr_d_Node_receiveClean_42 hb4 ?_
      refine lr_g2_189 (pc := 43) C lr_d_Node_receiveClean_43 ?_
      refine lr_aload_n (pc := 46) C lr_d_Node_receiveClean_46 rfl 2 rfl ?_
      refine lr_g2_181 (pc := 47) C lr_d_Node_receiveClean_47 ?_
      refine lr_aload_n (pc := 50) C lr_d_Node_receiveClean_50 rfl 2 rfl ?_
      refine lr_g2_184 (pc := 51) C lr_d_Node_receiveClean_51 ?_
      refine lr_si9 (pc := 54) C lr_d_Node_receiveClean_54 hb5 ?_
      obtain ⟨t7, ht8, h⟩ := lr_bd h
      rw [Option.some.inj ht8]
      refine lr_aload_n (pc := 55) C lr_d_Node_receiveClean_55 rfl 1 rfl ?_
      refine lr_g2_21 (pc := 56) C lr_d_Node_receiveClean_56 ?_
      refine lr_iload_n (pc := 59) C lr_d_Node_receiveClean_59 rfl 0 rfl ?_
      refine lr_a6 (pc := 60) C lr_d_Node_receiveClean_60 hb4 ?_
      refine lr_g2_192 (pc := 61) C lr_d_Node_receiveClean_61 ?_
      refine lr_aload_n (pc := 64) C lr_d_Node_receiveClean_64 rfl 2 rfl ?_
      refine lr_g2_181 (pc := 65) C lr_d_Node_receiveClean_65 ?_
      refine lr_aload_n (pc := 68) C lr_d_Node_receiveClean_68 rfl 1 rfl ?_
      refine lr_g2_15 (pc := 69) C lr_d_Node_receiveClean_69 ?_
      refine lr_g2_71 (pc := 72) C lr_d_Node_receiveClean_72 ?_
      obtain ⟨hb9, h⟩ := lr_gd h
      refine lr_si10 (pc := 75) C lr_d_Node_receiveClean_75 hb9 ?_
      obtain ⟨t10, ht11, h⟩ := lr_bd h
      rw [Option.some.inj ht11]
      refine lr_iconst (pc := 76) (v := 1) C lr_d_Node_receiveClean_76 (by decide) ?_
      have e := Option.some.inj h
      subst e
      exact lr_iret C E lr_d_Node_receiveClean_77 (by decide)
    · have h := lr_ng hc6 h
      refine lr_iconst (pc := 35) (v := 0) C lr_d_Node_receiveClean_35 (by decide) ?_
      have e := Option.some.inj h
      subst e
      exact lr_iret C E lr_d_Node_receiveClean_36 (by decide)
def lr_G_Node_carryOut (n : Nat) (a1 : Nat) (a2 : Nat) (t : lr_S) : Option (lr_S) := (lr_G_Node_slotWith n (lr_rd t 3 a1 3) t).bind fun u1 => (if u1.1 = (-1 : Int32) then ((lr_G_Message_write a2 (8 : Int32) (lr_rd u1.2 5 n 0) (lr_rd u1.2 3 a1 1) (lr_rd u1.2 3 a1 3) (lr_rd u1.2 3 a1 4) (0 : Int32) u1.2).bind fun u9 => (some u9)) else (if lr_in u1.1 8 = true then ((some (lr_wr u1.2 7 (8 * n + u1.1.toNatClampNeg) 2 ((lr_rd u1.2 7 (8 * n + u1.1.toNatClampNeg) 2) + (lr_rd u1.2 3 a1 5)))).bind fun t5 => ((lr_G_Message_write a2 (7 : Int32) (lr_rd t5 5 n 0) (lr_rd t5 3 a1 1) (lr_rd t5 3 a1 3) (lr_rd t5 3 a1 4) (lr_rd t5 7 (8 * n + u1.1.toNatClampNeg) 2) t5).bind fun u7 => (some u7))) else none))
set_option maxHeartbeats 4000000 in
theorem lr_r_Node_carryOut {n : Nat} {a1 : Nat} {a2 : Nat} {t o : lr_S} (h : lr_G_Node_carryOut n a1 a2 t = some o) : lr_RV 0 20 lr_m_Node_carryOut [.inr (5, n), .inr (3, a1), .inr (3, a2)] t o := by
  refine lr_ofV (own := lr_R2) (by decide) rfl rfl (Nat.le_of_ble_eq_true rfl) (fun X C E => ?_)
  show lr_T X 0 [(0, .inr (5, n)), (1, .inr (3, a1)), (2, .inr (3, a2))] [] t
  have h := (show ((lr_G_Node_slotWith n (lr_rd t 3 a1 3) t).bind fun u1 => (if u1.1 = (-1 : Int32) then ((lr_G_Message_write a2 (8 : Int32) (lr_rd u1.2 5 n 0) (lr_rd u1.2 3 a1 1) (lr_rd u1.2 3 a1 3) (lr_rd u1.2 3 a1 4) (0 : Int32) u1.2).bind fun u9 => (some u9)) else (if lr_in u1.1 8 = true then ((some (lr_wr u1.2 7 (8 * n + u1.1.toNatClampNeg) 2 ((lr_rd u1.2 7 (8 * n + u1.1.toNatClampNeg) 2) + (lr_rd u1.2 3 a1 5)))).bind fun t5 => ((lr_G_Message_write a2 (7 : Int32) (lr_rd t5 5 n 0) (lr_rd t5 3 a1 1) (lr_rd t5 3 a1 3) (lr_rd t5 3 a1 4) (lr_rd t5 7 (8 * n + u1.1.toNatClampNeg) 2) t5).bind fun u7 => (some u7))) else none))) = some o from h)
  refine lr_aload_n (pc := 0) C lr_d_Node_carryOut_0 rfl 0 rfl ?_
  refine lr_aload_n (pc := 1) C lr_d_Node_carryOut_1 rfl 1 rfl ?_
  refine lr_g2_167 (pc := 2) C lr_d_Node_carryOut_2 ?_
  obtain ⟨u1, hu2, h⟩ := lr_bd h
  refine lr_callVi (pc := 5) (as := [.inl (lr_rd t 3 a1 3)]) (st := []) (fs := fun ad => lr_fs2 t n ad) C (lr_r_Node_slotWith hu2) lr_c2_168 lr_d_Node_carryOut_5 rfl rfl (fun _ _ => rfl) (ci := 2) rfl rfl ⟨by decide, by decide⟩ (Nat.le_of_ble_eq_true rfl) ?_
  refine lr_istore_n (pc := 8) (ls' := [(3, .inl u1.1), (0, .inr (5, n)), (1, .inr (3, a1)), (2, .inr (3, a2))]) C lr_d_Node_carryOut_8 rfl (by decide) rfl ?_
  refine lr_iload_n (pc := 9) C lr_d_Node_carryOut_9 rfl 0 rfl ?_
  refine lr_iconst (pc := 10) (v := -1) C lr_d_Node_carryOut_10 (by decide) ?_
  refine lr_icmp_ne (pc := 11) (tgt := 38) C lr_d_Node_carryOut_11 (by decide) (fun hc3 => ?_) (fun hc3 => ?_)
  · have h := lr_ng hc3 h
    refine lr_aload_n (pc := 38) C lr_d_Node_carryOut_38 rfl 1 rfl ?_
    refine lr_g2_21 (pc := 39) C lr_d_Node_carryOut_39 ?_
    refine lr_iload_n (pc := 42) C lr_d_Node_carryOut_42 rfl 0 rfl ?_
    obtain ⟨hb4, h⟩ := lr_gd h
    refine lr_a6 (pc := 43) C lr_d_Node_carryOut_43 hb4 ?_
    refine lr_dup (pc := 44) C lr_d_Node_carryOut_44 ?_
    refine lr_g2_221 (pc := 45) C lr_d_Node_carryOut_45 ?_
    refine lr_aload_n (pc := 48) C lr_d_Node_carryOut_48 rfl 2 rfl ?_
    refine lr_g2_171 (pc := 49) C lr_d_Node_carryOut_49 ?_
    refine lr_iadd (pc := 52) C lr_d_Node_carryOut_52 ?_
    refine lr_p2_221 (pc := 53) C lr_d_Node_carryOut_53 ?_
    obtain ⟨t5, ht6, h⟩ := lr_bd h
    rw [Option.some.inj ht6]
    refine lr_aload_n (pc := 56) C lr_d_Node_carryOut_56 rfl 3 rfl ?_
    refine lr_bipush (pc := 57) (v := 7) C lr_d_Node_carryOut_57 (by decide) ?_
    refine lr_aload_n (pc := 59) C lr_d_Node_carryOut_59 rfl 1 rfl ?_
    refine lr_g2_9 (pc := 60) C lr_d_Node_carryOut_60 ?_
    refine lr_aload_n (pc := 63) C lr_d_Node_carryOut_63 rfl 2 rfl ?_
    refine lr_g2_181 (pc := 64) C lr_d_Node_carryOut_64 ?_
    refine lr_aload_n (pc := 67) C lr_d_Node_carryOut_67 rfl 2 rfl ?_
    refine lr_g2_167 (pc := 68) C lr_d_Node_carryOut_68 ?_
    refine lr_aload_n (pc := 71) C lr_d_Node_carryOut_71 rfl 2 rfl ?_
    refine lr_g2_184 (pc := 72) C lr_d_Node_carryOut_72 ?_
    refine lr_aload_n (pc := 75) C lr_d_Node_carryOut_75 rfl 1 rfl ?_
    refine lr_g2_21 (pc := 76) C lr_d_Node_carryOut_76 ?_
    refine lr_iload_n (pc := 79) C lr_d_Node_carryOut_79 rfl 0 rfl ?_
    refine lr_a6 (pc := 80) C lr_d_Node_carryOut_80 hb4 ?_
    refine lr_g2_221 (pc := 81) C lr_d_Node_carryOut_81 ?_
    obtain ⟨u7, hu8, h⟩ := lr_bd h
    refine lr_callVv (pc := 84) (as := [.inl (7 : Int32), .inl (lr_rd t5 5 n 0), .inl (lr_rd t5 3 a1 1), .inl (lr_rd t5 3 a1 3), .inl (lr_rd t5 3 a1 4), .inl (lr_rd t5 7 (8 * n + u1.1.toNatClampNeg) 2)]) (st := []) (fs := fun ad => lr_fs0 t5 a2 ad) C (lr_r_Message_write hu8) lr_c2_218 lr_d_Node_carryOut_84 rfl rfl (fun _ _ => rfl) (ci := 0) rfl rfl ⟨by decide, by decide⟩ (Nat.le_of_ble_eq_true rfl) ?_
    have e := Option.some.inj h
    subst e
    exact lr_vret C E lr_d_Node_carryOut_87
  · have h := lr_ps hc3 h
    refine lr_aload_n (pc := 14) C lr_d_Node_carryOut_14 rfl 3 rfl ?_
    refine lr_bipush (pc := 15) (v := 8) C lr_d_Node_carryOut_15 (by decide) ?_
    refine lr_aload_n (pc := 17) C lr_d_Node_carryOut_17 rfl 1 rfl ?_
    refine lr_g2_9 (pc := 18) C lr_d_Node_carryOut_18 ?_
    refine lr_aload_n (pc := 21) C lr_d_Node_carryOut_21 rfl 2 rfl ?_
    refine lr_g2_181 (pc := 22) C lr_d_Node_carryOut_22 ?_
    refine lr_aload_n (pc := 25) C lr_d_Node_carryOut_25 rfl 2 rfl ?_
    refine lr_g2_167 (pc := 26) C lr_d_Node_carryOut_26 ?_
    refine lr_aload_n (pc := 29) C lr_d_Node_carryOut_29 rfl 2 rfl ?_
    refine lr_g2_184 (pc := 30) C lr_d_Node_carryOut_30 ?_
    refine lr_iconst (pc := 33) (v := 0) C lr_d_Node_carryOut_33 (by decide) ?_
    obtain ⟨u9, hu10, h⟩ := lr_bd h
    refine lr_callVv (pc := 34) (as := [.inl (8 : Int32), .inl (lr_rd u1.2 5 n 0), .inl (lr_rd u1.2 3 a1 1), .inl (lr_rd u1.2 3 a1 3), .inl (lr_rd u1.2 3 a1 4), .inl (0 : Int32)]) (st := []) (fs := fun ad => lr_fs0 u1.2 a2 ad) C (lr_r_Message_write hu10) lr_c2_218 lr_d_Node_carryOut_34 rfl rfl (fun _ _ => rfl) (ci := 0) rfl rfl ⟨by decide, by decide⟩ (Nat.le_of_ble_eq_true rfl) ?_
    have e := Option.some.inj h
    subst e
    exact lr_vret C E lr_d_Node_carryOut_37
def lr_G_Node_receiveCall (n : Nat) (a1 : Nat) (t : lr_S) : Option (Int32 × lr_S) := if lr_in (lr_rd t 3 a1 1) 4 = true then (if (lr_rd t 3 (33 + 4 * n + (lr_rd t 3 a1 1).toNatClampNeg) 4) ≤ (lr_rd t 3 a1 4) then (if (lr_rd t 3 a1 4) ≤ (lr_rd t 3 (33 + 4 * n + (lr_rd t 3 a1 1).toNatClampNeg) 4) then ((lr_G_Network_sendAgain (33 + 4 * n + (lr_rd t 3 a1 1).toNatClampNeg) t).bind fun u4 => (some ((1 : Int32), u4))) else ((lr_G_Node_carryOut n a1 (33 + 4 * n + (lr_rd t 3 a1 1).toNatClampNeg) t).bind fun u6 => ((lr_G_Network_sendAgain (33 + 4 * n + (lr_rd t 3 a1 1).toNatClampNeg) u6).bind fun u8 => (some ((1 : Int32), u8))))) else (some ((0 : Int32), t))) else none
set_option maxHeartbeats 4000000 in
theorem lr_r_Node_receiveCall {n : Nat} {a1 : Nat} {t : lr_S} {o : Int32 × lr_S} (h : lr_G_Node_receiveCall n a1 t = some o) : lr_RI 0 20 lr_m_Node_receiveCall [.inr (5, n), .inr (3, a1)] t o.1 o.2 := by
  refine lr_ofI (ty := .boolean) (own := lr_R2) (by decide) rfl rfl (Nat.le_of_ble_eq_true rfl) (fun X C E => ?_)
  show lr_T X 0 [(0, .inr (5, n)), (1, .inr (3, a1))] [] t
  have h := (show (if lr_in (lr_rd t 3 a1 1) 4 = true then (if (lr_rd t 3 (33 + 4 * n + (lr_rd t 3 a1 1).toNatClampNeg) 4) ≤ (lr_rd t 3 a1 4) then (if (lr_rd t 3 a1 4) ≤ (lr_rd t 3 (33 + 4 * n + (lr_rd t 3 a1 1).toNatClampNeg) 4) then ((lr_G_Network_sendAgain (33 + 4 * n + (lr_rd t 3 a1 1).toNatClampNeg) t).bind fun u4 => (some ((1 : Int32), u4))) else ((lr_G_Node_carryOut n a1 (33 + 4 * n + (lr_rd t 3 a1 1).toNatClampNeg) t).bind fun u6 => ((lr_G_Network_sendAgain (33 + 4 * n + (lr_rd t 3 a1 1).toNatClampNeg) u6).bind fun u8 => (some ((1 : Int32), u8))))) else (some ((0 : Int32), t))) else none) = some o from h)
  refine lr_aload_n (pc := 0) C lr_d_Node_receiveCall_0 rfl 0 rfl ?_
  refine lr_g2_49 (pc := 1) C lr_d_Node_receiveCall_1 ?_
  refine lr_aload_n (pc := 4) C lr_d_Node_receiveCall_4 rfl 1 rfl ?_
  refine lr_g2_181 (pc := 5) C lr_d_Node_receiveCall_5 ?_
  obtain ⟨hb1, h⟩ := lr_gd h
  refine lr_a15 (pc := 8) C lr_d_Node_receiveCall_8 hb1 ?_
  refine lr_astore_n (pc := 9) (ls' := [(2, .inr (3, (33 + 4 * n + (lr_rd t 3 a1 1).toNatClampNeg))), (0, .inr (5, n)), (1, .inr (3, a1))]) C lr_d_Node_receiveCall_9 rfl (by decide) rfl ?_
  refine lr_aload_n (pc := 10) C lr_d_Node_receiveCall_10 rfl 2 rfl ?_
  refine lr_g2_184 (pc := 11) C lr_d_Node_receiveCall_11 ?_
  refine lr_aload_n (pc := 14) C lr_d_Node_receiveCall_14 rfl 0 rfl ?_
  refine lr_g2_184 (pc := 15) C lr_d_Node_receiveCall_15 ?_
  refine lr_icmp_ge (pc := 18) (tgt := 23) C lr_d_Node_receiveCall_18 (by decide) (fun hc2 => ?_) (fun hc2 => ?_)
  · have h := lr_ps hc2 h
    refine lr_aload_n (pc := 23) C lr_d_Node_receiveCall_23 rfl 2 rfl ?_
    refine lr_g2_184 (pc := 24) C lr_d_Node_receiveCall_24 ?_
    refine lr_aload_n (pc := 27) C lr_d_Node_receiveCall_27 rfl 0 rfl ?_
    refine lr_g2_184 (pc := 28) C lr_d_Node_receiveCall_28 ?_
    refine lr_icmp_le (pc := 31) (tgt := 40) C lr_d_Node_receiveCall_31 (by decide) (fun hc3 => ?_) (fun hc3 => ?_)
    · have h := lr_ps hc3 h
      refine lr_aload_n (pc := 40) C lr_d_Node_receiveCall_40 rfl 1 rfl ?_
      refine lr_g2_15 (pc := 41) C lr_d_Node_receiveCall_41 ?_
      refine lr_aload_n (pc := 44) C lr_d_Node_receiveCall_44 rfl 0 rfl ?_
      obtain ⟨u4, hu5, h⟩ := lr_bd h
      refine lr_callVv (pc := 45) (as := [.inr (3, (33 + 4 * n + (lr_rd t 3 a1 1).toNatClampNeg))]) (st := []) (fs := fun ad => lr_fs1 t 0 ad) C (lr_r_Network_sendAgain hu5) lr_c2_215 lr_d_Node_receiveCall_45 rfl rfl (fun _ _ => rfl) (ci := 1) rfl rfl ⟨by decide, by decide⟩ (Nat.le_of_ble_eq_true rfl) ?_
      refine lr_iconst (pc := 48) (v := 1) C lr_d_Node_receiveCall_48 (by decide) ?_
      have e := Option.some.inj h
      subst e
      exact lr_iret C E lr_d_Node_receiveCall_49 (by decide)
    · have h := lr_ng hc3 h
      refine lr_aload_n (pc := 34) C lr_d_Node_receiveCall_34 rfl 1 rfl ?_
      refine lr_aload_n (pc := 35) C lr_d_Node_receiveCall_35 rfl 2 rfl ?_
      refine lr_aload_n (pc := 36) C lr_d_Node_receiveCall_36 rfl 0 rfl ?_
      obtain ⟨u6, hu7, h⟩ := lr_bd h
      refine lr_callVv (pc := 37) (as := [.inr (3, a1), .inr (3, (33 + 4 * n + (lr_rd t 3 a1 1).toNatClampNeg))]) (st := []) (fs := fun ad => lr_fs2 t n ad) C (lr_r_Node_carryOut hu7) lr_c2_211 lr_d_Node_receiveCall_37 rfl rfl (fun _ _ => rfl) (ci := 2) rfl rfl ⟨by decide, by decide⟩ (Nat.le_of_ble_eq_true rfl) ?_
      refine lr_aload_n (pc := 40) C lr_d_Node_receiveCall_40 rfl 1 rfl ?_
      refine lr_g2_15 (pc := 41) C lr_d_Node_receiveCall_41 ?_
      refine lr_aload_n (pc := 44) C lr_d_Node_receiveCall_44 rfl 0 rfl ?_
      obtain ⟨u8, hu9, h⟩ := lr_bd h
      refine lr_callVv (pc := 45) (as := [.inr (3, (33 + 4 * n + (lr_rd t 3 a1 1).toNatClampNeg))]) (st := []) (fs := fun ad => lr_fs1 u6 0 ad) C (lr_r_Network_sendAgain hu9) lr_c2_215 lr_d_Node_receiveCall_45 rfl rfl (fun _ _ => rfl) (ci := 1) rfl rfl ⟨by decide, by decide⟩ (Nat.le_of_ble_eq_true rfl) ?_
      refine lr_iconst (pc := 48) (v := 1) C lr_d_Node_receiveCall_48 (by decide) ?_
      have e := Option.some.inj h
      subst e
      exact lr_iret C E lr_d_Node_receiveCall_49 (by decide)
  · have h := lr_ng hc2 h
    refine lr_iconst (pc := 21) (v := 0) C lr_d_Node_receiveCall_21 (by decide) ?_
    have e := Option.some.inj h
    subst e
    exact lr_iret C E lr_d_Node_receiveCall_22 (by decide)
def lr_G_Node_receiveReply (n : Nat) (a1 : Nat) (t : lr_S) : Option (Int32 × lr_S) := if (lr_rd t 14 n 0) = (1 : Int32) then (if (lr_rd t 14 n 1) = (lr_rd t 3 a1 4) then (if (lr_rd t 3 a1 0) = (7 : Int32) then (some ((1 : Int32), (lr_wr (lr_wr t 14 n 0 (2 : Int32)) 14 n 5 (lr_rd (lr_wr t 14 n 0 (2 : Int32)) 3 a1 5)))) else (some ((1 : Int32), (lr_wr t 14 n 0 (3 : Int32))))) else (some ((0 : Int32), t))) else (some ((0 : Int32), t))
set_option maxHeartbeats 4000000 in
theorem lr_r_Node_receiveReply {n : Nat} {a1 : Nat} {t : lr_S} {o : Int32 × lr_S} (h : lr_G_Node_receiveReply n a1 t = some o) : lr_RI 0 20 lr_m_Node_receiveReply [.inr (5, n), .inr (3, a1)] t o.1 o.2 := by
  refine lr_ofI (ty := .boolean) (own := lr_R2) (by decide) rfl rfl (Nat.le_of_ble_eq_true rfl) (fun X C E => ?_)
  show lr_T X 0 [(0, .inr (5, n)), (1, .inr (3, a1))] [] t
  have h := (show (if (lr_rd t 14 n 0) = (1 : Int32) then (if (lr_rd t 14 n 1) = (lr_rd t 3 a1 4) then (if (lr_rd t 3 a1 0) = (7 : Int32) then (some ((1 : Int32), (lr_wr (lr_wr t 14 n 0 (2 : Int32)) 14 n 5 (lr_rd (lr_wr t 14 n 0 (2 : Int32)) 3 a1 5)))) else (some ((1 : Int32), (lr_wr t 14 n 0 (3 : Int32))))) else (some ((0 : Int32), t))) else (some ((0 : Int32), t))) = some o from h)
  refine lr_aload_n (pc := 0) C lr_d_Node_receiveReply_0 rfl 0 rfl ?_
  refine lr_g2_40 (pc := 1) C lr_d_Node_receiveReply_1 ?_
  refine lr_g2_44 (pc := 4) C lr_d_Node_receiveReply_4 ?_
  refine lr_iconst (pc := 7) (v := 1) C lr_d_Node_receiveReply_7 (by decide) ?_
  refine lr_icmp_ne (pc := 8) (tgt := 25) C lr_d_Node_receiveReply_8 (by decide) (fun hc1 => ?_) (fun hc1 => ?_)
  · have h := lr_ng hc1 h
    refine lr_iconst (pc := 25) (v := 0) C lr_d_Node_receiveReply_25 (by decide) ?_
    have e := Option.some.inj h
    subst e
    exact lr_iret C E lr_d_Node_receiveReply_26 (by decide)
  · have h := lr_ps hc1 h
    refine lr_aload_n (pc := 11) C lr_d_Node_receiveReply_11 rfl 0 rfl ?_
    refine lr_g2_40 (pc := 12) C lr_d_Node_receiveReply_12 ?_
    refine lr_g2_101 (pc := 15) C lr_d_Node_receiveReply_15 ?_
    refine lr_aload_n (pc := 18) C lr_d_Node_receiveReply_18 rfl 1 rfl ?_
    refine lr_g2_184 (pc := 19) C lr_d_Node_receiveReply_19 ?_
    refine lr_icmp_eq (pc := 22) (tgt := 27) C lr_d_Node_receiveReply_22 (by decide) (fun hc2 => ?_) (fun hc2 => ?_)
    · have h := lr_ps hc2 h
      refine lr_aload_n (pc := 27) C lr_d_Node_receiveReply_27 rfl 1 rfl ?_
      refine lr_g2_139 (pc := 28) C lr_d_Node_receiveReply_28 ?_
      refine lr_bipush (pc := 31) (v := 7) C lr_d_Node_receiveReply_31 (by decide) ?_
      refine lr_icmp_ne (pc := 33) (tgt := 58) C lr_d_Node_receiveReply_33 (by decide) (fun hc3 => ?_) (fun hc3 => ?_)
      · have h := lr_ng hc3 h
        refine lr_aload_n (pc := 58) C lr_d_Node_receiveReply_58 rfl 0 rfl ?_
        refine lr_g2_40 (pc := 59) C lr_d_Node_receiveReply_59 ?_
        refine lr_iconst (pc := 62) (v := 3) C lr_d_Node_receiveReply_62 (by decide) ?_
        refine lr_p2_44 (pc := 63) C lr_d_Node_receiveReply_63 ?_
        refine lr_iconst (pc := 66) (v := 1) C lr_d_Node_receiveReply_66 (by decide) ?_
        have e := Option.some.inj h
        subst e
        exact lr_iret C E lr_d_Node_receiveReply_67 (by decide)
      · have h := lr_ps hc3 h
        refine lr_aload_n (pc := 36) C lr_d_Node_receiveReply_36 rfl 0 rfl ?_
        refine lr_g2_40 (pc := 37) C lr_d_Node_receiveReply_37 ?_
        refine lr_iconst (pc := 40) (v := 2) C lr_d_Node_receiveReply_40 (by decide) ?_
        refine lr_p2_44 (pc := 41) C lr_d_Node_receiveReply_41 ?_
        refine lr_aload_n (pc := 44) C lr_d_Node_receiveReply_44 rfl 0 rfl ?_
        refine lr_g2_40 (pc := 45) C lr_d_Node_receiveReply_45 ?_
        refine lr_aload_n (pc := 48) C lr_d_Node_receiveReply_48 rfl 1 rfl ?_
        refine lr_g2_171 (pc := 49) C lr_d_Node_receiveReply_49 ?_
        refine lr_p2_224 (pc := 52) C lr_d_Node_receiveReply_52 ?_
        refine lr_goto (pc := 55) (tgt := 66) C lr_d_Node_receiveReply_55 (by decide) ?_
        refine lr_iconst (pc := 66) (v := 1) C lr_d_Node_receiveReply_66 (by decide) ?_
        have e := Option.some.inj h
        subst e
        exact lr_iret C E lr_d_Node_receiveReply_67 (by decide)
    · have h := lr_ng hc2 h
      refine lr_iconst (pc := 25) (v := 0) C lr_d_Node_receiveReply_25 (by decide) ?_
      have e := Option.some.inj h
      subst e
      exact lr_iret C E lr_d_Node_receiveReply_26 (by decide)
def lr_G_Node_receive (n : Nat) (a1 : Nat) (t : lr_S) : Option (Int32 × lr_S) := if (lr_rd t 5 n 9) = 0 then (if (lr_rd t 3 a1 0) = (0 : Int32) then ((lr_G_Node_receivePass n a1 t).bind fun u3 => (if u3.1 = 0 ∨ u3.1 = 1 then some (u3.1, u3.2) else none)) else (if (lr_rd t 3 a1 0) = (1 : Int32) then ((lr_G_Node_receiveTaken n a1 t).bind fun u7 => (if u7.1 = 0 ∨ u7.1 = 1 then some (u7.1, u7.2) else none)) else (if (lr_rd t 3 a1 0) = (2 : Int32) then ((lr_G_Node_receiveDirty n a1 t).bind fun u11 => (if u11.1 = 0 ∨ u11.1 = 1 then some (u11.1, u11.2) else none)) else (if (lr_rd t 3 a1 0) = (3 : Int32) then ((lr_G_Node_receiveListed n a1 t).bind fun u15 => (if u15.1 = 0 ∨ u15.1 = 1 then some (u15.1, u15.2) else none)) else (if (lr_rd t 3 a1 0) = (4 : Int32) then ((lr_G_Node_receiveGone n a1 t).bind fun u19 => (if u19.1 = 0 ∨ u19.1 = 1 then some (u19.1, u19.2) else none)) else (if (lr_rd t 3 a1 0) = (5 : Int32) then ((lr_G_Node_receiveClean n a1 t).bind fun u23 => (if u23.1 = 0 ∨ u23.1 = 1 then some (u23.1, u23.2) else none)) else (if (lr_rd t 3 a1 0) = (6 : Int32) then ((lr_G_Node_receiveCall n a1 t).bind fun u27 => (if u27.1 = 0 ∨ u27.1 = 1 then some (u27.1, u27.2) else none)) else (if (lr_rd t 3 a1 0) = (7 : Int32) then ((lr_G_Node_receiveReply n a1 t).bind fun u31 => (if u31.1 = 0 ∨ u31.1 = 1 then some (u31.1, u31.2) else none)) else (if (lr_rd t 3 a1 0) = (8 : Int32) then ((lr_G_Node_receiveReply n a1 t).bind fun u35 => (if u35.1 = 0 ∨ u35.1 = 1 then some (u35.1, u35.2) else none)) else (some ((0 : Int32), t))))))))))) else (some ((0 : Int32), t))
set_option maxHeartbeats 4000000 in
theorem lr_r_Node_receive {n : Nat} {a1 : Nat} {t : lr_S} {o : Int32 × lr_S} (h : lr_G_Node_receive n a1 t = some o) : lr_RI 0 20 lr_m_Node_receive [.inr (5, n), .inr (3, a1)] t o.1 o.2 := by
  refine lr_ofI (ty := .boolean) (own := lr_R2) (by decide) rfl rfl (Nat.le_of_ble_eq_true rfl) (fun X C E => ?_)
  show lr_T X 0 [(0, .inr (5, n)), (1, .inr (3, a1))] [] t
  have h := (show (if (lr_rd t 5 n 9) = 0 then (if (lr_rd t 3 a1 0) = (0 : Int32) then ((lr_G_Node_receivePass n a1 t).bind fun u3 => (if u3.1 = 0 ∨ u3.1 = 1 then some (u3.1, u3.2) else none)) else (if (lr_rd t 3 a1 0) = (1 : Int32) then ((lr_G_Node_receiveTaken n a1 t).bind fun u7 => (if u7.1 = 0 ∨ u7.1 = 1 then some (u7.1, u7.2) else none)) else (if (lr_rd t 3 a1 0) = (2 : Int32) then ((lr_G_Node_receiveDirty n a1 t).bind fun u11 => (if u11.1 = 0 ∨ u11.1 = 1 then some (u11.1, u11.2) else none)) else (if (lr_rd t 3 a1 0) = (3 : Int32) then ((lr_G_Node_receiveListed n a1 t).bind fun u15 => (if u15.1 = 0 ∨ u15.1 = 1 then some (u15.1, u15.2) else none)) else (if (lr_rd t 3 a1 0) = (4 : Int32) then ((lr_G_Node_receiveGone n a1 t).bind fun u19 => (if u19.1 = 0 ∨ u19.1 = 1 then some (u19.1, u19.2) else none)) else (if (lr_rd t 3 a1 0) = (5 : Int32) then ((lr_G_Node_receiveClean n a1 t).bind fun u23 => (if u23.1 = 0 ∨ u23.1 = 1 then some (u23.1, u23.2) else none)) else (if (lr_rd t 3 a1 0) = (6 : Int32) then ((lr_G_Node_receiveCall n a1 t).bind fun u27 => (if u27.1 = 0 ∨ u27.1 = 1 then some (u27.1, u27.2) else none)) else (if (lr_rd t 3 a1 0) = (7 : Int32) then ((lr_G_Node_receiveReply n a1 t).bind fun u31 => (if u31.1 = 0 ∨ u31.1 = 1 then some (u31.1, u31.2) else none)) else (if (lr_rd t 3 a1 0) = (8 : Int32) then ((lr_G_Node_receiveReply n a1 t).bind fun u35 => (if u35.1 = 0 ∨ u35.1 = 1 then some (u35.1, u35.2) else none)) else (some ((0 : Int32), t))))))))))) else (some ((0 : Int32), t))) = some o from h)
  refine lr_aload_n (pc := 0) C lr_d_Node_receive_0 rfl 0 rfl ?_
  refine lr_g2_61 (pc := 1) C lr_d_Node_receive_1 ?_
  refine lr_if_eq (pc := 4) (tgt := 9) C lr_d_Node_receive_4 (by decide) (fun hc1 => ?_) (fun hc1 => ?_)
  · have h := lr_ps hc1 h
    refine lr_aload_n (pc := 9) C lr_d_Node_receive_9 rfl 1 rfl ?_
    refine lr_g2_139 (pc := 10) C lr_d_Node_receive_10 ?_
    by_cases hc2 : (lr_rd t 3 a1 0) = (0 : Int32)
    · have h := lr_ps hc2 h
      refine lr_tabIn (off := 51) (tgt := 64) C lr_d_Node_receive_13 0 (by rw [hc2]; decide) (by decide) (by decide) ?_
      refine lr_aload_n (pc := 64) C lr_d_Node_receive_64 rfl 0 rfl ?_
      refine lr_aload_n (pc := 65) C lr_d_Node_receive_65 rfl 1 rfl ?_
      obtain ⟨u3, hu4, h⟩ := lr_bd h
      refine lr_callVi (pc := 66) (as := [.inr (3, a1)]) (st := []) (fs := fun ad => lr_fs2 t n ad) C (lr_r_Node_receivePass hu4) lr_c2_142 lr_d_Node_receive_66 rfl rfl (fun _ _ => rfl) (ci := 2) rfl rfl ⟨by decide, by decide⟩ (Nat.le_of_ble_eq_true rfl) ?_
      obtain ⟨hz5, h⟩ := lr_gd h
      have e := Option.some.inj h
      subst e
      exact lr_iret C E lr_d_Node_receive_69 (lr_nz hz5)
    have h := lr_ng hc2 h
    by_cases hc6 : (lr_rd t 3 a1 0) = (1 : Int32)
    · have h := lr_ps hc6 h
      refine lr_tabIn (off := 57) (tgt := 70) C lr_d_Node_receive_13 1 (by rw [hc6]; decide) (by decide) (by decide) ?_
      refine lr_aload_n (pc := 70) C lr_d_Node_receive_70 rfl 0 rfl ?_
      refine lr_aload_n (pc := 71) C lr_d_Node_receive_71 rfl 1 rfl ?_
      obtain ⟨u7, hu8, h⟩ := lr_bd h
      refine lr_callVi (pc := 72) (as := [.inr (3, a1)]) (st := []) (fs := fun ad => lr_fs2 t n ad) C (lr_r_Node_receiveTaken hu8) lr_c2_146 lr_d_Node_receive_72 rfl rfl (fun _ _ => rfl) (ci := 2) rfl rfl ⟨by decide, by decide⟩ (Nat.le_of_ble_eq_true rfl) ?_
      obtain ⟨hz9, h⟩ := lr_gd h
      have e := Option.some.inj h
      subst e
      exact lr_iret C E lr_d_Node_receive_75 (lr_nz hz9)
    have h := lr_ng hc6 h
    by_cases hc10 : (lr_rd t 3 a1 0) = (2 : Int32)
    · have h := lr_ps hc10 h
      refine lr_tabIn (off := 63) (tgt := 76) C lr_d_Node_receive_13 2 (by rw [hc10]; decide) (by decide) (by decide) ?_
      refine lr_aload_n (pc := 76) C lr_d_Node_receive_76 rfl 0 rfl ?_
      refine lr_aload_n (pc := 77) C lr_d_Node_receive_77 rfl 1 rfl ?_
      obtain ⟨u11, hu12, h⟩ := lr_bd h
      refine lr_callVi (pc := 78) (as := [.inr (3, a1)]) (st := []) (fs := fun ad => lr_fs2 t n ad) C (lr_r_Node_receiveDirty hu12) lr_c2_149 lr_d_Node_receive_78 rfl rfl (fun _ _ => rfl) (ci := 2) rfl rfl ⟨by decide, by decide⟩ (Nat.le_of_ble_eq_true rfl) ?_
      obtain ⟨hz13, h⟩ := lr_gd h
      have e := Option.some.inj h
      subst e
      exact lr_iret C E lr_d_Node_receive_81 (lr_nz hz13)
    have h := lr_ng hc10 h
    by_cases hc14 : (lr_rd t 3 a1 0) = (3 : Int32)
    · have h := lr_ps hc14 h
      refine lr_tabIn (off := 69) (tgt := 82) C lr_d_Node_receive_13 3 (by rw [hc14]; decide) (by decide) (by decide) ?_
      refine lr_aload_n (pc := 82) C lr_d_Node_receive_82 rfl 0 rfl ?_
      refine lr_aload_n (pc := 83) C lr_d_Node_receive_83 rfl 1 rfl ?_
      obtain ⟨u15, hu16, h⟩ := lr_bd h
      refine lr_callVi (pc := 84) (as := [.inr (3, a1)]) (st := []) (fs := fun ad => lr_fs2 t n ad) C (lr_r_Node_receiveListed hu16) lr_c2_152 lr_d_Node_receive_84 rfl rfl (fun _ _ => rfl) (ci := 2) rfl rfl ⟨by decide, by decide⟩ (Nat.le_of_ble_eq_true rfl) ?_
      obtain ⟨hz17, h⟩ := lr_gd h
      have e := Option.some.inj h
      subst e
      exact lr_iret C E lr_d_Node_receive_87 (lr_nz hz17)
    have h := lr_ng hc14 h
    by_cases hc18 : (lr_rd t 3 a1 0) = (4 : Int32)
    · have h := lr_ps hc18 h
      refine lr_tabIn (off := 75) (tgt := 88) C lr_d_Node_receive_13 4 (by rw [hc18]; decide) (by decide) (by decide) ?_
      refine lr_aload_n (pc := 88) C lr_d_Node_receive_88 rfl 0 rfl ?_
      refine lr_aload_n (pc := 89) C lr_d_Node_receive_89 rfl 1 rfl ?_
      obtain ⟨u19, hu20, h⟩ := lr_bd h
      refine lr_callVi (pc := 90) (as := [.inr (3, a1)]) (st := []) (fs := fun ad => lr_fs2 t n ad) C (lr_r_Node_receiveGone hu20) lr_c2_155 lr_d_Node_receive_90 rfl rfl (fun _ _ => rfl) (ci := 2) rfl rfl ⟨by decide, by decide⟩ (Nat.le_of_ble_eq_true rfl) ?_
      obtain ⟨hz21, h⟩ := lr_gd h
      have e := Option.some.inj h
      subst e
      exact lr_iret C E lr_d_Node_receive_93 (lr_nz hz21)
    have h := lr_ng hc18 h
    by_cases hc22 : (lr_rd t 3 a1 0) = (5 : Int32)
    · have h := lr_ps hc22 h
      refine lr_tabIn (off := 81) (tgt := 94) C lr_d_Node_receive_13 5 (by rw [hc22]; decide) (by decide) (by decide) ?_
      refine lr_aload_n (pc := 94) C lr_d_Node_receive_94 rfl 0 rfl ?_
      refine lr_aload_n (pc := 95) C lr_d_Node_receive_95 rfl 1 rfl ?_
      obtain ⟨u23, hu24, h⟩ := lr_bd h
      refine lr_callVi (pc := 96) (as := [.inr (3, a1)]) (st := []) (fs := fun ad => lr_fs2 t n ad) C (lr_r_Node_receiveClean hu24) lr_c2_158 lr_d_Node_receive_96 rfl rfl (fun _ _ => rfl) (ci := 2) rfl rfl ⟨by decide, by decide⟩ (Nat.le_of_ble_eq_true rfl) ?_
      obtain ⟨hz25, h⟩ := lr_gd h
      have e := Option.some.inj h
      subst e
      exact lr_iret C E lr_d_Node_receive_99 (lr_nz hz25)
    have h := lr_ng hc22 h
    by_cases hc26 : (lr_rd t 3 a1 0) = (6 : Int32)
    · have h := lr_ps hc26 h
      refine lr_tabIn (off := 87) (tgt := 100) C lr_d_Node_receive_13 6 (by rw [hc26]; decide) (by decide) (by decide) ?_
      refine lr_aload_n (pc := 100) C lr_d_Node_receive_100 rfl 0 rfl ?_
      refine lr_aload_n (pc := 101) C lr_d_Node_receive_101 rfl 1 rfl ?_
      obtain ⟨u27, hu28, h⟩ := lr_bd h
      refine lr_callVi (pc := 102) (as := [.inr (3, a1)]) (st := []) (fs := fun ad => lr_fs2 t n ad) C (lr_r_Node_receiveCall hu28) lr_c2_161 lr_d_Node_receive_102 rfl rfl (fun _ _ => rfl) (ci := 2) rfl rfl ⟨by decide, by decide⟩ (Nat.le_of_ble_eq_true rfl) ?_
      obtain ⟨hz29, h⟩ := lr_gd h
      have e := Option.some.inj h
      subst e
      exact lr_iret C E lr_d_Node_receive_105 (lr_nz hz29)
    have h := lr_ng hc26 h
    by_cases hc30 : (lr_rd t 3 a1 0) = (7 : Int32)
    · have h := lr_ps hc30 h
      refine lr_tabIn (off := 93) (tgt := 106) C lr_d_Node_receive_13 7 (by rw [hc30]; decide) (by decide) (by decide) ?_
      refine lr_aload_n (pc := 106) C lr_d_Node_receive_106 rfl 0 rfl ?_
      refine lr_aload_n (pc := 107) C lr_d_Node_receive_107 rfl 1 rfl ?_
      obtain ⟨u31, hu32, h⟩ := lr_bd h
      refine lr_callVi (pc := 108) (as := [.inr (3, a1)]) (st := []) (fs := fun ad => lr_fs2 t n ad) C (lr_r_Node_receiveReply hu32) lr_c2_164 lr_d_Node_receive_108 rfl rfl (fun _ _ => rfl) (ci := 2) rfl rfl ⟨by decide, by decide⟩ (Nat.le_of_ble_eq_true rfl) ?_
      obtain ⟨hz33, h⟩ := lr_gd h
      have e := Option.some.inj h
      subst e
      exact lr_iret C E lr_d_Node_receive_111 (lr_nz hz33)
    have h := lr_ng hc30 h
    by_cases hc34 : (lr_rd t 3 a1 0) = (8 : Int32)
    · have h := lr_ps hc34 h
      refine lr_tabIn (off := 99) (tgt := 112) C lr_d_Node_receive_13 8 (by rw [hc34]; decide) (by decide) (by decide) ?_
      refine lr_aload_n (pc := 112) C lr_d_Node_receive_112 rfl 0 rfl ?_
      refine lr_aload_n (pc := 113) C lr_d_Node_receive_113 rfl 1 rfl ?_
      obtain ⟨u35, hu36, h⟩ := lr_bd h
      refine lr_callVi (pc := 114) (as := [.inr (3, a1)]) (st := []) (fs := fun ad => lr_fs2 t n ad) C (lr_r_Node_receiveReply hu36) lr_c2_164 lr_d_Node_receive_114 rfl rfl (fun _ _ => rfl) (ci := 2) rfl rfl ⟨by decide, by decide⟩ (Nat.le_of_ble_eq_true rfl) ?_
      obtain ⟨hz37, h⟩ := lr_gd h
      have e := Option.some.inj h
      subst e
      exact lr_iret C E lr_d_Node_receive_117 (lr_nz hz37)
    have h := lr_ng hc34 h
    refine lr_tabOut (tgt := 118) C lr_d_Node_receive_13 (lr_tout (fun v h1 h2 h3 => by rcases (show v = 0 ∨ v = 1 ∨ v = 2 ∨ v = 3 ∨ v = 4 ∨ v = 5 ∨ v = 6 ∨ v = 7 ∨ v = 8 by omega) with rfl | rfl | rfl | rfl | rfl | rfl | rfl | rfl | rfl <;> first | exact hc2 (Int32.toInt_inj.mp (h3.trans (by decide))) | exact hc6 (Int32.toInt_inj.mp (h3.trans (by decide))) | exact hc10 (Int32.toInt_inj.mp (h3.trans (by decide))) | exact hc14 (Int32.toInt_inj.mp (h3.trans (by decide))) | exact hc18 (Int32.toInt_inj.mp (h3.trans (by decide))) | exact hc22 (Int32.toInt_inj.mp (h3.trans (by decide))) | exact hc26 (Int32.toInt_inj.mp (h3.trans (by decide))) | exact hc30 (Int32.toInt_inj.mp (h3.trans (by decide))) | exact hc34 (Int32.toInt_inj.mp (h3.trans (by decide))))) (by decide) ?_
    refine lr_iconst (pc := 118) (v := 0) C lr_d_Node_receive_118 (by decide) ?_
    have e := Option.some.inj h
    subst e
    exact lr_iret C E lr_d_Node_receive_119 (by decide)
  · have h := lr_ng hc1 h
    refine lr_iconst (pc := 7) (v := 0) C lr_d_Node_receive_7 (by decide) ?_
    have e := Option.some.inj h
    subst e
    exact lr_iret C E lr_d_Node_receive_8 (by decide)
