def lr_G_M_copy (a1 : Int32) (t : lr_S) : Option (Int32 × lr_S) := (lr_G_M_within a1 (lr_rd t 20 0 19) t).bind fun u1 => (if u1.1 = 0 then (some ((0 : Int32), u1.2)) else (if (lr_rd u1.2 20 0 19) = (32 : Int32) then (some ((0 : Int32), u1.2)) else (if lr_in (((6 : Int32) * a1) + (0 : Int32)) 192 = true then (if lr_in (((6 : Int32) * (lr_rd u1.2 20 0 19)) + (0 : Int32)) 192 = true then ((some (lr_wr u1.2 38 0 (((6 : Int32) * (lr_rd u1.2 20 0 19)) + (0 : Int32)).toNatClampNeg (lr_rd u1.2 38 0 (((6 : Int32) * a1) + (0 : Int32)).toNatClampNeg))).bind fun t7 => (if lr_in (((6 : Int32) * a1) + (1 : Int32)) 192 = true then (if lr_in (((6 : Int32) * (lr_rd t7 20 0 19)) + (1 : Int32)) 192 = true then ((some (lr_wr t7 38 0 (((6 : Int32) * (lr_rd t7 20 0 19)) + (1 : Int32)).toNatClampNeg (lr_rd t7 38 0 (((6 : Int32) * a1) + (1 : Int32)).toNatClampNeg))).bind fun t11 => (if lr_in (((6 : Int32) * a1) + (2 : Int32)) 192 = true then (if lr_in (((6 : Int32) * (lr_rd t11 20 0 19)) + (2 : Int32)) 192 = true then ((some (lr_wr t11 38 0 (((6 : Int32) * (lr_rd t11 20 0 19)) + (2 : Int32)).toNatClampNeg (lr_rd t11 38 0 (((6 : Int32) * a1) + (2 : Int32)).toNatClampNeg))).bind fun t15 => (if lr_in (((6 : Int32) * a1) + (3 : Int32)) 192 = true then (if lr_in (((6 : Int32) * (lr_rd t15 20 0 19)) + (3 : Int32)) 192 = true then ((some (lr_wr t15 38 0 (((6 : Int32) * (lr_rd t15 20 0 19)) + (3 : Int32)).toNatClampNeg (lr_rd t15 38 0 (((6 : Int32) * a1) + (3 : Int32)).toNatClampNeg))).bind fun t19 => (if lr_in (((6 : Int32) * a1) + (4 : Int32)) 192 = true then (if lr_in (((6 : Int32) * (lr_rd t19 20 0 19)) + (4 : Int32)) 192 = true then ((some (lr_wr t19 38 0 (((6 : Int32) * (lr_rd t19 20 0 19)) + (4 : Int32)).toNatClampNeg (lr_rd t19 38 0 (((6 : Int32) * a1) + (4 : Int32)).toNatClampNeg))).bind fun t23 => (if lr_in (((6 : Int32) * a1) + (5 : Int32)) 192 = true then (if lr_in (((6 : Int32) * (lr_rd t23 20 0 19)) + (5 : Int32)) 192 = true then ((some (lr_wr t23 38 0 (((6 : Int32) * (lr_rd t23 20 0 19)) + (5 : Int32)).toNatClampNeg (lr_rd t23 38 0 (((6 : Int32) * a1) + (5 : Int32)).toNatClampNeg))).bind fun t27 => (some ((1 : Int32), (lr_wr t27 20 0 19 ((lr_rd t27 20 0 19) + (1 : Int32)))))) else none) else none)) else none) else none)) else none) else none)) else none) else none)) else none) else none)) else none) else none)))
set_option maxHeartbeats 4000000 in
theorem lr_r_M_copy {a1 : Int32} {t : lr_S} {o : Int32 × lr_S} (h : lr_G_M_copy a1 t = some o) : lr_RI 20 60 lr_m_M_copy [.inr (20, 0), .inl a1] t o.1 o.2 := by
  refine lr_ofI (ty := .boolean) (own := lr_R7) (by decide) rfl rfl (Nat.le_of_ble_eq_true rfl) (fun X C E => ?_)
  show lr_T X 0 [(0, .inr (20, 0)), (1, .inl a1)] [] t
  have h := (show ((lr_G_M_within a1 (lr_rd t 20 0 19) t).bind fun u1 => (if u1.1 = 0 then (some ((0 : Int32), u1.2)) else (if (lr_rd u1.2 20 0 19) = (32 : Int32) then (some ((0 : Int32), u1.2)) else (if lr_in (((6 : Int32) * a1) + (0 : Int32)) 192 = true then (if lr_in (((6 : Int32) * (lr_rd u1.2 20 0 19)) + (0 : Int32)) 192 = true then ((some (lr_wr u1.2 38 0 (((6 : Int32) * (lr_rd u1.2 20 0 19)) + (0 : Int32)).toNatClampNeg (lr_rd u1.2 38 0 (((6 : Int32) * a1) + (0 : Int32)).toNatClampNeg))).bind fun t7 => (if lr_in (((6 : Int32) * a1) + (1 : Int32)) 192 = true then (if lr_in (((6 : Int32) * (lr_rd t7 20 0 19)) + (1 : Int32)) 192 = true then ((some (lr_wr t7 38 0 (((6 : Int32) * (lr_rd t7 20 0 19)) + (1 : Int32)).toNatClampNeg (lr_rd t7 38 0 (((6 : Int32) * a1) + (1 : Int32)).toNatClampNeg))).bind fun t11 => (if lr_in (((6 : Int32) * a1) + (2 : Int32)) 192 = true then (if lr_in (((6 : Int32) * (lr_rd t11 20 0 19)) + (2 : Int32)) 192 = true then ((some (lr_wr t11 38 0 (((6 : Int32) * (lr_rd t11 20 0 19)) + (2 : Int32)).toNatClampNeg (lr_rd t11 38 0 (((6 : Int32) * a1) + (2 : Int32)).toNatClampNeg))).bind fun t15 => (if lr_in (((6 : Int32) * a1) + (3 : Int32)) 192 = true then (if lr_in (((6 : Int32) * (lr_rd t15 20 0 19)) + (3 : Int32)) 192 = true then ((some (lr_wr t15 38 0 (((6 : Int32) * (lr_rd t15 20 0 19)) + (3 : Int32)).toNatClampNeg (lr_rd t15 38 0 (((6 : Int32) * a1) + (3 : Int32)).toNatClampNeg))).bind fun t19 => (if lr_in (((6 : Int32) * a1) + (4 : Int32)) 192 = true then (if lr_in (((6 : Int32) * (lr_rd t19 20 0 19)) + (4 : Int32)) 192 = true then ((some (lr_wr t19 38 0 (((6 : Int32) * (lr_rd t19 20 0 19)) + (4 : Int32)).toNatClampNeg (lr_rd t19 38 0 (((6 : Int32) * a1) + (4 : Int32)).toNatClampNeg))).bind fun t23 => (if lr_in (((6 : Int32) * a1) + (5 : Int32)) 192 = true then (if lr_in (((6 : Int32) * (lr_rd t23 20 0 19)) + (5 : Int32)) 192 = true then ((some (lr_wr t23 38 0 (((6 : Int32) * (lr_rd t23 20 0 19)) + (5 : Int32)).toNatClampNeg (lr_rd t23 38 0 (((6 : Int32) * a1) + (5 : Int32)).toNatClampNeg))).bind fun t27 => (some ((1 : Int32), (lr_wr t27 20 0 19 ((lr_rd t27 20 0 19) + (1 : Int32)))))) else none) else none)) else none) else none)) else none) else none)) else none) else none)) else none) else none)) else none) else none)))) = some o from h)
  refine lr_iload_n (pc := 0) C lr_d_M_copy_0 rfl 1 rfl ?_
  refine lr_aload_n (pc := 1) C lr_d_M_copy_1 rfl 0 rfl ?_
  refine lr_g7_111 (pc := 2) C lr_d_M_copy_2 ?_
  obtain ⟨u1, hu2, h⟩ := lr_bd h
  refine lr_callSi (pc := 5) (as := [.inl a1, .inl (lr_rd t 20 0 19)]) (st := []) C (lr_r_M_within hu2) lr_c7_107 lr_d_M_copy_5 rfl rfl ⟨by decide, by decide⟩ (Nat.le_of_ble_eq_true rfl) ?_
  refine lr_if_eq (pc := 8) (tgt := 20) C lr_d_M_copy_8 (by decide) (fun hc3 => ?_) (fun hc3 => ?_)
  · have h := lr_ps hc3 h
    refine lr_iconst (pc := 20) (v := 0) C lr_d_M_copy_20 (by decide) ?_
    have e := Option.some.inj h
    subst e
    exact lr_iret C E lr_d_M_copy_21 (by decide)
  · have h := lr_ng hc3 h
    refine lr_aload_n (pc := 11) C lr_d_M_copy_11 rfl 0 rfl ?_
    refine lr_g7_111 (pc := 12) C lr_d_M_copy_12 ?_
    refine lr_bipush (pc := 15) (v := 32) C lr_d_M_copy_15 (by decide) ?_
    refine lr_icmp_ne (pc := 17) (tgt := 22) C lr_d_M_copy_17 (by decide) (fun hc4 => ?_) (fun hc4 => ?_)
    · have h := lr_ng hc4 h
      refine lr_iconst (pc := 22) (v := 0) C lr_d_M_copy_22 (by decide) ?_
      refine lr_istore_n (pc := 23) (ls' := [(2, .inl (0 : Int32)), (0, .inr (20, 0)), (1, .inl a1)]) C lr_d_M_copy_23 rfl (by decide) rfl ?_
      refine lr_iload_n (pc := 24) C lr_d_M_copy_24 rfl 0 rfl ?_
      refine lr_bipush (pc := 25) (v := 6) C lr_d_M_copy_25 (by decide) ?_
      refine lr_icmp_ge (pc := 27) (tgt := 61) C lr_d_M_copy_27 (by decide) (fun hc => absurd hc (by decide)) (fun _ => ?_)
      refine lr_aload_n (pc := 30) C lr_d_M_copy_30 rfl 1 rfl ?_
      refine lr_g7_59 (pc := 31) C lr_d_M_copy_31 ?_
      refine lr_bipush (pc := 34) (v := 6) C lr_d_M_copy_34 (by decide) ?_
      refine lr_aload_n (pc := 36) C lr_d_M_copy_36 rfl 1 rfl ?_
      refine lr_g7_111 (pc := 37) C lr_d_M_copy_37 ?_
      refine lr_imul (pc := 40) C lr_d_M_copy_40 ?_
      refine lr_iload_n (pc := 41) C lr_d_M_copy_41 rfl 0 rfl ?_
      refine lr_iadd (pc := 42) C lr_d_M_copy_42 ?_
      refine lr_aload_n (pc := 43) C lr_d_M_copy_43 rfl 1 rfl ?_
      refine lr_g7_59 (pc := 44) C lr_d_M_copy_44 ?_
      refine lr_bipush (pc := 47) (v := 6) C lr_d_M_copy_47 (by decide) ?_
      refine lr_iload_n (pc := 49) C lr_d_M_copy_49 rfl 2 rfl ?_
      refine lr_imul (pc := 50) C lr_d_M_copy_50 ?_
      refine lr_iload_n (pc := 51) C lr_d_M_copy_51 rfl 0 rfl ?_
      refine lr_iadd (pc := 52) C lr_d_M_copy_52 ?_
      obtain ⟨hb5, h⟩ := lr_gd h
      refine lr_li38 (pc := 53) C lr_d_M_copy_53 hb5 ?_
      obtain ⟨hb6, h⟩ := lr_gd h
      refine lr_si38 (pc := 54) C lr_d_M_copy_54 hb6 ?_
      obtain ⟨t7, ht8, h⟩ := lr_bd h
      rw [Option.some.inj ht8]
      refine lr_iinc (pc := 55) (v := (1 : Int32)) (ls' := [(2, .inl (1 : Int32)), (0, .inr (20, 0)), (1, .inl a1)]) C lr_d_M_copy_55 0 rfl (by decide) (by decide) rfl ?_
      refine lr_goto (pc := 58) (tgt := 24) C lr_d_M_copy_58 (by decide) ?_
      refine lr_iload_n (pc := 24) C lr_d_M_copy_24 rfl 0 rfl ?_
      refine lr_bipush (pc := 25) (v := 6) C lr_d_M_copy_25 (by decide) ?_
      refine lr_icmp_ge (pc := 27) (tgt := 61) C lr_d_M_copy_27 (by decide) (fun hc => absurd hc (by decide)) (fun _ => ?_)
      refine lr_aload_n (pc := 30) C lr_d_M_copy_30 rfl 1 rfl ?_
      refine lr_g7_59 (pc := 31) C lr_d_M_copy_31 ?_
      refine lr_bipush (pc := 34) (v := 6) C lr_d_M_copy_34 (by decide) ?_
      refine lr_aload_n (pc := 36) C lr_d_M_copy_36 rfl 1 rfl ?_
      refine lr_g7_111 (pc := 37) C lr_d_M_copy_37 ?_
      refine lr_imul (pc := 40) C lr_d_M_copy_40 ?_
      refine lr_iload_n (pc := 41) C lr_d_M_copy_41 rfl 0 rfl ?_
      refine lr_iadd (pc := 42) C lr_d_M_copy_42 ?_
      refine lr_aload_n (pc := 43) C lr_d_M_copy_43 rfl 1 rfl ?_
      refine lr_g7_59 (pc := 44) C lr_d_M_copy_44 ?_
      refine lr_bipush (pc := 47) (v := 6) C lr_d_M_copy_47 (by decide) ?_
      refine lr_iload_n (pc := 49) C lr_d_M_copy_49 rfl 2 rfl ?_
      refine lr_imul (pc := 50) C lr_d_M_copy_50 ?_
      refine lr_iload_n (pc := 51) C lr_d_M_copy_51 rfl 0 rfl ?_
      refine lr_iadd (pc := 52) C lr_d_M_copy_52 ?_
      obtain ⟨hb9, h⟩ := lr_gd h
      refine lr_li38 (pc := 53) C lr_d_M_copy_53 hb9 ?_
      obtain ⟨hb10, h⟩ := lr_gd h
      refine lr_si38 (pc := 54) C lr_d_M_copy_54 hb10 ?_
      obtain ⟨t11, ht12, h⟩ := lr_bd h
      rw [Option.some.inj ht12]
      refine lr_iinc (pc := 55) (v := (2 : Int32)) (ls' := [(2, .inl (2 : Int32)), (0, .inr (20, 0)), (1, .inl a1)]) C lr_d_M_copy_55 0 rfl (by decide) (by decide) rfl ?_
      refine lr_goto (pc := 58) (tgt := 24) C lr_d_M_copy_58 (by decide) ?_
      refine lr_iload_n (pc := 24) C lr_d_M_copy_24 rfl 0 rfl ?_
      refine lr_bipush (pc := 25) (v := 6) C lr_d_M_copy_25 (by decide) ?_
      refine lr_icmp_ge (pc := 27) (tgt := 61) C lr_d_M_copy_27 (by decide) (fun hc => absurd hc (by decide)) (fun _ => ?_)
      refine lr_aload_n (pc := 30) C lr_d_M_copy_30 rfl 1 rfl ?_
      refine lr_g7_59 (pc := 31) C lr_d_M_copy_31 ?_
      refine lr_bipush (pc := 34) (v := 6) C lr_d_M_copy_34 (by decide) ?_
      refine lr_aload_n (pc := 36) C lr_d_M_copy_36 rfl 1 rfl ?_
      refine lr_g7_111 (pc := 37) C lr_d_M_copy_37 ?_
      refine lr_imul (pc := 40) C lr_d_M_copy_40 ?_
      refine lr_iload_n (pc := 41) C lr_d_M_copy_41 rfl 0 rfl ?_
      refine lr_iadd (pc := 42) C lr_d_M_copy_42 ?_
      refine lr_aload_n (pc := 43) C lr_d_M_copy_43 rfl 1 rfl ?_
      refine lr_g7_59 (pc := 44) C lr_d_M_copy_44 ?_
      refine lr_bipush (pc := 47) (v := 6) C lr_d_M_copy_47 (by decide) ?_
      refine lr_iload_n (pc := 49) C lr_d_M_copy_49 rfl 2 rfl ?_
      refine lr_imul (pc := 50) C lr_d_M_copy_50 ?_
      refine lr_iload_n (pc := 51) C lr_d_M_copy_51 rfl 0 rfl ?_
      refine lr_iadd (pc := 52) C lr_d_M_copy_52 ?_
      obtain ⟨hb13, h⟩ := lr_gd h
      refine lr_li38 (pc := 53) C lr_d_M_copy_53 hb13 ?_
      obtain ⟨hb14, h⟩ := lr_gd h
      refine lr_si38 (pc := 54) C lr_d_M_copy_54 hb14 ?_
      obtain ⟨t15, ht16, h⟩ := lr_bd h
      rw [Option.some.inj ht16]
      refine lr_iinc (pc := 55) (v := (3 : Int32)) (ls' := [(2, .inl (3 : Int32)), (0, .inr (20, 0)), (1, .inl a1)]) C lr_d_M_copy_55 0 rfl (by decide) (by decide) rfl ?_
      refine lr_goto (pc := 58) (tgt := 24) C lr_d_M_copy_58 (by decide) ?_
      refine lr_iload_n (pc := 24) C lr_d_M_copy_24 rfl 0 rfl ?_
      refine lr_bipush (pc := 25) (v := 6) C lr_d_M_copy_25 (by decide) ?_
      refine lr_icmp_ge (pc := 27) (tgt := 61) C lr_d_M_copy_27 (by decide) (fun hc => absurd hc (by decide)) (fun _ => ?_)
      refine lr_aload_n (pc := 30) C lr_d_M_copy_30 rfl 1 rfl ?_
      refine lr_g7_59 (pc := 31) C lr_d_M_copy_31 ?_
      refine lr_bipush (pc := 34) (v := 6) C lr_d_M_copy_34 (by decide) ?_
      refine lr_aload_n (pc := 36) C lr_d_M_copy_36 rfl 1 rfl ?_
      refine lr_g7_111 (pc := 37) C lr_d_M_copy_37 ?_
      refine lr_imul (pc := 40) C lr_d_M_copy_40 ?_
      refine lr_iload_n (pc := 41) C lr_d_M_copy_41 rfl 0 rfl ?_
      refine lr_iadd (pc := 42) C lr_d_M_copy_42 ?_
      refine lr_aload_n (pc := 43) C lr_d_M_copy_43 rfl 1 rfl ?_
      refine lr_g7_59 (pc := 44) C lr_d_M_copy_44 ?_
      refine lr_bipush (pc := 47) (v := 6) C lr_d_M_copy_47 (by decide) ?_
      refine lr_iload_n (pc := 49) C lr_d_M_copy_49 rfl 2 rfl ?_
      refine lr_imul (pc := 50) C lr_d_M_copy_50 ?_
      refine lr_iload_n (pc := 51) C lr_d_M_copy_51 rfl 0 rfl ?_
      refine lr_iadd (pc := 52) C lr_d_M_copy_52 ?_
      obtain ⟨hb17, h⟩ := lr_gd h
      refine lr_li38 (pc := 53) C lr_d_M_copy_53 hb17 ?_
      obtain ⟨hb18, h⟩ := lr_gd h
      refine lr_si38 (pc := 54) C lr_d_M_copy_54 hb18 ?_
      obtain ⟨t19, ht20, h⟩ := lr_bd h
      rw [Option.some.inj ht20]
      refine lr_iinc (pc := 55) (v := (4 : Int32)) (ls' := [(2, .inl (4 : Int32)), (0, .inr (20, 0)), (1, .inl a1)]) C lr_d_M_copy_55 0 rfl (by decide) (by decide) rfl ?_
      refine lr_goto (pc := 58) (tgt := 24) C lr_d_M_copy_58 (by decide) ?_
      refine lr_iload_n (pc := 24) C lr_d_M_copy_24 rfl 0 rfl ?_
      refine lr_bipush (pc := 25) (v := 6) C lr_d_M_copy_25 (by decide) ?_
      refine lr_icmp_ge (pc := 27) (tgt := 61) C lr_d_M_copy_27 (by decide) (fun hc => absurd hc (by decide)) (fun _ => ?_)
      refine lr_aload_n (pc := 30) C lr_d_M_copy_30 rfl 1 rfl ?_
      refine lr_g7_59 (pc := 31) C lr_d_M_copy_31 ?_
      refine lr_bipush (pc := 34) (v := 6) C lr_d_M_copy_34 (by decide) ?_
      refine lr_aload_n (pc := 36) C lr_d_M_copy_36 rfl 1 rfl ?_
      refine lr_g7_111 (pc := 37) C lr_d_M_copy_37 ?_
      refine lr_imul (pc := 40) C lr_d_M_copy_40 ?_
      refine lr_iload_n (pc := 41) C lr_d_M_copy_41 rfl 0 rfl ?_
      refine lr_iadd (pc := 42) C lr_d_M_copy_42 ?_
      refine lr_aload_n (pc := 43) C lr_d_M_copy_43 rfl 1 rfl ?_
      refine lr_g7_59 (pc := 44) C lr_d_M_copy_44 ?_
      refine lr_bipush (pc := 47) (v := 6) C lr_d_M_copy_47 (by decide) ?_
      refine lr_iload_n (pc := 49) C lr_d_M_copy_49 rfl 2 rfl ?_
      refine lr_imul (pc := 50) C lr_d_M_copy_50 ?_
      refine lr_iload_n (pc := 51) C lr_d_M_copy_51 rfl 0 rfl ?_
      refine lr_iadd (pc := 52) C lr_d_M_copy_52 ?_
      obtain ⟨hb21, h⟩ := lr_gd h
      refine lr_li38 (pc := 53) C lr_d_M_copy_53 hb21 ?_
      obtain ⟨hb22, h⟩ := lr_gd h
      refine lr_si38 (pc := 54) C lr_d_M_copy_54 hb22 ?_
      obtain ⟨t23, ht24, h⟩ := lr_bd h
      rw [Option.some.inj ht24]
      refine lr_iinc (pc := 55) (v := (5 : Int32)) (ls' := [(2, .inl (5 : Int32)), (0, .inr (20, 0)), (1, .inl a1)]) C lr_d_M_copy_55 0 rfl (by decide) (by decide) rfl ?_
      refine lr_goto (pc := 58) (tgt := 24) C lr_d_M_copy_58 (by decide) ?_
      refine lr_iload_n (pc := 24) C lr_d_M_copy_24 rfl 0 rfl ?_
      refine lr_bipush (pc := 25) (v := 6) C lr_d_M_copy_25 (by decide) ?_
      refine lr_icmp_ge (pc := 27) (tgt := 61) C lr_d_M_copy_27 (by decide) (fun hc => absurd hc (by decide)) (fun _ => ?_)
      refine lr_aload_n (pc := 30) C lr_d_M_copy_30 rfl 1 rfl ?_
      refine lr_g7_59 (pc := 31) C lr_d_M_copy_31 ?_
      refine lr_bipush (pc := 34) (v := 6) C lr_d_M_copy_34 (by decide) ?_
      refine lr_aload_n (pc := 36) C lr_d_M_copy_36 rfl 1 rfl ?_
      refine lr_g7_111 (pc := 37) C lr_d_M_copy_37 ?_
      refine lr_imul (pc := 40) C lr_d_M_copy_40 ?_
      refine lr_iload_n (pc := 41) C lr_d_M_copy_41 rfl 0 rfl ?_
      refine lr_iadd (pc := 42) C lr_d_M_copy_42 ?_
      refine lr_aload_n (pc := 43) C lr_d_M_copy_43 rfl 1 rfl ?_
      refine lr_g7_59 (pc := 44) C lr_d_M_copy_44 ?_
      refine lr_bipush (pc := 47) (v := 6) C lr_d_M_copy_47 (by decide) ?_
      refine lr_iload_n (pc := 49) C lr_d_M_copy_49 rfl 2 rfl ?_
      refine lr_imul (pc := 50) C lr_d_M_copy_50 ?_
      refine lr_iload_n (pc := 51) C lr_d_M_copy_51 rfl 0 rfl ?_
      refine lr_iadd (pc := 52) C lr_d_M_copy_52 ?_
      obtain ⟨hb25, h⟩ := lr_gd h
      refine lr_li38 (pc := 53) C lr_d_M_copy_53 hb25 ?_
      obtain ⟨hb26, h⟩ := lr_gd h
      refine lr_si38 (pc := 54) C lr_d_M_copy_54 hb26 ?_
      obtain ⟨t27, ht28, h⟩ := lr_bd h
      rw [Option.some.inj ht28]
      refine lr_iinc (pc := 55) (v := (6 : Int32)) (ls' := [(2, .inl (6 : Int32)), (0, .inr (20, 0)), (1, .inl a1)]) C lr_d_M_copy_55 0 rfl (by decide) (by decide) rfl ?_
      refine lr_goto (pc := 58) (tgt := 24) C lr_d_M_copy_58 (by decide) ?_
      refine lr_iload_n (pc := 24) C lr_d_M_copy_24 rfl 0 rfl ?_
      refine lr_bipush (pc := 25) (v := 6) C lr_d_M_copy_25 (by decide) ?_
      refine lr_icmp_ge (pc := 27) (tgt := 61) C lr_d_M_copy_27 (by decide) (fun _ => ?_) (fun hc => absurd hc (by decide))
      refine lr_aload_n (pc := 61) C lr_d_M_copy_61 rfl 1 rfl ?_
      refine lr_dup (pc := 62) C lr_d_M_copy_62 ?_
      refine lr_g7_111 (pc := 63) C lr_d_M_copy_63 ?_
      refine lr_iconst (pc := 66) (v := 1) C lr_d_M_copy_66 (by decide) ?_
      refine lr_iadd (pc := 67) C lr_d_M_copy_67 ?_
      refine lr_p7_111 (pc := 68) C lr_d_M_copy_68 ?_
      refine lr_iconst (pc := 71) (v := 1) C lr_d_M_copy_71 (by decide) ?_
      have e := Option.some.inj h
      subst e
      exact lr_iret C E lr_d_M_copy_72 (by decide)
    · have h := lr_ps hc4 h
      refine lr_iconst (pc := 20) (v := 0) C lr_d_M_copy_20 (by decide) ?_
      have e := Option.some.inj h
      subst e
      exact lr_iret C E lr_d_M_copy_21 (by decide)
def lr_G_M_flight (t : lr_S) : Option (Int32 × lr_S) := some ((lr_rd t 20 0 19), t)
set_option maxHeartbeats 4000000 in
theorem lr_r_M_flight {t : lr_S} {o : Int32 × lr_S} (h : lr_G_M_flight t = some o) : lr_RI 20 60 lr_m_M_flight [.inr (20, 0)] t o.1 o.2 := by
  refine lr_ofI (ty := .int) (own := lr_R7) (by decide) rfl rfl (Nat.le_of_ble_eq_true rfl) (fun X C E => ?_)
  show lr_T X 0 [(0, .inr (20, 0))] [] t
  have h := (show (some ((lr_rd t 20 0 19), t)) = some o from h)
  refine lr_aload_n (pc := 0) C lr_d_M_flight_0 rfl 0 rfl ?_
  refine lr_g7_111 (pc := 1) C lr_d_M_flight_1 ?_
  have e := Option.some.inj h
  subst e
  exact lr_iret C E lr_d_M_flight_4 rfl
def lr_G_M_message (a1 : Int32) (a2 : Int32) (t : lr_S) : Option (Int32 × lr_S) := (lr_G_M_within a1 (lr_rd t 20 0 19) t).bind fun u1 => (if u1.1 = 0 then (some ((-1 : Int32), u1.2)) else ((lr_G_M_within a2 (6 : Int32) u1.2).bind fun u4 => (if u4.1 = 0 then (some ((-1 : Int32), u4.2)) else (if lr_in (((6 : Int32) * a1) + a2) 192 = true then (some ((lr_rd u4.2 38 0 (((6 : Int32) * a1) + a2).toNatClampNeg), u4.2)) else none))))
set_option maxHeartbeats 4000000 in
theorem lr_r_M_message {a1 : Int32} {a2 : Int32} {t : lr_S} {o : Int32 × lr_S} (h : lr_G_M_message a1 a2 t = some o) : lr_RI 20 60 lr_m_M_message [.inr (20, 0), .inl a1, .inl a2] t o.1 o.2 := by
  refine lr_ofI (ty := .int) (own := lr_R7) (by decide) rfl rfl (Nat.le_of_ble_eq_true rfl) (fun X C E => ?_)
  show lr_T X 0 [(0, .inr (20, 0)), (1, .inl a1), (2, .inl a2)] [] t
  have h := (show ((lr_G_M_within a1 (lr_rd t 20 0 19) t).bind fun u1 => (if u1.1 = 0 then (some ((-1 : Int32), u1.2)) else ((lr_G_M_within a2 (6 : Int32) u1.2).bind fun u4 => (if u4.1 = 0 then (some ((-1 : Int32), u4.2)) else (if lr_in (((6 : Int32) * a1) + a2) 192 = true then (some ((lr_rd u4.2 38 0 (((6 : Int32) * a1) + a2).toNatClampNeg), u4.2)) else none))))) = some o from h)
  refine lr_iload_n (pc := 0) C lr_d_M_message_0 rfl 1 rfl ?_
  refine lr_aload_n (pc := 1) C lr_d_M_message_1 rfl 0 rfl ?_
  refine lr_g7_111 (pc := 2) C lr_d_M_message_2 ?_
  obtain ⟨u1, hu2, h⟩ := lr_bd h
  refine lr_callSi (pc := 5) (as := [.inl a1, .inl (lr_rd t 20 0 19)]) (st := []) C (lr_r_M_within hu2) lr_c7_107 lr_d_M_message_5 rfl rfl ⟨by decide, by decide⟩ (Nat.le_of_ble_eq_true rfl) ?_
  refine lr_if_eq (pc := 8) (tgt := 34) C lr_d_M_message_8 (by decide) (fun hc3 => ?_) (fun hc3 => ?_)
  · have h := lr_ps hc3 h
    refine lr_iconst (pc := 34) (v := -1) C lr_d_M_message_34 (by decide) ?_
    have e := Option.some.inj h
    subst e
    exact lr_iret C E lr_d_M_message_35 rfl
  · have h := lr_ng hc3 h
    refine lr_iload_n (pc := 11) C lr_d_M_message_11 rfl 2 rfl ?_
    refine lr_bipush (pc := 12) (v := 6) C lr_d_M_message_12 (by decide) ?_
    obtain ⟨u4, hu5, h⟩ := lr_bd h
    refine lr_callSi (pc := 14) (as := [.inl a2, .inl (6 : Int32)]) (st := []) C (lr_r_M_within hu5) lr_c7_107 lr_d_M_message_14 rfl rfl ⟨by decide, by decide⟩ (Nat.le_of_ble_eq_true rfl) ?_
    refine lr_if_eq (pc := 17) (tgt := 34) C lr_d_M_message_17 (by decide) (fun hc6 => ?_) (fun hc6 => ?_)
    · have h := lr_ps hc6 h
      refine lr_iconst (pc := 34) (v := -1) C lr_d_M_message_34 (by decide) ?_
      have e := Option.some.inj h
      subst e
      exact lr_iret C E lr_d_M_message_35 rfl
    · have h := lr_ng hc6 h
      refine lr_aload_n (pc := 20) C lr_d_M_message_20 rfl 0 rfl ?_
      refine lr_g7_59 (pc := 21) C lr_d_M_message_21 ?_
      refine lr_bipush (pc := 24) (v := 6) C lr_d_M_message_24 (by decide) ?_
      refine lr_iload_n (pc := 26) C lr_d_M_message_26 rfl 1 rfl ?_
      refine lr_imul (pc := 27) C lr_d_M_message_27 ?_
      refine lr_iload_n (pc := 28) C lr_d_M_message_28 rfl 2 rfl ?_
      refine lr_iadd (pc := 29) C lr_d_M_message_29 ?_
      obtain ⟨hb7, h⟩ := lr_gd h
      refine lr_li38 (pc := 30) C lr_d_M_message_30 hb7 ?_
      refine lr_goto (pc := 31) (tgt := 35) C lr_d_M_message_31 (by decide) ?_
      have e := Option.some.inj h
      subst e
      exact lr_iret C E lr_d_M_message_35 rfl
def lr_G_M_root (a1 : Int32) (a2 : Int32) (t : lr_S) : Option (Int32 × lr_S) := (lr_G_M_within a1 (4 : Int32) t).bind fun u1 => (if u1.1 = 0 then (some ((-1 : Int32), u1.2)) else ((lr_G_M_within a2 (3 : Int32) u1.2).bind fun u4 => (if u4.1 = 0 then (some ((-1 : Int32), u4.2)) else (if lr_in (((3 : Int32) * a1) + a2) 12 = true then (some ((lr_rd u4.2 22 0 (((3 : Int32) * a1) + a2).toNatClampNeg), u4.2)) else none))))
set_option maxHeartbeats 4000000 in
theorem lr_r_M_root {a1 : Int32} {a2 : Int32} {t : lr_S} {o : Int32 × lr_S} (h : lr_G_M_root a1 a2 t = some o) : lr_RI 20 60 lr_m_M_root [.inr (20, 0), .inl a1, .inl a2] t o.1 o.2 := by
  refine lr_ofI (ty := .int) (own := lr_R7) (by decide) rfl rfl (Nat.le_of_ble_eq_true rfl) (fun X C E => ?_)
  show lr_T X 0 [(0, .inr (20, 0)), (1, .inl a1), (2, .inl a2)] [] t
  have h := (show ((lr_G_M_within a1 (4 : Int32) t).bind fun u1 => (if u1.1 = 0 then (some ((-1 : Int32), u1.2)) else ((lr_G_M_within a2 (3 : Int32) u1.2).bind fun u4 => (if u4.1 = 0 then (some ((-1 : Int32), u4.2)) else (if lr_in (((3 : Int32) * a1) + a2) 12 = true then (some ((lr_rd u4.2 22 0 (((3 : Int32) * a1) + a2).toNatClampNeg), u4.2)) else none))))) = some o from h)
  refine lr_iload_n (pc := 0) C lr_d_M_root_0 rfl 1 rfl ?_
  refine lr_iconst (pc := 1) (v := 4) C lr_d_M_root_1 (by decide) ?_
  obtain ⟨u1, hu2, h⟩ := lr_bd h
  refine lr_callSi (pc := 2) (as := [.inl a1, .inl (4 : Int32)]) (st := []) C (lr_r_M_within hu2) lr_c7_107 lr_d_M_root_2 rfl rfl ⟨by decide, by decide⟩ (Nat.le_of_ble_eq_true rfl) ?_
  refine lr_if_eq (pc := 5) (tgt := 29) C lr_d_M_root_5 (by decide) (fun hc3 => ?_) (fun hc3 => ?_)
  · have h := lr_ps hc3 h
    refine lr_iconst (pc := 29) (v := -1) C lr_d_M_root_29 (by decide) ?_
    have e := Option.some.inj h
    subst e
    exact lr_iret C E lr_d_M_root_30 rfl
  · have h := lr_ng hc3 h
    refine lr_iload_n (pc := 8) C lr_d_M_root_8 rfl 2 rfl ?_
    refine lr_iconst (pc := 9) (v := 3) C lr_d_M_root_9 (by decide) ?_
    obtain ⟨u4, hu5, h⟩ := lr_bd h
    refine lr_callSi (pc := 10) (as := [.inl a2, .inl (3 : Int32)]) (st := []) C (lr_r_M_within hu5) lr_c7_107 lr_d_M_root_10 rfl rfl ⟨by decide, by decide⟩ (Nat.le_of_ble_eq_true rfl) ?_
    refine lr_if_eq (pc := 13) (tgt := 29) C lr_d_M_root_13 (by decide) (fun hc6 => ?_) (fun hc6 => ?_)
    · have h := lr_ps hc6 h
      refine lr_iconst (pc := 29) (v := -1) C lr_d_M_root_29 (by decide) ?_
      have e := Option.some.inj h
      subst e
      exact lr_iret C E lr_d_M_root_30 rfl
    · have h := lr_ng hc6 h
      refine lr_aload_n (pc := 16) C lr_d_M_root_16 rfl 0 rfl ?_
      refine lr_g7_13 (pc := 17) C lr_d_M_root_17 ?_
      refine lr_iconst (pc := 20) (v := 3) C lr_d_M_root_20 (by decide) ?_
      refine lr_iload_n (pc := 21) C lr_d_M_root_21 rfl 1 rfl ?_
      refine lr_imul (pc := 22) C lr_d_M_root_22 ?_
      refine lr_iload_n (pc := 23) C lr_d_M_root_23 rfl 2 rfl ?_
      refine lr_iadd (pc := 24) C lr_d_M_root_24 ?_
      obtain ⟨hb7, h⟩ := lr_gd h
      refine lr_li22 (pc := 25) C lr_d_M_root_25 hb7 ?_
      refine lr_goto (pc := 26) (tgt := 30) C lr_d_M_root_26 (by decide) ?_
      have e := Option.some.inj h
      subst e
      exact lr_iret C E lr_d_M_root_30 rfl
