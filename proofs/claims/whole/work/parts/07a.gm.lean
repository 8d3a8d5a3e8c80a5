def lr_G_M_within (a0 : Int32) (a1 : Int32) (t : lr_S) : Option (Int32 × lr_S) := if a0 < 0 then (some ((0 : Int32), t)) else (if a1 ≤ a0 then (some ((0 : Int32), t)) else (some ((1 : Int32), t)))
set_option maxHeartbeats 4000000 in
theorem lr_r_M_within {a0 : Int32} {a1 : Int32} {t : lr_S} {o : Int32 × lr_S} (h : lr_G_M_within a0 a1 t = some o) : lr_RI 20 60 lr_m_M_within [.inl a0, .inl a1] t o.1 o.2 := by
  refine lr_ofI (ty := .boolean) (own := lr_R7) (by decide) rfl rfl (Nat.le_of_ble_eq_true rfl) (fun X C E => ?_)
  show lr_T X 0 [(0, .inl a0), (1, .inl a1)] [] t
  have h := (show (if a0 < 0 then (some ((0 : Int32), t)) else (if a1 ≤ a0 then (some ((0 : Int32), t)) else (some ((1 : Int32), t)))) = some o from h)
  refine lr_iload_n (pc := 0) C lr_d_M_within_0 rfl 0 rfl ?_
  refine lr_if_lt (pc := 1) (tgt := 13) C lr_d_M_within_1 (by decide) (fun hc1 => ?_) (fun hc1 => ?_)
  · have h := lr_ps hc1 h
    refine lr_iconst (pc := 13) (v := 0) C lr_d_M_within_13 (by decide) ?_
    have e := Option.some.inj h
    subst e
    exact lr_iret C E lr_d_M_within_14 (by decide)
  · have h := lr_ng hc1 h
    refine lr_iload_n (pc := 4) C lr_d_M_within_4 rfl 0 rfl ?_
    refine lr_iload_n (pc := 5) C lr_d_M_within_5 rfl 1 rfl ?_
    refine lr_icmp_ge (pc := 6) (tgt := 13) C lr_d_M_within_6 (by decide) (fun hc2 => ?_) (fun hc2 => ?_)
    · have h := lr_ps hc2 h
      refine lr_iconst (pc := 13) (v := 0) C lr_d_M_within_13 (by decide) ?_
      have e := Option.some.inj h
      subst e
      exact lr_iret C E lr_d_M_within_14 (by decide)
    · have h := lr_ng hc2 h
      refine lr_iconst (pc := 9) (v := 1) C lr_d_M_within_9 (by decide) ?_
      refine lr_goto (pc := 10) (tgt := 14) C lr_d_M_within_10 (by decide) ?_
      have e := Option.some.inj h
      subst e
      exact lr_iret C E lr_d_M_within_14 (by decide)
def lr_G_M_lives (a1 : Int32) (t : lr_S) : Option (Int32 × lr_S) := (lr_G_M_within a1 (4 : Int32) t).bind fun u1 => (if u1.1 = 0 then (some ((0 : Int32), u1.2)) else (if lr_in a1 4 = true then (if (lr_rd u1.2 21 0 a1.toNatClampNeg) = 0 then (some ((1 : Int32), u1.2)) else (some ((0 : Int32), u1.2))) else none))
set_option maxHeartbeats 4000000 in
theorem lr_r_M_lives {a1 : Int32} {t : lr_S} {o : Int32 × lr_S} (h : lr_G_M_lives a1 t = some o) : lr_RI 20 60 lr_m_M_lives [.inr (20, 0), .inl a1] t o.1 o.2 := by
  refine lr_ofI (ty := .boolean) (own := lr_R7) (by decide) rfl rfl (Nat.le_of_ble_eq_true rfl) (fun X C E => ?_)
  show lr_T X 0 [(0, .inr (20, 0)), (1, .inl a1)] [] t
  have h := (show ((lr_G_M_within a1 (4 : Int32) t).bind fun u1 => (if u1.1 = 0 then (some ((0 : Int32), u1.2)) else (if lr_in a1 4 = true then (if (lr_rd u1.2 21 0 a1.toNatClampNeg) = 0 then (some ((1 : Int32), u1.2)) else (some ((0 : Int32), u1.2))) else none))) = some o from h)
  refine lr_iload_n (pc := 0) C lr_d_M_lives_0 rfl 1 rfl ?_
  refine lr_iconst (pc := 1) (v := 4) C lr_d_M_lives_1 (by decide) ?_
  obtain ⟨u1, hu2, h⟩ := lr_bd h
  refine lr_callSi (pc := 2) (as := [.inl a1, .inl (4 : Int32)]) (st := []) C (lr_r_M_within hu2) lr_c7_107 lr_d_M_lives_2 rfl rfl ⟨by decide, by decide⟩ (Nat.le_of_ble_eq_true rfl) ?_
  refine lr_if_eq (pc := 5) (tgt := 21) C lr_d_M_lives_5 (by decide) (fun hc3 => ?_) (fun hc3 => ?_)
  · have h := lr_ps hc3 h
    refine lr_iconst (pc := 21) (v := 0) C lr_d_M_lives_21 (by decide) ?_
    have e := Option.some.inj h
    subst e
    exact lr_iret C E lr_d_M_lives_22 (by decide)
  · have h := lr_ng hc3 h
    refine lr_aload_n (pc := 8) C lr_d_M_lives_8 rfl 0 rfl ?_
    refine lr_g7_7 (pc := 9) C lr_d_M_lives_9 ?_
    refine lr_iload_n (pc := 12) C lr_d_M_lives_12 rfl 1 rfl ?_
    obtain ⟨hb4, h⟩ := lr_gd h
    refine lr_lz21 (pc := 13) C lr_d_M_lives_13 hb4 ?_
    refine lr_if_ne (pc := 14) (tgt := 21) C lr_d_M_lives_14 (by decide) (fun hc5 => ?_) (fun hc5 => ?_)
    · have h := lr_ng hc5 h
      refine lr_iconst (pc := 21) (v := 0) C lr_d_M_lives_21 (by decide) ?_
      have e := Option.some.inj h
      subst e
      exact lr_iret C E lr_d_M_lives_22 (by decide)
    · have h := lr_ps hc5 h
      refine lr_iconst (pc := 17) (v := 1) C lr_d_M_lives_17 (by decide) ?_
      refine lr_goto (pc := 18) (tgt := 22) C lr_d_M_lives_18 (by decide) ?_
      have e := Option.some.inj h
      subst e
      exact lr_iret C E lr_d_M_lives_22 (by decide)
def lr_G_M_send (a1 : Int32) (a2 : Int32) (a3 : Int32) (a4 : Int32) (a5 : Int32) (a6 : Int32) (t : lr_S) : Option (lr_S) := if (lr_rd t 20 0 19) = (32 : Int32) then (some t) else (if lr_in ((6 : Int32) * (lr_rd t 20 0 19)) 192 = true then (if lr_in (((6 : Int32) * (lr_rd t 20 0 19)) + (1 : Int32)) 192 = true then ((some (lr_wr (lr_wr t 38 0 ((6 : Int32) * (lr_rd t 20 0 19)).toNatClampNeg a1) 38 0 (((6 : Int32) * (lr_rd t 20 0 19)) + (1 : Int32)).toNatClampNeg a2)).bind fun t4 => (if lr_in (((6 : Int32) * (lr_rd t 20 0 19)) + (2 : Int32)) 192 = true then (if lr_in (((6 : Int32) * (lr_rd t 20 0 19)) + (3 : Int32)) 192 = true then ((some (lr_wr (lr_wr t4 38 0 (((6 : Int32) * (lr_rd t 20 0 19)) + (2 : Int32)).toNatClampNeg a3) 38 0 (((6 : Int32) * (lr_rd t 20 0 19)) + (3 : Int32)).toNatClampNeg a4)).bind fun t8 => (if lr_in (((6 : Int32) * (lr_rd t 20 0 19)) + (4 : Int32)) 192 = true then (if lr_in (((6 : Int32) * (lr_rd t 20 0 19)) + (5 : Int32)) 192 = true then ((some (lr_wr (lr_wr t8 38 0 (((6 : Int32) * (lr_rd t 20 0 19)) + (4 : Int32)).toNatClampNeg a5) 38 0 (((6 : Int32) * (lr_rd t 20 0 19)) + (5 : Int32)).toNatClampNeg a6)).bind fun t12 => (some (lr_wr t12 20 0 19 ((lr_rd t12 20 0 19) + (1 : Int32))))) else none) else none)) else none) else none)) else none) else none)
set_option maxHeartbeats 4000000 in
theorem lr_r_M_send {a1 : Int32} {a2 : Int32} {a3 : Int32} {a4 : Int32} {a5 : Int32} {a6 : Int32} {t o : lr_S} (h : lr_G_M_send a1 a2 a3 a4 a5 a6 t = some o) : lr_RV 20 60 lr_m_M_send [.inr (20, 0), .inl a1, .inl a2, .inl a3, .inl a4, .inl a5, .inl a6] t o := by
  refine lr_ofV (own := lr_R7) (by decide) rfl rfl (Nat.le_of_ble_eq_true rfl) (fun X C E => ?_)
  show lr_T X 0 [(0, .inr (20, 0)), (1, .inl a1), (2, .inl a2), (3, .inl a3), (4, .inl a4), (5, .inl a5), (6, .inl a6)] [] t
  have h := (show (if (lr_rd t 20 0 19) = (32 : Int32) then (some t) else (if lr_in ((6 : Int32) * (lr_rd t 20 0 19)) 192 = true then (if lr_in (((6 : Int32) * (lr_rd t 20 0 19)) + (1 : Int32)) 192 = true then ((some (lr_wr (lr_wr t 38 0 ((6 : Int32) * (lr_rd t 20 0 19)).toNatClampNeg a1) 38 0 (((6 : Int32) * (lr_rd t 20 0 19)) + (1 : Int32)).toNatClampNeg a2)).bind fun t4 => (if lr_in (((6 : Int32) * (lr_rd t 20 0 19)) + (2 : Int32)) 192 = true then (if lr_in (((6 : Int32) * (lr_rd t 20 0 19)) + (3 : Int32)) 192 = true then ((some (lr_wr (lr_wr t4 38 0 (((6 : Int32) * (lr_rd t 20 0 19)) + (2 : Int32)).toNatClampNeg a3) 38 0 (((6 : Int32) * (lr_rd t 20 0 19)) + (3 : Int32)).toNatClampNeg a4)).bind fun t8 => (if lr_in (((6 : Int32) * (lr_rd t 20 0 19)) + (4 : Int32)) 192 = true then (if lr_in (((6 : Int32) * (lr_rd t 20 0 19)) + (5 : Int32)) 192 = true then ((some (lr_wr (lr_wr t8 38 0 (((6 : Int32) * (lr_rd t 20 0 19)) + (4 : Int32)).toNatClampNeg a5) 38 0 (((6 : Int32) * (lr_rd t 20 0 19)) + (5 : Int32)).toNatClampNeg a6)).bind fun t12 => (some (lr_wr t12 20 0 19 ((lr_rd t12 20 0 19) + (1 : Int32))))) else none) else none)) else none) else none)) else none) else none)) = some o from h)
  refine lr_aload_n (pc := 0) C lr_d_M_send_0 rfl 0 rfl ?_
  refine lr_g7_111 (pc := 1) C lr_d_M_send_1 ?_
  refine lr_bipush (pc := 4) (v := 32) C lr_d_M_send_4 (by decide) ?_
  refine lr_icmp_ne (pc := 6) (tgt := 10) C lr_d_M_send_6 (by decide) (fun hc1 => ?_) (fun hc1 => ?_)
  · have h := lr_ng hc1 h
    refine lr_bipush (pc := 10) (v := 6) C lr_d_M_send_10 (by decide) ?_
    refine lr_aload_n (pc := 12) C lr_d_M_send_12 rfl 0 rfl ?_
    refine lr_g7_111 (pc := 13) C lr_d_M_send_13 ?_
    refine lr_imul (pc := 16) C lr_d_M_send_16 ?_
    refine lr_istore (pc := 17) (ls' := [(7, .inl ((6 : Int32) * (lr_rd t 20 0 19))), (0, .inr (20, 0)), (1, .inl a1), (2, .inl a2), (3, .inl a3), (4, .inl a4), (5, .inl a5), (6, .inl a6)]) C lr_d_M_send_17 (by decide) rfl ?_
    refine lr_aload_n (pc := 19) C lr_d_M_send_19 rfl 1 rfl ?_
    refine lr_g7_59 (pc := 20) C lr_d_M_send_20 ?_
    refine lr_iload (pc := 23) C lr_d_M_send_23 0 rfl ?_
    refine lr_iload_n (pc := 25) C lr_d_M_send_25 rfl 2 rfl ?_
    obtain ⟨hb2, h⟩ := lr_gd h
    refine lr_si38 (pc := 26) C lr_d_M_send_26 hb2 ?_
    refine lr_aload_n (pc := 27) C lr_d_M_send_27 rfl 1 rfl ?_
    refine lr_g7_59 (pc := 28) C lr_d_M_send_28 ?_
    refine lr_iload (pc := 31) C lr_d_M_send_31 0 rfl ?_
    refine lr_iconst (pc := 33) (v := 1) C lr_d_M_send_33 (by decide) ?_
    refine lr_iadd (pc := 34) C lr_d_M_send_34 ?_
    refine lr_iload_n (pc := 35) C lr_d_M_send_35 rfl 3 rfl ?_
    obtain ⟨hb3, h⟩ := lr_gd h
    refine lr_si38 (pc := 36) C lr_d_M_send_36 hb3 ?_
    obtain ⟨t4, ht5, h⟩ := lr_bd h
    rw [Option.some.inj ht5]
    refine lr_aload_n (pc := 37) C lr_d_M_send_37 rfl 1 rfl ?_
    refine lr_g7_59 (pc := 38) C lr_d_M_send_38 ?_
    refine lr_iload (pc := 41) C lr_d_M_send_41 0 rfl ?_
    refine lr_iconst (pc := 43) (v := 2) C lr_d_M_send_43 (by decide) ?_
    refine lr_iadd (pc := 44) C lr_d_M_send_44 ?_
    refine lr_iload_n (pc := 45) C lr_d_M_send_45 rfl 4 rfl ?_
    obtain ⟨hb6, h⟩ := lr_gd h
    refine lr_si38 (pc := 46) C lr_d_M_send_46 hb6 ?_
    refine lr_aload_n (pc := 47) C lr_d_M_send_47 rfl 1 rfl ?_
    refine lr_g7_59 (pc := 48) C lr_d_M_send_48 ?_
    refine lr_iload (pc := 51) C lr_d_M_send_51 0 rfl ?_
    refine lr_iconst (pc := 53) (v := 3) C lr_d_M_send_53 (by decide) ?_
    refine lr_iadd (pc := 54) C lr_d_M_send_54 ?_
    refine lr_iload (pc := 55) C lr_d_M_send_55 5 rfl ?_
    obtain ⟨hb7, h⟩ := lr_gd h
    refine lr_si38 (pc := 57) C lr_d_M_send_57 hb7 ?_
    obtain ⟨t8, ht9, h⟩ := lr_bd h
    rw [Option.some.inj ht9]
    refine lr_aload_n (pc := 58) C lr_d_M_send_58 rfl 1 rfl ?_
    refine lr_g7_59 (pc := 59) C lr_d_M_send_59 ?_
    refine lr_iload (pc := 62) C lr_d_M_send_62 0 rfl ?_
    refine lr_iconst (pc := 64) (v := 4) C lr_d_M_send_64 (by decide) ?_
    refine lr_iadd (pc := 65) C lr_d_M_send_65 ?_
    refine lr_iload (pc := 66) C lr_d_M_send_66 6 rfl ?_
    obtain ⟨hb10, h⟩ := lr_gd h
    refine lr_si38 (pc := 68) C lr_d_M_send_68 hb10 ?_
    refine lr_aload_n (pc := 69) C lr_d_M_send_69 rfl 1 rfl ?_
    refine lr_g7_59 (pc := 70) C lr_d_M_send_70 ?_
    refine lr_iload (pc := 73) C lr_d_M_send_73 0 rfl ?_
    refine lr_iconst (pc := 75) (v := 5) C lr_d_M_send_75 (by decide) ?_
    refine lr_iadd (pc := 76) C lr_d_M_send_76 ?_
    refine lr_iload (pc := 77) C lr_d_M_send_77 7 rfl ?_
    obtain ⟨hb11, h⟩ := lr_gd h
    refine lr_si38 (pc := 79) C lr_d_M_send_79 hb11 ?_
    obtain ⟨t12, ht13, h⟩ := lr_bd h
    rw [Option.some.inj ht13]
    refine lr_aload_n (pc := 80) C lr_d_M_send_80 rfl 1 rfl ?_
    refine lr_dup (pc := 81) C lr_d_M_send_81 ?_
    refine lr_g7_111 (pc := 82) C lr_d_M_send_82 ?_
    refine lr_iconst (pc := 85) (v := 1) C lr_d_M_send_85 (by decide) ?_
    refine lr_iadd (pc := 86) C lr_d_M_send_86 ?_
    refine lr_p7_111 (pc := 87) C lr_d_M_send_87 ?_
    have e := Option.some.inj h
    subst e
    exact lr_vret C E lr_d_M_send_90
  · have h := lr_ps hc1 h
    have e := Option.some.inj h
    subst e
    exact lr_vret C E lr_d_M_send_9
def lr_G_M_at (a1 : Int32) (a2 : Int32) (t : lr_S) : Option (Int32 × lr_S) := (lr_G_M_lives a1 t).bind fun u1 => (if u1.1 = 0 then (some ((-1 : Int32), u1.2)) else ((lr_G_M_within a2 (3 : Int32) u1.2).bind fun u4 => (if u4.1 = 0 then (some ((-1 : Int32), u4.2)) else (if lr_in (((3 : Int32) * a1) + a2) 12 = true then (if 0 ≤ (lr_rd u4.2 22 0 (((3 : Int32) * a1) + a2).toNatClampNeg) then (some ((((8 : Int32) * a1) + (lr_rd u4.2 22 0 (((3 : Int32) * a1) + a2).toNatClampNeg)), u4.2)) else (some ((-1 : Int32), u4.2))) else none))))
set_option maxHeartbeats 4000000 in
theorem lr_r_M_at {a1 : Int32} {a2 : Int32} {t : lr_S} {o : Int32 × lr_S} (h : lr_G_M_at a1 a2 t = some o) : lr_RI 20 60 lr_m_M_at [.inr (20, 0), .inl a1, .inl a2] t o.1 o.2 := by
  refine lr_ofI (ty := .int) (own := lr_R7) (by decide) rfl rfl (Nat.le_of_ble_eq_true rfl) (fun X C E => ?_)
  show lr_T X 0 [(0, .inr (20, 0)), (1, .inl a1), (2, .inl a2)] [] t
  have h := (show ((lr_G_M_lives a1 t).bind fun u1 => (if u1.1 = 0 then (some ((-1 : Int32), u1.2)) else ((lr_G_M_within a2 (3 : Int32) u1.2).bind fun u4 => (if u4.1 = 0 then (some ((-1 : Int32), u4.2)) else (if lr_in (((3 : Int32) * a1) + a2) 12 = true then (if 0 ≤ (lr_rd u4.2 22 0 (((3 : Int32) * a1) + a2).toNatClampNeg) then (some ((((8 : Int32) * a1) + (lr_rd u4.2 22 0 (((3 : Int32) * a1) + a2).toNatClampNeg)), u4.2)) else (some ((-1 : Int32), u4.2))) else none))))) = some o from h)
  refine lr_aload_n (pc := 0) C lr_d_M_at_0 rfl 0 rfl ?_
  refine lr_iload_n (pc := 1) C lr_d_M_at_1 rfl 1 rfl ?_
  obtain ⟨u1, hu2, h⟩ := lr_bd h
  refine lr_callVi (pc := 2) (as := [.inl a1]) (st := []) (fs := fun ad => lr_fs7 t 0 ad) C (lr_r_M_lives hu2) lr_c7_115 lr_d_M_at_2 rfl rfl (fun _ _ => rfl) (ci := 7) rfl rfl ⟨by decide, by decide⟩ (Nat.le_of_ble_eq_true rfl) ?_
  refine lr_if_eq (pc := 5) (tgt := 29) C lr_d_M_at_5 (by decide) (fun hc3 => ?_) (fun hc3 => ?_)
  · have h := lr_ps hc3 h
    refine lr_iconst (pc := 29) (v := -1) C lr_d_M_at_29 (by decide) ?_
    have e := Option.some.inj h
    subst e
    exact lr_iret C E lr_d_M_at_30 rfl
  · have h := lr_ng hc3 h
    refine lr_iload_n (pc := 8) C lr_d_M_at_8 rfl 2 rfl ?_
    refine lr_iconst (pc := 9) (v := 3) C lr_d_M_at_9 (by decide) ?_
    obtain ⟨u4, hu5, h⟩ := lr_bd h
    refine lr_callSi (pc := 10) (as := [.inl a2, .inl (3 : Int32)]) (st := []) C (lr_r_M_within hu5) lr_c7_107 lr_d_M_at_10 rfl rfl ⟨by decide, by decide⟩ (Nat.le_of_ble_eq_true rfl) ?_
    refine lr_if_eq (pc := 13) (tgt := 29) C lr_d_M_at_13 (by decide) (fun hc6 => ?_) (fun hc6 => ?_)
    · have h := lr_ps hc6 h
      refine lr_iconst (pc := 29) (v := -1) C lr_d_M_at_29 (by decide) ?_
      have e := Option.some.inj h
      subst e
      exact lr_iret C E lr_d_M_at_30 rfl
    · have h := lr_ng hc6 h
      refine lr_aload_n (pc := 16) C lr_d_M_at_16 rfl 0 rfl ?_
      refine lr_g7_13 (pc := 17) C lr_d_M_at_17 ?_
      refine lr_iconst (pc := 20) (v := 3) C lr_d_M_at_20 (by decide) ?_
      refine lr_iload_n (pc := 21) C lr_d_M_at_21 rfl 1 rfl ?_
      refine lr_imul (pc := 22) C lr_d_M_at_22 ?_
      refine lr_iload_n (pc := 23) C lr_d_M_at_23 rfl 2 rfl ?_
      refine lr_iadd (pc := 24) C lr_d_M_at_24 ?_
      obtain ⟨hb7, h⟩ := lr_gd h
      refine lr_li22 (pc := 25) C lr_d_M_at_25 hb7 ?_
      refine lr_if_ge (pc := 26) (tgt := 31) C lr_d_M_at_26 (by decide) (fun hc8 => ?_) (fun hc8 => ?_)
      · have h := lr_ps hc8 h
        refine lr_bipush (pc := 31) (v := 8) C lr_d_M_at_31 (by decide) ?_
        refine lr_iload_n (pc := 33) C lr_d_M_at_33 rfl 1 rfl ?_
        refine lr_imul (pc := 34) C lr_d_M_at_34 ?_
        refine lr_aload_n (pc := 35) C lr_d_M_at_35 rfl 0 rfl ?_
        refine lr_g7_13 (pc := 36) C lr_d_M_at_36 ?_
        refine lr_iconst (pc := 39) (v := 3) C lr_d_M_at_39 (by decide) ?_
        refine lr_iload_n (pc := 40) C lr_d_M_at_40 rfl 1 rfl ?_
        refine lr_imul (pc := 41) C lr_d_M_at_41 ?_
        refine lr_iload_n (pc := 42) C lr_d_M_at_42 rfl 2 rfl ?_
        refine lr_iadd (pc := 43) C lr_d_M_at_43 ?_
        refine lr_li22 (pc := 44) C lr_d_M_at_44 hb7 ?_
        refine lr_iadd (pc := 45) C lr_d_M_at_45 ?_
        have e := Option.some.inj h
        subst e
        exact lr_iret C E lr_d_M_at_46 rfl
      · have h := lr_ng hc8 h
        refine lr_iconst (pc := 29) (v := -1) C lr_d_M_at_29 (by decide) ?_
        have e := Option.some.inj h
        subst e
        exact lr_iret C E lr_d_M_at_30 rfl
def lr_L_M_emptySlot_5 (a1 : Int32) : Nat → Int32 → lr_S → Option ((Int32 × lr_S) ⊕ (Int32 × lr_S))
  | 0, _, _ => none
  | f + 1, x2, t => if (((8 : Int32) * a1) + (8 : Int32)) ≤ x2 then (some (.inr (x2, t))) else (if lr_in x2 32 = true then (if (lr_rd t 24 0 x2.toNatClampNeg) = 0 then (some (.inl (x2, t))) else (lr_L_M_emptySlot_5 a1 f (x2 + 1) t)) else none)
set_option maxHeartbeats 4000000 in
theorem lr_t_M_emptySlot_5 {X : lr_X} (C : lr_C X lr_m_M_emptySlot.2.1 lr_R7 lr_m_M_emptySlot.2.2.1 lr_m_M_emptySlot.2.2.2.2.1 lr_m_M_emptySlot.2.2.2.2.2 20 60) (a1 : Int32) : ∀ (f : Nat) (x2 : Int32) (t : lr_S) (o : (Int32 × lr_S) ⊕ (Int32 × lr_S)), lr_L_M_emptySlot_5 a1 f x2 t = some o → (∀ u, o = .inl u → lr_EI X .int u.1 u.2) → (∀ u, o = .inr u → lr_T X 33 [(0, .inr (20, 0)), (1, .inl a1), (2, .inl u.1)] [] u.2) → lr_T X 5 [(0, .inr (20, 0)), (1, .inl a1), (2, .inl x2)] [] t := by
  intro f
  induction f with
  | zero => intro x2 t o h; cases h
  | succ f ih =>
    intro x2 t o h kr kx
    have h := (show (if (((8 : Int32) * a1) + (8 : Int32)) ≤ x2 then (some (.inr (x2, t))) else (if lr_in x2 32 = true then (if (lr_rd t 24 0 x2.toNatClampNeg) = 0 then (some (.inl (x2, t))) else (lr_L_M_emptySlot_5 a1 f (x2 + 1) t)) else none)) = some o from h)
    refine lr_iload_n (pc := 5) C lr_d_M_emptySlot_5 rfl 2 rfl ?_
    refine lr_bipush (pc := 6) (v := 8) C lr_d_M_emptySlot_6 (by decide) ?_
    refine lr_iload_n (pc := 8) C lr_d_M_emptySlot_8 rfl 1 rfl ?_
    refine lr_imul (pc := 9) C lr_d_M_emptySlot_9 ?_
    refine lr_bipush (pc := 10) (v := 8) C lr_d_M_emptySlot_10 (by decide) ?_
    refine lr_iadd (pc := 12) C lr_d_M_emptySlot_12 ?_
    refine lr_icmp_ge (pc := 13) (tgt := 33) C lr_d_M_emptySlot_13 (by decide) (fun hc1 => ?_) (fun hc1 => ?_)
    · have h := lr_ps hc1 h
      refine lr_sub (ls' := [(0, .inr (20, 0)), (1, .inl a1), (2, .inl x2)]) C [0, 1, 2] rfl ?_
      have e := Option.some.inj h
      subst e
      exact kx _ rfl
    · have h := lr_ng hc1 h
      refine lr_aload_n (pc := 16) C lr_d_M_emptySlot_16 rfl 0 rfl ?_
      refine lr_g7_20 (pc := 17) C lr_d_M_emptySlot_17 ?_
      refine lr_iload_n (pc := 20) C lr_d_M_emptySlot_20 rfl 2 rfl ?_
      obtain ⟨hb2, h⟩ := lr_gd h
      refine lr_li24 (pc := 21) C lr_d_M_emptySlot_21 hb2 ?_
      refine lr_if_ne (pc := 22) (tgt := 27) C lr_d_M_emptySlot_22 (by decide) (fun hc3 => ?_) (fun hc3 => ?_)
      · have h := lr_ng hc3 h
        refine lr_iinc (pc := 27) (v := (x2 + 1)) (ls' := [(2, .inl (x2 + 1)), (0, .inr (20, 0)), (1, .inl a1)]) C lr_d_M_emptySlot_27 2 rfl rfl (by decide) rfl ?_
        refine lr_goto (pc := 30) (tgt := 5) C lr_d_M_emptySlot_30 (by decide) ?_
        refine lr_sub (ls' := [(0, .inr (20, 0)), (1, .inl a1), (2, .inl (x2 + 1))]) C [1, 2, 0] rfl ?_
        exact ih (x2 + 1) t o h kr kx
      · have h := lr_ps hc3 h
        refine lr_iload_n (pc := 25) C lr_d_M_emptySlot_25 rfl 2 rfl ?_
        have e := Option.some.inj h
        subst e
        exact lr_iret C (kr _ rfl) lr_d_M_emptySlot_26 rfl
def lr_G_M_emptySlot (a1 : Int32) (t : lr_S) : Option (Int32 × lr_S) := (lr_L_M_emptySlot_5 a1 600 ((8 : Int32) * a1) t).bind fun u4 => Sum.elim (fun v6 => some v6) (fun v6 => some ((-1 : Int32), v6.2)) u4
set_option maxHeartbeats 4000000 in
theorem lr_r_M_emptySlot {a1 : Int32} {t : lr_S} {o : Int32 × lr_S} (h : lr_G_M_emptySlot a1 t = some o) : lr_RI 20 60 lr_m_M_emptySlot [.inr (20, 0), .inl a1] t o.1 o.2 := by
  refine lr_ofI (ty := .int) (own := lr_R7) (by decide) rfl rfl (Nat.le_of_ble_eq_true rfl) (fun X C E => ?_)
  show lr_T X 0 [(0, .inr (20, 0)), (1, .inl a1)] [] t
  have h := (show ((lr_L_M_emptySlot_5 a1 600 ((8 : Int32) * a1) t).bind fun u4 => Sum.elim (fun v6 => some v6) (fun v6 => some ((-1 : Int32), v6.2)) u4) = some o from h)
  refine lr_bipush (pc := 0) (v := 8) C lr_d_M_emptySlot_0 (by decide) ?_
  refine lr_iload_n (pc := 2) C lr_d_M_emptySlot_2 rfl 1 rfl ?_
  refine lr_imul (pc := 3) C lr_d_M_emptySlot_3 ?_
  refine lr_istore_n (pc := 4) (ls' := [(2, .inl ((8 : Int32) * a1)), (0, .inr (20, 0)), (1, .inl a1)]) C lr_d_M_emptySlot_4 rfl (by decide) rfl ?_
  refine lr_sub (ls' := [(0, .inr (20, 0)), (1, .inl a1), (2, .inl ((8 : Int32) * a1))]) C [1, 2, 0] rfl ?_
  obtain ⟨u4, hu5, h⟩ := lr_bd h
  refine lr_t_M_emptySlot_5 C a1 600 ((8 : Int32) * a1) t u4 hu5 (fun v6 e7 => ?_) (fun v6 e7 => ?_)
  · subst e7
    have e := Option.some.inj h
    subst e
    exact E
  · subst e7
    have h := (show (some ((-1 : Int32), v6.2)) = some o from h)
    refine lr_iconst (pc := 33) (v := -1) C lr_d_M_emptySlot_33 (by decide) ?_
    have e := Option.some.inj h
    subst e
    exact lr_iret C E lr_d_M_emptySlot_34 rfl
def lr_L_M_find_6 (a1 : Int32) (a2 : Int32) (a3 : Int32) : Nat → Int32 → lr_S → Option ((Int32 × lr_S) ⊕ (Int32 × lr_S))
  | 0, _, _ => none
  | f + 1, x4, t => if (((8 : Int32) * a1) + (8 : Int32)) ≤ x4 then (some (.inr (x4, t))) else (if lr_in x4 32 = true then (if (lr_rd t 24 0 x4.toNatClampNeg) = a2 then (if (lr_rd t 25 0 x4.toNatClampNeg) = a3 then (some (.inl (x4, t))) else (lr_L_M_find_6 a1 a2 a3 f (x4 + 1) t)) else (lr_L_M_find_6 a1 a2 a3 f (x4 + 1) t)) else none)
set_option maxHeartbeats 4000000 in
theorem lr_t_M_find_6 {X : lr_X} (C : lr_C X lr_m_M_find.2.1 lr_R7 lr_m_M_find.2.2.1 lr_m_M_find.2.2.2.2.1 lr_m_M_find.2.2.2.2.2 20 60) (a1 : Int32) (a2 : Int32) (a3 : Int32) : ∀ (f : Nat) (x4 : Int32) (t : lr_S) (o : (Int32 × lr_S) ⊕ (Int32 × lr_S)), lr_L_M_find_6 a1 a2 a3 f x4 t = some o → (∀ u, o = .inl u → lr_EI X .int u.1 u.2) → (∀ u, o = .inr u → lr_T X 49 [(0, .inr (20, 0)), (1, .inl a1), (2, .inl a2), (3, .inl a3), (4, .inl u.1)] [] u.2) → lr_T X 6 [(0, .inr (20, 0)), (1, .inl a1), (2, .inl a2), (3, .inl a3), (4, .inl x4)] [] t := by
  intro f
  induction f with
  | zero => intro x4 t o h; cases h
  | succ f ih =>
    intro x4 t o h kr kx
    have h := (show (if (((8 : Int32) * a1) + (8 : Int32)) ≤ x4 then (some (.inr (x4, t))) else (if lr_in x4 32 = true then (if (lr_rd t 24 0 x4.toNatClampNeg) = a2 then (if (lr_rd t 25 0 x4.toNatClampNeg) = a3 then (some (.inl (x4, t))) else (lr_L_M_find_6 a1 a2 a3 f (x4 + 1) t)) else (lr_L_M_find_6 a1 a2 a3 f (x4 + 1) t)) else none)) = some o from h)
    refine lr_iload (pc := 6) C lr_d_M_find_6 4 rfl ?_
    refine lr_bipush (pc := 8) (v := 8) C lr_d_M_find_8 (by decide) ?_
    refine lr_iload_n (pc := 10) C lr_d_M_find_10 rfl 1 rfl ?_
    refine lr_imul (pc := 11) C lr_d_M_find_11 ?_
    refine lr_bipush (pc := 12) (v := 8) C lr_d_M_find_12 (by decide) ?_
    refine lr_iadd (pc := 14) C lr_d_M_find_14 ?_
    refine lr_icmp_ge (pc := 15) (tgt := 49) C lr_d_M_find_15 (by decide) (fun hc1 => ?_) (fun hc1 => ?_)
    · have h := lr_ps hc1 h
      refine lr_sub (ls' := [(0, .inr (20, 0)), (1, .inl a1), (2, .inl a2), (3, .inl a3), (4, .inl x4)]) C [0, 1, 2, 3, 4] rfl ?_
      have e := Option.some.inj h
      subst e
      exact kx _ rfl
    · have h := lr_ng hc1 h
      refine lr_aload_n (pc := 18) C lr_d_M_find_18 rfl 0 rfl ?_
      refine lr_g7_20 (pc := 19) C lr_d_M_find_19 ?_
      refine lr_iload (pc := 22) C lr_d_M_find_22 4 rfl ?_
      obtain ⟨hb2, h⟩ := lr_gd h
      refine lr_li24 (pc := 24) C lr_d_M_find_24 hb2 ?_
      refine lr_iload_n (pc := 25) C lr_d_M_find_25 rfl 2 rfl ?_
      refine lr_icmp_ne (pc := 26) (tgt := 43) C lr_d_M_find_26 (by decide) (fun hc3 => ?_) (fun hc3 => ?_)
      · have h := lr_ng hc3 h
        refine lr_iinc (pc := 43) (v := (x4 + 1)) (ls' := [(4, .inl (x4 + 1)), (0, .inr (20, 0)), (1, .inl a1), (2, .inl a2), (3, .inl a3)]) C lr_d_M_find_43 4 rfl rfl (by decide) rfl ?_
        refine lr_goto (pc := 46) (tgt := 6) C lr_d_M_find_46 (by decide) ?_
        refine lr_sub (ls' := [(0, .inr (20, 0)), (1, .inl a1), (2, .inl a2), (3, .inl a3), (4, .inl (x4 + 1))]) C [1, 2, 3, 4, 0] rfl ?_
        exact ih (x4 + 1) t o h kr kx
      · have h := lr_ps hc3 h
        refine lr_aload_n (pc := 29) C lr_d_M_find_29 rfl 0 rfl ?_
        refine lr_g7_23 (pc := 30) C lr_d_M_find_30 ?_
        refine lr_iload (pc := 33) C lr_d_M_find_33 4 rfl ?_
        refine lr_li25 (pc := 35) C lr_d_M_find_35 hb2 ?_
        refine lr_iload_n (pc := 36) C lr_d_M_find_36 rfl 3 rfl ?_
        refine lr_icmp_ne (pc := 37) (tgt := 43) C lr_d_M_find_37 (by decide) (fun hc4 => ?_) (fun hc4 => ?_)
        · have h := lr_ng hc4 h
          refine lr_iinc (pc := 43) (v := (x4 + 1)) (ls' := [(4, .inl (x4 + 1)), (0, .inr (20, 0)), (1, .inl a1), (2, .inl a2), (3, .inl a3)]) C lr_d_M_find_43 4 rfl rfl (by decide) rfl ?_
          refine lr_goto (pc := 46) (tgt := 6) C lr_d_M_find_46 (by decide) ?_
          refine lr_sub (ls' := [(0, .inr (20, 0)), (1, .inl a1), (2, .inl a2), (3, .inl a3), (4, .inl (x4 + 1))]) C [1, 2, 3, 4, 0] rfl ?_
          exact ih (x4 + 1) t o h kr kx
        · have h := lr_ps hc4 h
          refine lr_iload (pc := 40) C lr_d_M_find_40 4 rfl ?_
          have e := Option.some.inj h
          subst e
          exact lr_iret C (kr _ rfl) lr_d_M_find_42 rfl
def lr_G_M_find (a1 : Int32) (a2 : Int32) (a3 : Int32) (t : lr_S) : Option (Int32 × lr_S) := (lr_L_M_find_6 a1 a2 a3 600 ((8 : Int32) * a1) t).bind fun u5 => Sum.elim (fun v7 => some v7) (fun v7 => some ((-1 : Int32), v7.2)) u5
set_option maxHeartbeats 4000000 in
theorem lr_r_M_find {a1 : Int32} {a2 : Int32} {a3 : Int32} {t : lr_S} {o : Int32 × lr_S} (h : lr_G_M_find a1 a2 a3 t = some o) : lr_RI 20 60 lr_m_M_find [.inr (20, 0), .inl a1, .inl a2, .inl a3] t o.1 o.2 := by
  refine lr_ofI (ty := .int) (own := lr_R7) (by decide) rfl rfl (Nat.le_of_ble_eq_true rfl) (fun X C E => ?_)
  show lr_T X 0 [(0, .inr (20, 0)), (1, .inl a1), (2, .inl a2), (3, .inl a3)] [] t
  have h := (show ((lr_L_M_find_6 a1 a2 a3 600 ((8 : Int32) * a1) t).bind fun u5 => Sum.elim (fun v7 => some v7) (fun v7 => some ((-1 : Int32), v7.2)) u5) = some o from h)
  refine lr_bipush (pc := 0) (v := 8) C lr_d_M_find_0 (by decide) ?_
  refine lr_iload_n (pc := 2) C lr_d_M_find_2 rfl 1 rfl ?_
  refine lr_imul (pc := 3) C lr_d_M_find_3 ?_
  refine lr_istore (pc := 4) (ls' := [(4, .inl ((8 : Int32) * a1)), (0, .inr (20, 0)), (1, .inl a1), (2, .inl a2), (3, .inl a3)]) C lr_d_M_find_4 (by decide) rfl ?_
  refine lr_sub (ls' := [(0, .inr (20, 0)), (1, .inl a1), (2, .inl a2), (3, .inl a3), (4, .inl ((8 : Int32) * a1))]) C [1, 2, 3, 4, 0] rfl ?_
  obtain ⟨u5, hu6, h⟩ := lr_bd h
  refine lr_t_M_find_6 C a1 a2 a3 600 ((8 : Int32) * a1) t u5 hu6 (fun v7 e8 => ?_) (fun v7 e8 => ?_)
  · subst e8
    have e := Option.some.inj h
    subst e
    exact E
  · subst e8
    have h := (show (some ((-1 : Int32), v7.2)) = some o from h)
    refine lr_iconst (pc := 49) (v := -1) C lr_d_M_find_49 (by decide) ?_
    have e := Option.some.inj h
    subst e
    exact lr_iret C E lr_d_M_find_50 rfl
def lr_G_M_stale (a1 : Int32) (t : lr_S) : Option (Int32 × lr_S) := if lr_in a1 32 = true then (if (lr_rd t 20 0 0) < (lr_rd t 33 0 a1.toNatClampNeg) then (some ((0 : Int32), t)) else (some ((1 : Int32), t))) else none
set_option maxHeartbeats 4000000 in
theorem lr_r_M_stale {a1 : Int32} {t : lr_S} {o : Int32 × lr_S} (h : lr_G_M_stale a1 t = some o) : lr_RI 20 60 lr_m_M_stale [.inr (20, 0), .inl a1] t o.1 o.2 := by
  refine lr_ofI (ty := .boolean) (own := lr_R7) (by decide) rfl rfl (Nat.le_of_ble_eq_true rfl) (fun X C E => ?_)
  show lr_T X 0 [(0, .inr (20, 0)), (1, .inl a1)] [] t
  have h := (show (if lr_in a1 32 = true then (if (lr_rd t 20 0 0) < (lr_rd t 33 0 a1.toNatClampNeg) then (some ((0 : Int32), t)) else (some ((1 : Int32), t))) else none) = some o from h)
  refine lr_aload_n (pc := 0) C lr_d_M_stale_0 rfl 0 rfl ?_
  refine lr_g7_119 (pc := 1) C lr_d_M_stale_1 ?_
  refine lr_aload_n (pc := 4) C lr_d_M_stale_4 rfl 0 rfl ?_
  refine lr_g7_47 (pc := 5) C lr_d_M_stale_5 ?_
  refine lr_iload_n (pc := 8) C lr_d_M_stale_8 rfl 1 rfl ?_
  obtain ⟨hb1, h⟩ := lr_gd h
  refine lr_li33 (pc := 9) C lr_d_M_stale_9 hb1 ?_
  refine lr_icmp_lt (pc := 10) (tgt := 17) C lr_d_M_stale_10 (by decide) (fun hc2 => ?_) (fun hc2 => ?_)
  · have h := lr_ps hc2 h
    refine lr_iconst (pc := 17) (v := 0) C lr_d_M_stale_17 (by decide) ?_
    have e := Option.some.inj h
    subst e
    exact lr_iret C E lr_d_M_stale_18 (by decide)
  · have h := lr_ng hc2 h
    refine lr_iconst (pc := 13) (v := 1) C lr_d_M_stale_13 (by decide) ?_
    refine lr_goto (pc := 14) (tgt := 18) C lr_d_M_stale_14 (by decide) ?_
    have e := Option.some.inj h
    subst e
    exact lr_iret C E lr_d_M_stale_18 (by decide)
def lr_G_M_nextNumber (a1 : Int32) (t : lr_S) : Option (Int32 × lr_S) := if lr_in a1 4 = true then (some ((lr_rd (lr_wr t 23 0 a1.toNatClampNeg ((lr_rd t 23 0 a1.toNatClampNeg) + (1 : Int32))) 23 0 a1.toNatClampNeg), (lr_wr t 23 0 a1.toNatClampNeg ((lr_rd t 23 0 a1.toNatClampNeg) + (1 : Int32))))) else none
set_option maxHeartbeats 4000000 in
theorem lr_r_M_nextNumber {a1 : Int32} {t : lr_S} {o : Int32 × lr_S} (h : lr_G_M_nextNumber a1 t = some o) : lr_RI 20 60 lr_m_M_nextNumber [.inr (20, 0), .inl a1] t o.1 o.2 := by
  refine lr_ofI (ty := .int) (own := lr_R7) (by decide) rfl rfl (Nat.le_of_ble_eq_true rfl) (fun X C E => ?_)
  show lr_T X 0 [(0, .inr (20, 0)), (1, .inl a1)] [] t
  have h := (show (if lr_in a1 4 = true then (some ((lr_rd (lr_wr t 23 0 a1.toNatClampNeg ((lr_rd t 23 0 a1.toNatClampNeg) + (1 : Int32))) 23 0 a1.toNatClampNeg), (lr_wr t 23 0 a1.toNatClampNeg ((lr_rd t 23 0 a1.toNatClampNeg) + (1 : Int32))))) else none) = some o from h)
  refine lr_aload_n (pc := 0) C lr_d_M_nextNumber_0 rfl 0 rfl ?_
  refine lr_g7_17 (pc := 1) C lr_d_M_nextNumber_1 ?_
  refine lr_iload_n (pc := 4) C lr_d_M_nextNumber_4 rfl 1 rfl ?_
  refine lr_dup2 (pc := 5) C lr_d_M_nextNumber_5 ?_
  obtain ⟨hb1, h⟩ := lr_gd h
  refine lr_li23 (pc := 6) C lr_d_M_nextNumber_6 hb1 ?_
  refine lr_iconst (pc := 7) (v := 1) C lr_d_M_nextNumber_7 (by decide) ?_
  refine lr_iadd (pc := 8) C lr_d_M_nextNumber_8 ?_
  refine lr_si23 (pc := 9) C lr_d_M_nextNumber_9 hb1 ?_
  refine lr_aload_n (pc := 10) C lr_d_M_nextNumber_10 rfl 0 rfl ?_
  refine lr_g7_17 (pc := 11) C lr_d_M_nextNumber_11 ?_
  refine lr_iload_n (pc := 14) C lr_d_M_nextNumber_14 rfl 1 rfl ?_
  refine lr_li23 (pc := 15) C lr_d_M_nextNumber_15 hb1 ?_
  have e := Option.some.inj h
  subst e
  exact lr_iret C E lr_d_M_nextNumber_16 rfl
