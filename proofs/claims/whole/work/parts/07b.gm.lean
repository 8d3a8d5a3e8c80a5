def lr_G_M_sendDirty (a1 : Int32) (t : lr_S) : Option (Int32 × lr_S) := (lr_G_M_nextNumber (a1 / (8 : Int32)) t).bind fun u1 => (if lr_in a1 32 = true then ((lr_G_M_send (2 : Int32) (a1 / (8 : Int32)) (lr_rd u1.2 30 0 a1.toNatClampNeg) (lr_rd u1.2 25 0 a1.toNatClampNeg) u1.1 (lr_rd u1.2 20 0 0) u1.2).bind fun u4 => (some (u1.1, (lr_wr u4 32 0 a1.toNatClampNeg (lr_rd u4 20 0 0))))) else none)
set_option maxHeartbeats 4000000 in
theorem lr_r_M_sendDirty {a1 : Int32} {t : lr_S} {o : Int32 × lr_S} (h : lr_G_M_sendDirty a1 t = some o) : lr_RI 20 60 lr_m_M_sendDirty [.inr (20, 0), .inl a1] t o.1 o.2 := by
  refine lr_ofI (ty := .int) (own := lr_R7) (by decide) rfl rfl (Nat.le_of_ble_eq_true rfl) (fun X C E => ?_)
  show lr_T X 0 [(0, .inr (20, 0)), (1, .inl a1)] [] t
  have h := (show ((lr_G_M_nextNumber (a1 / (8 : Int32)) t).bind fun u1 => (if lr_in a1 32 = true then ((lr_G_M_send (2 : Int32) (a1 / (8 : Int32)) (lr_rd u1.2 30 0 a1.toNatClampNeg) (lr_rd u1.2 25 0 a1.toNatClampNeg) u1.1 (lr_rd u1.2 20 0 0) u1.2).bind fun u4 => (some (u1.1, (lr_wr u4 32 0 a1.toNatClampNeg (lr_rd u4 20 0 0))))) else none)) = some o from h)
  refine lr_iload_n (pc := 0) C lr_d_M_sendDirty_0 rfl 1 rfl ?_
  refine lr_bipush (pc := 1) (v := 8) C lr_d_M_sendDirty_1 (by decide) ?_
  refine lr_idiv (pc := 3) C lr_d_M_sendDirty_3 (by decide) ?_
  refine lr_istore_n (pc := 4) (ls' := [(2, .inl (a1 / (8 : Int32))), (0, .inr (20, 0)), (1, .inl a1)]) C lr_d_M_sendDirty_4 rfl (by decide) rfl ?_
  refine lr_aload_n (pc := 5) C lr_d_M_sendDirty_5 rfl 1 rfl ?_
  refine lr_iload_n (pc := 6) C lr_d_M_sendDirty_6 rfl 0 rfl ?_
  obtain ⟨u1, hu2, h⟩ := lr_bd h
  refine lr_callVi (pc := 7) (as := [.inl (a1 / (8 : Int32))]) (st := []) (fs := fun ad => lr_fs7 t 0 ad) C (lr_r_M_nextNumber hu2) lr_c7_122 lr_d_M_sendDirty_7 rfl rfl (fun _ _ => rfl) (ci := 7) rfl rfl ⟨by decide, by decide⟩ (Nat.le_of_ble_eq_true rfl) ?_
  refine lr_istore_n (pc := 10) (ls' := [(3, .inl u1.1), (2, .inl (a1 / (8 : Int32))), (0, .inr (20, 0)), (1, .inl a1)]) C lr_d_M_sendDirty_10 rfl (by decide) rfl ?_
  refine lr_aload_n (pc := 11) C lr_d_M_sendDirty_11 rfl 2 rfl ?_
  refine lr_iconst (pc := 12) (v := 2) C lr_d_M_sendDirty_12 (by decide) ?_
  refine lr_iload_n (pc := 13) C lr_d_M_sendDirty_13 rfl 1 rfl ?_
  refine lr_aload_n (pc := 14) C lr_d_M_sendDirty_14 rfl 2 rfl ?_
  refine lr_g7_38 (pc := 15) C lr_d_M_sendDirty_15 ?_
  refine lr_iload_n (pc := 18) C lr_d_M_sendDirty_18 rfl 3 rfl ?_
  obtain ⟨hb3, h⟩ := lr_gd h
  refine lr_li30 (pc := 19) C lr_d_M_sendDirty_19 hb3 ?_
  refine lr_aload_n (pc := 20) C lr_d_M_sendDirty_20 rfl 2 rfl ?_
  refine lr_g7_23 (pc := 21) C lr_d_M_sendDirty_21 ?_
  refine lr_iload_n (pc := 24) C lr_d_M_sendDirty_24 rfl 3 rfl ?_
  refine lr_li25 (pc := 25) C lr_d_M_sendDirty_25 hb3 ?_
  refine lr_iload_n (pc := 26) C lr_d_M_sendDirty_26 rfl 0 rfl ?_
  refine lr_aload_n (pc := 27) C lr_d_M_sendDirty_27 rfl 2 rfl ?_
  refine lr_g7_119 (pc := 28) C lr_d_M_sendDirty_28 ?_
  obtain ⟨u4, hu5, h⟩ := lr_bd h
  refine lr_callVv (pc := 31) (as := [.inl (2 : Int32), .inl (a1 / (8 : Int32)), .inl (lr_rd u1.2 30 0 a1.toNatClampNeg), .inl (lr_rd u1.2 25 0 a1.toNatClampNeg), .inl u1.1, .inl (lr_rd u1.2 20 0 0)]) (st := []) (fs := fun ad => lr_fs7 u1.2 0 ad) C (lr_r_M_send hu5) lr_c7_126 lr_d_M_sendDirty_31 rfl rfl (fun _ _ => rfl) (ci := 7) rfl rfl ⟨by decide, by decide⟩ (Nat.le_of_ble_eq_true rfl) ?_
  refine lr_aload_n (pc := 34) C lr_d_M_sendDirty_34 rfl 2 rfl ?_
  refine lr_g7_44 (pc := 35) C lr_d_M_sendDirty_35 ?_
  refine lr_iload_n (pc := 38) C lr_d_M_sendDirty_38 rfl 3 rfl ?_
  refine lr_aload_n (pc := 39) C lr_d_M_sendDirty_39 rfl 2 rfl ?_
  refine lr_g7_119 (pc := 40) C lr_d_M_sendDirty_40 ?_
  refine lr_si32 (pc := 43) C lr_d_M_sendDirty_43 hb3 ?_
  refine lr_iload_n (pc := 44) C lr_d_M_sendDirty_44 rfl 0 rfl ?_
  have e := Option.some.inj h
  subst e
  exact lr_iret C E lr_d_M_sendDirty_45 rfl
def lr_G_M_make (a1 : Int32) (a2 : Int32) (t : lr_S) : Option (Int32 × lr_S) := (lr_G_M_lives a1 t).bind fun u1 => (if u1.1 = 0 then (some ((-1 : Int32), u1.2)) else ((lr_G_M_within a2 (3 : Int32) u1.2).bind fun u4 => (if u4.1 = 0 then (some ((-1 : Int32), u4.2)) else ((lr_G_M_emptySlot a1 u4.2).bind fun u7 => (if 0 ≤ u7.1 then (if lr_in u7.1 32 = true then ((some (lr_wr (lr_wr u7.2 24 0 u7.1.toNatClampNeg (1 : Int32)) 25 0 u7.1.toNatClampNeg (lr_rd (lr_wr u7.2 24 0 u7.1.toNatClampNeg (1 : Int32)) 20 0 17))).bind fun t11 => (if lr_in ((2 : Int32) * u7.1) 64 = true then ((some (lr_wr (lr_wr t11 26 0 u7.1.toNatClampNeg (0 : Int32)) 27 0 ((2 : Int32) * u7.1).toNatClampNeg (-1 : Int32))).bind fun t14 => (if lr_in (((2 : Int32) * u7.1) + (1 : Int32)) 64 = true then (if lr_in (((4 : Int32) * u7.1) + (0 : Int32)) 128 = true then ((some (lr_wr (lr_wr t14 27 0 (((2 : Int32) * u7.1) + (1 : Int32)).toNatClampNeg (-1 : Int32)) 28 0 (((4 : Int32) * u7.1) + (0 : Int32)).toNatClampNeg (0 : Int32))).bind fun t18 => (if lr_in (((4 : Int32) * u7.1) + (1 : Int32)) 128 = true then ((some (lr_wr (lr_wr t18 29 0 (((4 : Int32) * u7.1) + (0 : Int32)).toNatClampNeg (0 : Int32)) 28 0 (((4 : Int32) * u7.1) + (1 : Int32)).toNatClampNeg (0 : Int32))).bind fun t21 => (if lr_in (((4 : Int32) * u7.1) + (2 : Int32)) 128 = true then ((some (lr_wr (lr_wr t21 29 0 (((4 : Int32) * u7.1) + (1 : Int32)).toNatClampNeg (0 : Int32)) 28 0 (((4 : Int32) * u7.1) + (2 : Int32)).toNatClampNeg (0 : Int32))).bind fun t24 => (if lr_in (((4 : Int32) * u7.1) + (3 : Int32)) 128 = true then ((some (lr_wr (lr_wr t24 29 0 (((4 : Int32) * u7.1) + (2 : Int32)).toNatClampNeg (0 : Int32)) 28 0 (((4 : Int32) * u7.1) + (3 : Int32)).toNatClampNeg (0 : Int32))).bind fun t27 => (if lr_in (((3 : Int32) * a1) + a2) 12 = true then ((some (lr_wr (lr_wr t27 29 0 (((4 : Int32) * u7.1) + (3 : Int32)).toNatClampNeg (0 : Int32)) 22 0 (((3 : Int32) * a1) + a2).toNatClampNeg (u7.1 - u7.1 / (8 : Int32) * (8 : Int32)))).bind fun t30 => (some (((lr_rd (lr_wr t30 20 0 17 ((lr_rd t30 20 0 17) + (1 : Int32))) 20 0 17) - (1 : Int32)), (lr_wr t30 20 0 17 ((lr_rd t30 20 0 17) + (1 : Int32)))))) else none)) else none)) else none)) else none)) else none) else none)) else none)) else none) else (some ((-1 : Int32), u7.2)))))))
set_option maxHeartbeats 4000000 in
theorem lr_r_M_make {a1 : Int32} {a2 : Int32} {t : lr_S} {o : Int32 × lr_S} (h : lr_G_M_make a1 a2 t = some o) : lr_RI 20 60 lr_m_M_make [.inr (20, 0), .inl a1, .inl a2] t o.1 o.2 := by
  refine lr_ofI (ty := .int) (own := lr_R7) (by decide) rfl rfl (Nat.le_of_ble_eq_true rfl) (fun X C E => ?_)
  show lr_T X 0 [(0, .inr (20, 0)), (1, .inl a1), (2, .inl a2)] [] t
  have h := (show ((lr_G_M_lives a1 t).bind fun u1 => (if u1.1 = 0 then (some ((-1 : Int32), u1.2)) else ((lr_G_M_within a2 (3 : Int32) u1.2).bind fun u4 => (if u4.1 = 0 then (some ((-1 : Int32), u4.2)) else ((lr_G_M_emptySlot a1 u4.2).bind fun u7 => (if 0 ≤ u7.1 then (if lr_in u7.1 32 = true then ((some (lr_wr (lr_wr u7.2 24 0 u7.1.toNatClampNeg (1 : Int32)) 25 0 u7.1.toNatClampNeg (lr_rd (lr_wr u7.2 24 0 u7.1.toNatClampNeg (1 : Int32)) 20 0 17))).bind fun t11 => (if lr_in ((2 : Int32) * u7.1) 64 = true then ((some (lr_wr (lr_wr t11 26 0 u7.1.toNatClampNeg (0 : Int32)) 27 0 ((2 : Int32) * u7.1).toNatClampNeg (-1 : Int32))).bind fun t14 => (if lr_in (((2 : Int32) * u7.1) + (1 : Int32)) 64 = true then (if lr_in (((4 : Int32) * u7.1) + (0 : Int32)) 128 = true then ((some (lr_wr (lr_wr t14 27 0 (((2 : Int32) * u7.1) + (1 : Int32)).toNatClampNeg (-1 : Int32)) 28 0 (((4 : Int32) * u7.1) + (0 : Int32)).toNatClampNeg (0 : Int32))).bind fun t18 => (if lr_in (((4 : Int32) * u7.1) + (1 : Int32)) 128 = true then ((some (lr_wr (lr_wr t18 29 0 (((4 : Int32) * u7.1) + (0 : Int32)).toNatClampNeg (0 : Int32)) 28 0 (((4 : Int32) * u7.1) + (1 : Int32)).toNatClampNeg (0 : Int32))).bind fun t21 => (if lr_in (((4 : Int32) * u7.1) + (2 : Int32)) 128 = true then ((some (lr_wr (lr_wr t21 29 0 (((4 : Int32) * u7.1) + (1 : Int32)).toNatClampNeg (0 : Int32)) 28 0 (((4 : Int32) * u7.1) + (2 : Int32)).toNatClampNeg (0 : Int32))).bind fun t24 => (if lr_in (((4 : Int32) * u7.1) + (3 : Int32)) 128 = true then ((some (lr_wr (lr_wr t24 29 0 (((4 : Int32) * u7.1) + (2 : Int32)).toNatClampNeg (0 : Int32)) 28 0 (((4 : Int32) * u7.1) + (3 : Int32)).toNatClampNeg (0 : Int32))).bind fun t27 => (if lr_in (((3 : Int32) * a1) + a2) 12 = true then ((some (lr_wr (lr_wr t27 29 0 (((4 : Int32) * u7.1) + (3 : Int32)).toNatClampNeg (0 : Int32)) 22 0 (((3 : Int32) * a1) + a2).toNatClampNeg (u7.1 - u7.1 / (8 : Int32) * (8 : Int32)))).bind fun t30 => (some (((lr_rd (lr_wr t30 20 0 17 ((lr_rd t30 20 0 17) + (1 : Int32))) 20 0 17) - (1 : Int32)), (lr_wr t30 20 0 17 ((lr_rd t30 20 0 17) + (1 : Int32)))))) else none)) else none)) else none)) else none)) else none) else none)) else none)) else none) else (some ((-1 : Int32), u7.2)))))))) = some o from h)
  refine lr_aload_n (pc := 0) C lr_d_M_make_0 rfl 0 rfl ?_
  refine lr_iload_n (pc := 1) C lr_d_M_make_1 rfl 1 rfl ?_
  obtain ⟨u1, hu2, h⟩ := lr_bd h
  refine lr_callVi (pc := 2) (as := [.inl a1]) (st := []) (fs := fun ad => lr_fs7 t 0 ad) C (lr_r_M_lives hu2) lr_c7_115 lr_d_M_make_2 rfl rfl (fun _ _ => rfl) (ci := 7) rfl rfl ⟨by decide, by decide⟩ (Nat.le_of_ble_eq_true rfl) ?_
  refine lr_if_eq (pc := 5) (tgt := 16) C lr_d_M_make_5 (by decide) (fun hc3 => ?_) (fun hc3 => ?_)
  · have h := lr_ps hc3 h
    refine lr_iconst (pc := 16) (v := -1) C lr_d_M_make_16 (by decide) ?_
    have e := Option.some.inj h
    subst e
    exact lr_iret C E lr_d_M_make_17 rfl
  · have h := lr_ng hc3 h
    refine lr_iload_n (pc := 8) C lr_d_M_make_8 rfl 2 rfl ?_
    refine lr_iconst (pc := 9) (v := 3) C lr_d_M_make_9 (by decide) ?_
    obtain ⟨u4, hu5, h⟩ := lr_bd h
    refine lr_callSi (pc := 10) (as := [.inl a2, .inl (3 : Int32)]) (st := []) C (lr_r_M_within hu5) lr_c7_107 lr_d_M_make_10 rfl rfl ⟨by decide, by decide⟩ (Nat.le_of_ble_eq_true rfl) ?_
    refine lr_if_ne (pc := 13) (tgt := 18) C lr_d_M_make_13 (by decide) (fun hc6 => ?_) (fun hc6 => ?_)
    · have h := lr_ng hc6 h
      refine lr_aload_n (pc := 18) C lr_d_M_make_18 rfl 0 rfl ?_
      refine lr_iload_n (pc := 19) C lr_d_M_make_19 rfl 1 rfl ?_
      obtain ⟨u7, hu8, h⟩ := lr_bd h
      refine lr_callVi (pc := 20) (as := [.inl a1]) (st := []) (fs := fun ad => lr_fs7 u4.2 0 ad) C (lr_r_M_emptySlot hu8) lr_c7_130 lr_d_M_make_20 rfl rfl (fun _ _ => rfl) (ci := 7) rfl rfl ⟨by decide, by decide⟩ (Nat.le_of_ble_eq_true rfl) ?_
      refine lr_istore_n (pc := 23) (ls' := [(3, .inl u7.1), (0, .inr (20, 0)), (1, .inl a1), (2, .inl a2)]) C lr_d_M_make_23 rfl (by decide) rfl ?_
      refine lr_iload_n (pc := 24) C lr_d_M_make_24 rfl 0 rfl ?_
      refine lr_if_ge (pc := 25) (tgt := 30) C lr_d_M_make_25 (by decide) (fun hc9 => ?_) (fun hc9 => ?_)
      · have h := lr_ps hc9 h
        refine lr_aload_n (pc := 30) C lr_d_M_make_30 rfl 1 rfl ?_
        refine lr_g7_20 (pc := 31) C lr_d_M_make_31 ?_
        refine lr_iload_n (pc := 34) C lr_d_M_make_34 rfl 0 rfl ?_
        refine lr_iconst (pc := 35) (v := 1) C lr_d_M_make_35 (by decide) ?_
        obtain ⟨hb10, h⟩ := lr_gd h
        refine lr_si24 (pc := 36) C lr_d_M_make_36 hb10 ?_
        refine lr_aload_n (pc := 37) C lr_d_M_make_37 rfl 1 rfl ?_
        refine lr_g7_23 (pc := 38) C lr_d_M_make_38 ?_
        refine lr_iload_n (pc := 41) C lr_d_M_make_41 rfl 0 rfl ?_
        refine lr_aload_n (pc := 42) C lr_d_M_make_42 rfl 1 rfl ?_
        refine lr_g7_133 (pc := 43) C lr_d_M_make_43 ?_
        refine lr_si25 (pc := 46) C lr_d_M_make_46 hb10 ?_
        obtain ⟨t11, ht12, h⟩ := lr_bd h
        rw [Option.some.inj ht12]
        refine lr_aload_n (pc := 47) C lr_d_M_make_47 rfl 1 rfl ?_
        refine lr_g7_26 (pc := 48) C lr_d_M_make_48 ?_
        refine lr_iload_n (pc := 51) C lr_d_M_make_51 rfl 0 rfl ?_
        refine lr_iconst (pc := 52) (v := 0) C lr_d_M_make_52 (by decide) ?_
        refine lr_si26 (pc := 53) C lr_d_M_make_53 hb10 ?_
        refine lr_aload_n (pc := 54) C lr_d_M_make_54 rfl 1 rfl ?_
        refine lr_g7_29 (pc := 55) C lr_d_M_make_55 ?_
        refine lr_iconst (pc := 58) (v := 2) C lr_d_M_make_58 (by decide) ?_
        refine lr_iload_n (pc := 59) C lr_d_M_make_59 rfl 0 rfl ?_
        refine lr_imul (pc := 60) C lr_d_M_make_60 ?_
        refine lr_iconst (pc := 61) (v := -1) C lr_d_M_make_61 (by decide) ?_
        obtain ⟨hb13, h⟩ := lr_gd h
        refine lr_si27 (pc := 62) C lr_d_M_make_62 hb13 ?_
        obtain ⟨t14, ht15, h⟩ := lr_bd h
        rw [Option.some.inj ht15]
        refine lr_aload_n (pc := 63) C lr_d_M_make_63 rfl 1 rfl ?_
        refine lr_g7_29 (pc := 64) C lr_d_M_make_64 ?_
        refine lr_iconst (pc := 67) (v := 2) C lr_d_M_make_67 (by decide) ?_
        refine lr_iload_n (pc := 68) C lr_d_M_make_68 rfl 0 rfl ?_
        refine lr_imul (pc := 69) C lr_d_M_make_69 ?_
        refine lr_iconst (pc := 70) (v := 1) C lr_d_M_make_70 (by decide) ?_
        refine lr_iadd (pc := 71) C lr_d_M_make_71 ?_
        refine lr_iconst (pc := 72) (v := -1) C lr_d_M_make_72 (by decide) ?_
        obtain ⟨hb16, h⟩ := lr_gd h
        refine lr_si27 (pc := 73) C lr_d_M_make_73 hb16 ?_
        refine lr_iconst (pc := 74) (v := 0) C lr_d_M_make_74 (by decide) ?_
        refine lr_istore (pc := 75) (ls' := [(4, .inl (0 : Int32)), (3, .inl u7.1), (0, .inr (20, 0)), (1, .inl a1), (2, .inl a2)]) C lr_d_M_make_75 (by decide) rfl ?_
        refine lr_iload (pc := 77) C lr_d_M_make_77 0 rfl ?_
        refine lr_iconst (pc := 79) (v := 4) C lr_d_M_make_79 (by decide) ?_
        refine lr_icmp_ge (pc := 80) (tgt := 113) C lr_d_M_make_80 (by decide) (fun hc => absurd hc (by decide)) (fun _ => ?_)
        refine lr_aload_n (pc := 83) C lr_d_M_make_83 rfl 2 rfl ?_
        refine lr_g7_32 (pc := 84) C lr_d_M_make_84 ?_
        refine lr_iconst (pc := 87) (v := 4) C lr_d_M_make_87 (by decide) ?_
        refine lr_iload_n (pc := 88) C lr_d_M_make_88 rfl 1 rfl ?_
        refine lr_imul (pc := 89) C lr_d_M_make_89 ?_
        refine lr_iload (pc := 90) C lr_d_M_make_90 0 rfl ?_
        refine lr_iadd (pc := 92) C lr_d_M_make_92 ?_
        refine lr_iconst (pc := 93) (v := 0) C lr_d_M_make_93 (by decide) ?_
        obtain ⟨hb17, h⟩ := lr_gd h
        refine lr_si28 (pc := 94) C lr_d_M_make_94 hb17 ?_
        obtain ⟨t18, ht19, h⟩ := lr_bd h
        rw [Option.some.inj ht19]
        refine lr_aload_n (pc := 95) C lr_d_M_make_95 rfl 2 rfl ?_
        refine lr_g7_35 (pc := 96) C lr_d_M_make_96 ?_
        refine lr_iconst (pc := 99) (v := 4) C lr_d_M_make_99 (by decide) ?_
        refine lr_iload_n (pc := 100) C lr_d_M_make_100 rfl 1 rfl ?_
        refine lr_imul (pc := 101) C lr_d_M_make_101 ?_
        refine lr_iload (pc := 102) C lr_d_M_make_102 0 rfl ?_
        refine lr_iadd (pc := 104) C lr_d_M_make_104 ?_
        refine lr_iconst (pc := 105) (v := 0) C lr_d_M_make_105 (by decide) ?_
        refine lr_si29 (pc := 106) C lr_d_M_make_106 hb17 ?_
        refine lr_iinc (pc := 107) (v := (1 : Int32)) (ls' := [(4, .inl (1 : Int32)), (3, .inl u7.1), (0, .inr (20, 0)), (1, .inl a1), (2, .inl a2)]) C lr_d_M_make_107 0 rfl (by decide) (by decide) rfl ?_
        refine lr_goto (pc := 110) (tgt := 77) C lr_d_M_make_110 (by decide) ?_
        refine lr_iload (pc := 77) C lr_d_M_make_77 0 rfl ?_
        refine lr_iconst (pc := 79) (v := 4) C lr_d_M_make_79 (by decide) ?_
        refine lr_icmp_ge (pc := 80) (tgt := 113) C lr_d_M_make_80 (by decide) (fun hc => absurd hc (by decide)) (fun _ => ?_)
        refine lr_aload_n (pc := 83) C lr_d_M_make_83 rfl 2 rfl ?_
        refine lr_g7_32 (pc := 84) C lr_d_M_make_84 ?_
        refine lr_iconst (pc := 87) (v := 4) C lr_d_M_make_87 (by decide) ?_
        refine lr_iload_n (pc := 88) C lr_d_M_make_88 rfl 1 rfl ?_
        refine lr_imul (pc := 89) C lr_d_M_make_89 ?_
        refine lr_iload (pc := 90) C lr_d_M_make_90 0 rfl ?_
        refine lr_iadd (pc := 92) C lr_d_M_make_92 ?_
        refine lr_iconst (pc := 93) (v := 0) C lr_d_M_make_93 (by decide) ?_
        obtain ⟨hb20, h⟩ := lr_gd h
        refine lr_si28 (pc := 94) C lr_d_M_make_94 hb20 ?_
        obtain ⟨t21, ht22, h⟩ := lr_bd h
        rw [Option.some.inj ht22]
        refine lr_aload_n (pc := 95) C lr_d_M_make_95 rfl 2 rfl ?_
        refine lr_g7_35 (pc := 96) C lr_d_M_make_96 ?_
        refine lr_iconst (pc := 99) (v := 4) C lr_d_M_make_99 (by decide) ?_
        refine lr_iload_n (pc := 100) C lr_d_M_make_100 rfl 1 rfl ?_
        refine lr_imul (pc := 101) C lr_d_M_make_101 ?_
        refine lr_iload (pc := 102) C lr_d_M_make_102 0 rfl ?_
        refine lr_iadd (pc := 104) C lr_d_M_make_104 ?_
        refine lr_iconst (pc := 105) (v := 0) C lr_d_M_make_105 (by decide) ?_
        refine lr_si29 (pc := 106) C lr_d_M_make_106 hb20 ?_
        refine lr_iinc (pc := 107) (v := (2 : Int32)) (ls' := [(4, .inl (2 : Int32)), (3, .inl u7.1), (0, .inr (20, 0)), (1, .inl a1), (2, .inl a2)]) C lr_d_M_make_107 0 rfl (by decide) (by decide) rfl ?_
        refine lr_goto (pc := 110) (tgt := 77) C lr_d_M_make_110 (by decide) ?_
        refine lr_iload (pc := 77) C lr_d_M_make_77 0 rfl ?_
        refine lr_iconst (pc := 79) (v := 4) C lr_d_M_make_79 (by decide) ?_
        refine lr_icmp_ge (pc := 80) (tgt := 113) C lr_d_M_make_80 (by decide) (fun hc => absurd hc (by decide)) (fun _ => ?_)
        refine lr_aload_n (pc := 83) C lr_d_M_make_83 rfl 2 rfl ?_
        refine lr_g7_32 (pc := 84) C lr_d_M_make_84 ?_
        refine lr_iconst (pc := 87) (v := 4) C lr_d_M_make_87 (by decide) ?_
        refine lr_iload_n (pc := 88) C lr_d_M_make_88 rfl 1 rfl ?_
        refine lr_imul (pc := 89) C lr_d_M_make_89 ?_
        refine lr_iload (pc := 90) C lr_d_M_make_90 0 rfl ?_
        refine lr_iadd (pc := 92) C lr_d_M_make_92 ?_
        refine lr_iconst (pc := 93) (v := 0) C lr_d_M_make_93 (by decide) ?_
        obtain ⟨hb23, h⟩ := lr_gd h
        refine lr_si28 (pc := 94) C lr_d_M_make_94 hb23 ?_
        obtain ⟨t24, ht25, h⟩ := lr_bd h
        rw [Option.some.inj ht25]
        refine lr_aload_n (pc := 95) C lr_d_M_make_95 rfl 2 rfl ?_
        refine lr_g7_35 (pc := 96) C lr_d_M_make_96 ?_
        refine lr_iconst (pc := 99) (v := 4) C lr_d_M_make_99 (by decide) ?_
        refine lr_iload_n (pc := 100) C lr_d_M_make_100 rfl 1 rfl ?_
        refine lr_imul (pc := 101) C lr_d_M_make_101 ?_
        refine lr_iload (pc := 102) C lr_d_M_make_102 0 rfl ?_
        refine lr_iadd (pc := 104) C lr_d_M_make_104 ?_
        refine lr_iconst (pc := 105) (v := 0) C lr_d_M_make_105 (by decide) ?_
        refine lr_si29 (pc := 106) C lr_d_M_make_106 hb23 ?_
        refine lr_iinc (pc := 107) (v := (3 : Int32)) (ls' := [(4, .inl (3 : Int32)), (3, .inl u7.1), (0, .inr (20, 0)), (1, .inl a1), (2, .inl a2)]) C lr_d_M_make_107 0 rfl (by decide) (by decide) rfl ?_
        refine lr_goto (pc := 110) (tgt := 77) C lr_d_M_make_110 (by decide) ?_
        refine lr_iload (pc := 77) C lr_d_M_make_77 0 rfl ?_
        refine lr_iconst (pc := 79) (v := 4) C lr_d_M_make_79 (by decide) ?_
        refine lr_icmp_ge (pc := 80) (tgt := 113) C lr_d_M_make_80 (by decide) (fun hc => absurd hc (by decide)) (fun _ => ?_)
        refine lr_aload_n (pc := 83) C lr_d_M_make_83 rfl 2 rfl ?_
        refine lr_g7_32 (pc := 84) C lr_d_M_make_84 ?_
        refine lr_iconst (pc := 87) (v := 4) C lr_d_M_make_87 (by decide) ?_
        refine lr_iload_n (pc := 88) C lr_d_M_make_88 rfl 1 rfl ?_
        refine lr_imul (pc := 89) C lr_d_M_make_89 ?_
        refine lr_iload (pc := 90) C lr_d_M_make_90 0 rfl ?_
        refine lr_iadd (pc := 92) C lr_d_M_make_92 ?_
        refine lr_iconst (pc := 93) (v := 0) C lr_d_M_make_93 (by decide) ?_
        obtain ⟨hb26, h⟩ := lr_gd h
        refine lr_si28 (pc := 94) C lr_d_M_make_94 hb26 ?_
        obtain ⟨t27, ht28, h⟩ := lr_bd h
        rw [Option.some.inj ht28]
        refine lr_aload_n (pc := 95) C lr_d_M_make_95 rfl 2 rfl ?_
        refine lr_g7_35 (pc := 96) C lr_d_M_make_96 ?_
        refine lr_iconst (pc := 99) (v := 4) C lr_d_M_make_99 (by decide) ?_
        refine lr_iload_n (pc := 100) C lr_d_M_make_100 rfl 1 rfl ?_
        refine lr_imul (pc := 101) C lr_d_M_make_101 ?_
        refine lr_iload (pc := 102) C lr_d_M_make_102 0 rfl ?_
        refine lr_iadd (pc := 104) C lr_d_M_make_104 ?_
        refine lr_iconst (pc := 105) (v := 0) C lr_d_M_make_105 (by decide) ?_
        refine lr_si29 (pc := 106) C lr_d_M_make_106 hb26 ?_
        refine lr_iinc (pc := 107) (v := (4 : Int32)) (ls' := [(4, .inl (4 : Int32)), (3, .inl u7.1), (0, .inr (20, 0)), (1, .inl a1), (2, .inl a2)]) C lr_d_M_make_107 0 rfl (by decide) (by decide) rfl ?_
        refine lr_goto (pc := 110) (tgt := 77) C lr_d_M_make_110 (by decide) ?_
        refine lr_iload (pc := 77) C lr_d_M_make_77 0 rfl ?_
        refine lr_iconst (pc := 79) (v := 4) C lr_d_M_make_79 (by decide) ?_
        refine lr_icmp_ge (pc := 80) (tgt := 113) C lr_d_M_make_80 (by decide) (fun _ => ?_) (fun hc => absurd hc (by decide))
        refine lr_aload_n (pc := 113) C lr_d_M_make_113 rfl 2 rfl ?_
        refine lr_g7_13 (pc := 114) C lr_d_M_make_114 ?_
        refine lr_iconst (pc := 117) (v := 3) C lr_d_M_make_117 (by decide) ?_
        refine lr_iload_n (pc := 118) C lr_d_M_make_118 rfl 3 rfl ?_
        refine lr_imul (pc := 119) C lr_d_M_make_119 ?_
        refine lr_iload_n (pc := 120) C lr_d_M_make_120 rfl 4 rfl ?_
        refine lr_iadd (pc := 121) C lr_d_M_make_121 ?_
        refine lr_iload_n (pc := 122) C lr_d_M_make_122 rfl 1 rfl ?_
        refine lr_bipush (pc := 123) (v := 8) C lr_d_M_make_123 (by decide) ?_
        refine lr_irem (pc := 125) C lr_d_M_make_125 (by decide) ?_
        obtain ⟨hb29, h⟩ := lr_gd h
        refine lr_si22 (pc := 126) C lr_d_M_make_126 hb29 ?_
        obtain ⟨t30, ht31, h⟩ := lr_bd h
        rw [Option.some.inj ht31]
        refine lr_aload_n (pc := 127) C lr_d_M_make_127 rfl 2 rfl ?_
        refine lr_dup (pc := 128) C lr_d_M_make_128 ?_
        refine lr_g7_133 (pc := 129) C lr_d_M_make_129 ?_
        refine lr_iconst (pc := 132) (v := 1) C lr_d_M_make_132 (by decide) ?_
        refine lr_iadd (pc := 133) C lr_d_M_make_133 ?_
        refine lr_p7_133 (pc := 134) C lr_d_M_make_134 ?_
        refine lr_aload_n (pc := 137) C lr_d_M_make_137 rfl 2 rfl ?_
        refine lr_g7_133 (pc := 138) C lr_d_M_make_138 ?_
        refine lr_iconst (pc := 141) (v := 1) C lr_d_M_make_141 (by decide) ?_
        refine lr_isub (pc := 142) C lr_d_M_make_142 ?_
        have e := Option.some.inj h
        subst e
        exact lr_iret C E lr_d_M_make_143 rfl
      · have h := lr_ng hc9 h
        refine lr_iconst (pc := 28) (v := -1) C lr_d_M_make_28 (by decide) ?_
        have e := Option.some.inj h
        subst e
        exact lr_iret C E lr_d_M_make_29 rfl
    · have h := lr_ps hc6 h
      refine lr_iconst (pc := 16) (v := -1) C lr_d_M_make_16 (by decide) ?_
      have e := Option.some.inj h
      subst e
      exact lr_iret C E lr_d_M_make_17 rfl
def lr_G_M_link (a1 : Int32) (a2 : Int32) (a3 : Int32) (a4 : Int32) (t : lr_S) : Option (Int32 × lr_S) := (lr_G_M_at a1 a2 t).bind fun u1 => (if u1.1 < 0 then (some ((0 : Int32), u1.2)) else (if lr_in u1.1 32 = true then (if (lr_rd u1.2 24 0 u1.1.toNatClampNeg) = (1 : Int32) then ((lr_G_M_within a3 (2 : Int32) u1.2).bind fun u6 => (if u6.1 = 0 then (some ((0 : Int32), u6.2)) else (if a4 = (-1 : Int32) then (if lr_in (((2 : Int32) * u1.1) + a3) 64 = true then (some ((1 : Int32), (lr_wr u6.2 27 0 (((2 : Int32) * u1.1) + a3).toNatClampNeg (-1 : Int32)))) else none) else ((lr_G_M_within a4 (3 : Int32) u6.2).bind fun u11 => (if u11.1 = 0 then (some ((0 : Int32), u11.2)) else (if lr_in (((3 : Int32) * a1) + a4) 12 = true then (if lr_in (((2 : Int32) * u1.1) + a3) 64 = true then ((some (lr_wr u11.2 27 0 (((2 : Int32) * u1.1) + a3).toNatClampNeg (lr_rd u11.2 22 0 (((3 : Int32) * a1) + a4).toNatClampNeg))).bind fun t16 => (some ((1 : Int32), t16))) else none) else none)))))) else (some ((0 : Int32), u1.2))) else none))
set_option maxHeartbeats 4000000 in
theorem lr_r_M_link {a1 : Int32} {a2 : Int32} {a3 : Int32} {a4 : Int32} {t : lr_S} {o : Int32 × lr_S} (h : lr_G_M_link a1 a2 a3 a4 t = some o) : lr_RI 20 60 lr_m_M_link [.inr (20, 0), .inl a1, .inl a2, .inl a3, .inl a4] t o.1 o.2 := by
  refine lr_ofI (ty := .boolean) (own := lr_R7) (by decide) rfl rfl (Nat.le_of_ble_eq_true rfl) (fun X C E => ?_)
  show lr_T X 0 [(0, .inr (20, 0)), (1, .inl a1), (2, .inl a2), (3, .inl a3), (4, .inl a4)] [] t
  have h := (show ((lr_G_M_at a1 a2 t).bind fun u1 => (if u1.1 < 0 then (some ((0 : Int32), u1.2)) else (if lr_in u1.1 32 = true then (if (lr_rd u1.2 24 0 u1.1.toNatClampNeg) = (1 : Int32) then ((lr_G_M_within a3 (2 : Int32) u1.2).bind fun u6 => (if u6.1 = 0 then (some ((0 : Int32), u6.2)) else (if a4 = (-1 : Int32) then (if lr_in (((2 : Int32) * u1.1) + a3) 64 = true then (some ((1 : Int32), (lr_wr u6.2 27 0 (((2 : Int32) * u1.1) + a3).toNatClampNeg (-1 : Int32)))) else none) else ((lr_G_M_within a4 (3 : Int32) u6.2).bind fun u11 => (if u11.1 = 0 then (some ((0 : Int32), u11.2)) else (if lr_in (((3 : Int32) * a1) + a4) 12 = true then (if lr_in (((2 : Int32) * u1.1) + a3) 64 = true then ((some (lr_wr u11.2 27 0 (((2 : Int32) * u1.1) + a3).toNatClampNeg (lr_rd u11.2 22 0 (((3 : Int32) * a1) + a4).toNatClampNeg))).bind fun t16 => (some ((1 : Int32), t16))) else none) else none)))))) else (some ((0 : Int32), u1.2))) else none))) = some o from h)
  refine lr_aload_n (pc := 0) C lr_d_M_link_0 rfl 0 rfl ?_
  refine lr_iload_n (pc := 1) C lr_d_M_link_1 rfl 1 rfl ?_
  refine lr_iload_n (pc := 2) C lr_d_M_link_2 rfl 2 rfl ?_
  obtain ⟨u1, hu2, h⟩ := lr_bd h
  refine lr_callVi (pc := 3) (as := [.inl a1, .inl a2]) (st := []) (fs := fun ad => lr_fs7 t 0 ad) C (lr_r_M_at hu2) lr_c7_136 lr_d_M_link_3 rfl rfl (fun _ _ => rfl) (ci := 7) rfl rfl ⟨by decide, by decide⟩ (Nat.le_of_ble_eq_true rfl) ?_
  refine lr_istore (pc := 6) (ls' := [(5, .inl u1.1), (0, .inr (20, 0)), (1, .inl a1), (2, .inl a2), (3, .inl a3), (4, .inl a4)]) C lr_d_M_link_6 (by decide) rfl ?_
  refine lr_iload (pc := 8) C lr_d_M_link_8 0 rfl ?_
  refine lr_if_lt (pc := 10) (tgt := 47) C lr_d_M_link_10 (by decide) (fun hc3 => ?_) (fun hc3 => ?_)
  · have h := lr_ps hc3 h
    refine lr_iconst (pc := 47) (v := 0) C lr_d_M_link_47 (by decide) ?_
    have e := Option.some.inj h
    subst e
    exact lr_iret C E lr_d_M_link_48 (by decide)
  · have h := lr_ng hc3 h
    refine lr_aload_n (pc := 13) C lr_d_M_link_13 rfl 1 rfl ?_
    refine lr_g7_20 (pc := 14) C lr_d_M_link_14 ?_
    refine lr_iload (pc := 17) C lr_d_M_link_17 0 rfl ?_
    obtain ⟨hb4, h⟩ := lr_gd h
    refine lr_li24 (pc := 19) C lr_d_M_link_19 hb4 ?_
    refine lr_iconst (pc := 20) (v := 1) C lr_d_M_link_20 (by decide) ?_
    refine lr_icmp_ne (pc := 21) (tgt := 47) C lr_d_M_link_21 (by decide) (fun hc5 => ?_) (fun hc5 => ?_)
    · have h := lr_ng hc5 h
      refine lr_iconst (pc := 47) (v := 0) C lr_d_M_link_47 (by decide) ?_
      have e := Option.some.inj h
      subst e
      exact lr_iret C E lr_d_M_link_48 (by decide)
    · have h := lr_ps hc5 h
      refine lr_iload_n (pc := 24) C lr_d_M_link_24 rfl 4 rfl ?_
      refine lr_iconst (pc := 25) (v := 2) C lr_d_M_link_25 (by decide) ?_
      obtain ⟨u6, hu7, h⟩ := lr_bd h
      refine lr_callSi (pc := 26) (as := [.inl a3, .inl (2 : Int32)]) (st := []) C (lr_r_M_within hu7) lr_c7_107 lr_d_M_link_26 rfl rfl ⟨by decide, by decide⟩ (Nat.le_of_ble_eq_true rfl) ?_
      refine lr_if_eq (pc := 29) (tgt := 47) C lr_d_M_link_29 (by decide) (fun hc8 => ?_) (fun hc8 => ?_)
      · have h := lr_ps hc8 h
        refine lr_iconst (pc := 47) (v := 0) C lr_d_M_link_47 (by decide) ?_
        have e := Option.some.inj h
        subst e
        exact lr_iret C E lr_d_M_link_48 (by decide)
      · have h := lr_ng hc8 h
        refine lr_iload (pc := 32) C lr_d_M_link_32 5 rfl ?_
        refine lr_iconst (pc := 34) (v := -1) C lr_d_M_link_34 (by decide) ?_
        refine lr_icmp_eq (pc := 35) (tgt := 49) C lr_d_M_link_35 (by decide) (fun hc9 => ?_) (fun hc9 => ?_)
        · have h := lr_ps hc9 h
          refine lr_aload_n (pc := 49) C lr_d_M_link_49 rfl 1 rfl ?_
          refine lr_g7_29 (pc := 50) C lr_d_M_link_50 ?_
          refine lr_iconst (pc := 53) (v := 2) C lr_d_M_link_53 (by decide) ?_
          refine lr_iload (pc := 54) C lr_d_M_link_54 0 rfl ?_
          refine lr_imul (pc := 56) C lr_d_M_link_56 ?_
          refine lr_iload_n (pc := 57) C lr_d_M_link_57 rfl 4 rfl ?_
          refine lr_iadd (pc := 58) C lr_d_M_link_58 ?_
          refine lr_iload (pc := 59) C lr_d_M_link_59 5 rfl ?_
          refine lr_iconst (pc := 61) (v := -1) C lr_d_M_link_61 (by decide) ?_
          refine lr_icmp_ne (pc := 62) (tgt := 69) C lr_d_M_link_62 (by decide) (fun hc => (by first | exact absurd hc hc9 | exact absurd hc9 hc | exact absurd hc (Int32.not_le.mpr hc9) | exact absurd hc9 (Int32.not_lt.mpr hc) | exact absurd (Int32.not_le.mp hc) hc9 | exact absurd (Int32.not_lt.mp hc) hc9 | exact absurd hc (Int32.not_lt.mpr hc9) | exact hc (Int32.not_lt.mp hc9) | exact hc (Int32.not_le.mp hc9) : False).elim) (fun _ => ?_)
          refine lr_iconst (pc := 65) (v := -1) C lr_d_M_link_65 (by decide) ?_
          refine lr_goto (pc := 66) (tgt := 80) C lr_d_M_link_66 (by decide) ?_
          obtain ⟨hb10, h⟩ := lr_gd h
          refine lr_si27 (pc := 80) C lr_d_M_link_80 hb10 ?_
          refine lr_iconst (pc := 81) (v := 1) C lr_d_M_link_81 (by decide) ?_
          have e := Option.some.inj h
          subst e
          exact lr_iret C E lr_d_M_link_82 (by decide)
        · have h := lr_ng hc9 h
          refine lr_iload (pc := 38) C lr_d_M_link_38 5 rfl ?_
          refine lr_iconst (pc := 40) (v := 3) C lr_d_M_link_40 (by decide) ?_
          obtain ⟨u11, hu12, h⟩ := lr_bd h
          refine lr_callSi (pc := 41) (as := [.inl a4, .inl (3 : Int32)]) (st := []) C (lr_r_M_within hu12) lr_c7_107 lr_d_M_link_41 rfl rfl ⟨by decide, by decide⟩ (Nat.le_of_ble_eq_true rfl) ?_
          refine lr_if_ne (pc := 44) (tgt := 49) C lr_d_M_link_44 (by decide) (fun hc13 => ?_) (fun hc13 => ?_)
          · have h := lr_ng hc13 h
            refine lr_aload_n (pc := 49) C lr_d_M_link_49 rfl 1 rfl ?_
            refine lr_g7_29 (pc := 50) C lr_d_M_link_50 ?_
            refine lr_iconst (pc := 53) (v := 2) C lr_d_M_link_53 (by decide) ?_
            refine lr_iload (pc := 54) C lr_d_M_link_54 0 rfl ?_
            refine lr_imul (pc := 56) C lr_d_M_link_56 ?_
            refine lr_iload_n (pc := 57) C lr_d_M_link_57 rfl 4 rfl ?_
            refine lr_iadd (pc := 58) C lr_d_M_link_58 ?_
            refine lr_iload (pc := 59) C lr_d_M_link_59 5 rfl ?_
            refine lr_iconst (pc := 61) (v := -1) C lr_d_M_link_61 (by decide) ?_
            refine lr_icmp_ne (pc := 62) (tgt := 69) C lr_d_M_link_62 (by decide) (fun _ => ?_) (fun hc => (by first | exact absurd hc hc9 | exact absurd hc9 hc | exact absurd hc (Int32.not_le.mpr hc9) | exact absurd hc9 (Int32.not_lt.mpr hc) | exact absurd (Int32.not_le.mp hc) hc9 | exact absurd (Int32.not_lt.mp hc) hc9 | exact absurd hc (Int32.not_lt.mpr hc9) | exact hc (Int32.not_lt.mp hc9) | exact hc (Int32.not_le.mp hc9) : False).elim)
            refine lr_aload_n (pc := 69) C lr_d_M_link_69 rfl 1 rfl ?_
            refine lr_g7_13 (pc := 70) C lr_d_M_link_70 ?_
            refine lr_iconst (pc := 73) (v := 3) C lr_d_M_link_73 (by decide) ?_
            refine lr_iload_n (pc := 74) C lr_d_M_link_74 rfl 2 rfl ?_
            refine lr_imul (pc := 75) C lr_d_M_link_75 ?_
            refine lr_iload (pc := 76) C lr_d_M_link_76 5 rfl ?_
            refine lr_iadd (pc := 78) C lr_d_M_link_78 ?_
            obtain ⟨hb14, h⟩ := lr_gd h
            refine lr_li22 (pc := 79) C lr_d_M_link_79 hb14 ?_
            obtain ⟨hb15, h⟩ := lr_gd h
            refine lr_si27 (pc := 80) C lr_d_M_link_80 hb15 ?_
            obtain ⟨t16, ht17, h⟩ := lr_bd h
            rw [Option.some.inj ht17]
            refine lr_iconst (pc := 81) (v := 1) C lr_d_M_link_81 (by decide) ?_
            have e := Option.some.inj h
            subst e
            exact lr_iret C E lr_d_M_link_82 (by decide)
          · have h := lr_ps hc13 h
            refine lr_iconst (pc := 47) (v := 0) C lr_d_M_link_47 (by decide) ?_
            have e := Option.some.inj h
            subst e
            exact lr_iret C E lr_d_M_link_48 (by decide)
