def lr_G_M_comes (a1 : Int32) (a2 : Int32) (a3 : Int32) (t : lr_S) : Option (Int32 × lr_S) := if a1 = (0 : Int32) then ((lr_G_M_passComes a2 a3 t).bind fun u2 => (if u2.1 = 0 ∨ u2.1 = 1 then some (u2.1, u2.2) else none)) else (if a1 = (1 : Int32) then ((lr_G_M_takenComes a2 t).bind fun u6 => (if u6.1 = 0 ∨ u6.1 = 1 then some (u6.1, u6.2) else none)) else (if a1 = (2 : Int32) then ((lr_G_M_dirtyComes a2 a3 t).bind fun u10 => (if u10.1 = 0 ∨ u10.1 = 1 then some (u10.1, u10.2) else none)) else (if a1 = (3 : Int32) then ((lr_G_M_listedComes a2 a1 t).bind fun u14 => (if u14.1 = 0 ∨ u14.1 = 1 then some (u14.1, u14.2) else none)) else (if a1 = (4 : Int32) then ((lr_G_M_listedComes a2 a1 t).bind fun u18 => (if u18.1 = 0 ∨ u18.1 = 1 then some (u18.1, u18.2) else none)) else (if a1 = (5 : Int32) then ((lr_G_M_cleanComes a2 a3 t).bind fun u22 => (if u22.1 = 0 ∨ u22.1 = 1 then some (u22.1, u22.2) else none)) else (if a1 = (6 : Int32) then ((lr_G_M_callComes a2 a3 t).bind fun u26 => (if u26.1 = 0 ∨ u26.1 = 1 then some (u26.1, u26.2) else none)) else ((lr_G_M_answerComes a2 a1 t).bind fun u29 => (if u29.1 = 0 ∨ u29.1 = 1 then some (u29.1, u29.2) else none))))))))
set_option maxHeartbeats 4000000 in
theorem lr_r_M_comes {a1 : Int32} {a2 : Int32} {a3 : Int32} {t : lr_S} {o : Int32 × lr_S} (h : lr_G_M_comes a1 a2 a3 t = some o) : lr_RI 20 60 lr_m_M_comes [.inr (20, 0), .inl a1, .inl a2, .inl a3] t o.1 o.2 := by
  refine lr_ofI (ty := .boolean) (own := lr_R7) (by decide) rfl rfl (Nat.le_of_ble_eq_true rfl) (fun X C E => ?_)
  show lr_T X 0 [(0, .inr (20, 0)), (1, .inl a1), (2, .inl a2), (3, .inl a3)] [] t
  have h := (show (if a1 = (0 : Int32) then ((lr_G_M_passComes a2 a3 t).bind fun u2 => (if u2.1 = 0 ∨ u2.1 = 1 then some (u2.1, u2.2) else none)) else (if a1 = (1 : Int32) then ((lr_G_M_takenComes a2 t).bind fun u6 => (if u6.1 = 0 ∨ u6.1 = 1 then some (u6.1, u6.2) else none)) else (if a1 = (2 : Int32) then ((lr_G_M_dirtyComes a2 a3 t).bind fun u10 => (if u10.1 = 0 ∨ u10.1 = 1 then some (u10.1, u10.2) else none)) else (if a1 = (3 : Int32) then ((lr_G_M_listedComes a2 a1 t).bind fun u14 => (if u14.1 = 0 ∨ u14.1 = 1 then some (u14.1, u14.2) else none)) else (if a1 = (4 : Int32) then ((lr_G_M_listedComes a2 a1 t).bind fun u18 => (if u18.1 = 0 ∨ u18.1 = 1 then some (u18.1, u18.2) else none)) else (if a1 = (5 : Int32) then ((lr_G_M_cleanComes a2 a3 t).bind fun u22 => (if u22.1 = 0 ∨ u22.1 = 1 then some (u22.1, u22.2) else none)) else (if a1 = (6 : Int32) then ((lr_G_M_callComes a2 a3 t).bind fun u26 => (if u26.1 = 0 ∨ u26.1 = 1 then some (u26.1, u26.2) else none)) else ((lr_G_M_answerComes a2 a1 t).bind fun u29 => (if u29.1 = 0 ∨ u29.1 = 1 then some (u29.1, u29.2) else none))))))))) = some o from h)
  refine lr_iload_n (pc := 0) C lr_d_M_comes_0 rfl 1 rfl ?_
  by_cases hc1 : a1 = (0 : Int32)
  · have h := lr_ps hc1 h
    refine lr_tabIn (off := 43) (tgt := 44) C lr_d_M_comes_1 0 (by rw [hc1]; decide) (by decide) (by decide) ?_
    refine lr_aload_n (pc := 44) C lr_d_M_comes_44 rfl 0 rfl ?_
    refine lr_iload_n (pc := 45) C lr_d_M_comes_45 rfl 2 rfl ?_
    refine lr_iload_n (pc := 46) C lr_d_M_comes_46 rfl 3 rfl ?_
    obtain ⟨u2, hu3, h⟩ := lr_bd h
    refine lr_callVi (pc := 47) (as := [.inl a2, .inl a3]) (st := []) (fs := fun ad => lr_fs7 t 0 ad) C (lr_r_M_passComes hu3) lr_c7_178 lr_d_M_comes_47 rfl rfl (fun _ _ => rfl) (ci := 7) rfl rfl ⟨by decide, by decide⟩ (Nat.le_of_ble_eq_true rfl) ?_
    obtain ⟨hz4, h⟩ := lr_gd h
    have e := Option.some.inj h
    subst e
    exact lr_iret C E lr_d_M_comes_50 (lr_nz hz4)
  have h := lr_ng hc1 h
  by_cases hc5 : a1 = (1 : Int32)
  · have h := lr_ps hc5 h
    refine lr_tabIn (off := 50) (tgt := 51) C lr_d_M_comes_1 1 (by rw [hc5]; decide) (by decide) (by decide) ?_
    refine lr_aload_n (pc := 51) C lr_d_M_comes_51 rfl 0 rfl ?_
    refine lr_iload_n (pc := 52) C lr_d_M_comes_52 rfl 2 rfl ?_
    obtain ⟨u6, hu7, h⟩ := lr_bd h
    refine lr_callVi (pc := 53) (as := [.inl a2]) (st := []) (fs := fun ad => lr_fs7 t 0 ad) C (lr_r_M_takenComes hu7) lr_c7_181 lr_d_M_comes_53 rfl rfl (fun _ _ => rfl) (ci := 7) rfl rfl ⟨by decide, by decide⟩ (Nat.le_of_ble_eq_true rfl) ?_
    obtain ⟨hz8, h⟩ := lr_gd h
    have e := Option.some.inj h
    subst e
    exact lr_iret C E lr_d_M_comes_56 (lr_nz hz8)
  have h := lr_ng hc5 h
  by_cases hc9 : a1 = (2 : Int32)
  · have h := lr_ps hc9 h
    refine lr_tabIn (off := 56) (tgt := 57) C lr_d_M_comes_1 2 (by rw [hc9]; decide) (by decide) (by decide) ?_
    refine lr_aload_n (pc := 57) C lr_d_M_comes_57 rfl 0 rfl ?_
    refine lr_iload_n (pc := 58) C lr_d_M_comes_58 rfl 2 rfl ?_
    refine lr_iload_n (pc := 59) C lr_d_M_comes_59 rfl 3 rfl ?_
    obtain ⟨u10, hu11, h⟩ := lr_bd h
    refine lr_callVi (pc := 60) (as := [.inl a2, .inl a3]) (st := []) (fs := fun ad => lr_fs7 t 0 ad) C (lr_r_M_dirtyComes hu11) lr_c7_184 lr_d_M_comes_60 rfl rfl (fun _ _ => rfl) (ci := 7) rfl rfl ⟨by decide, by decide⟩ (Nat.le_of_ble_eq_true rfl) ?_
    obtain ⟨hz12, h⟩ := lr_gd h
    have e := Option.some.inj h
    subst e
    exact lr_iret C E lr_d_M_comes_63 (lr_nz hz12)
  have h := lr_ng hc9 h
  by_cases hc13 : a1 = (3 : Int32)
  · have h := lr_ps hc13 h
    refine lr_tabIn (off := 63) (tgt := 64) C lr_d_M_comes_1 3 (by rw [hc13]; decide) (by decide) (by decide) ?_
    refine lr_aload_n (pc := 64) C lr_d_M_comes_64 rfl 0 rfl ?_
    refine lr_iload_n (pc := 65) C lr_d_M_comes_65 rfl 2 rfl ?_
    refine lr_iload_n (pc := 66) C lr_d_M_comes_66 rfl 1 rfl ?_
    obtain ⟨u14, hu15, h⟩ := lr_bd h
    refine lr_callVi (pc := 67) (as := [.inl a2, .inl a1]) (st := []) (fs := fun ad => lr_fs7 t 0 ad) C (lr_r_M_listedComes hu15) lr_c7_187 lr_d_M_comes_67 rfl rfl (fun _ _ => rfl) (ci := 7) rfl rfl ⟨by decide, by decide⟩ (Nat.le_of_ble_eq_true rfl) ?_
    obtain ⟨hz16, h⟩ := lr_gd h
    have e := Option.some.inj h
    subst e
    exact lr_iret C E lr_d_M_comes_70 (lr_nz hz16)
  have h := lr_ng hc13 h
  by_cases hc17 : a1 = (4 : Int32)
  · have h := lr_ps hc17 h
    refine lr_tabIn (off := 63) (tgt := 64) C lr_d_M_comes_1 4 (by rw [hc17]; decide) (by decide) (by decide) ?_
    refine lr_aload_n (pc := 64) C lr_d_M_comes_64 rfl 0 rfl ?_
    refine lr_iload_n (pc := 65) C lr_d_M_comes_65 rfl 2 rfl ?_
    refine lr_iload_n (pc := 66) C lr_d_M_comes_66 rfl 1 rfl ?_
    obtain ⟨u18, hu19, h⟩ := lr_bd h
    refine lr_callVi (pc := 67) (as := [.inl a2, .inl a1]) (st := []) (fs := fun ad => lr_fs7 t 0 ad) C (lr_r_M_listedComes hu19) lr_c7_187 lr_d_M_comes_67 rfl rfl (fun _ _ => rfl) (ci := 7) rfl rfl ⟨by decide, by decide⟩ (Nat.le_of_ble_eq_true rfl) ?_
    obtain ⟨hz20, h⟩ := lr_gd h
    have e := Option.some.inj h
    subst e
    exact lr_iret C E lr_d_M_comes_70 (lr_nz hz20)
  have h := lr_ng hc17 h
  by_cases hc21 : a1 = (5 : Int32)
  · have h := lr_ps hc21 h
    refine lr_tabIn (off := 70) (tgt := 71) C lr_d_M_comes_1 5 (by rw [hc21]; decide) (by decide) (by decide) ?_
    refine lr_aload_n (pc := 71) C lr_d_M_comes_71 rfl 0 rfl ?_
    refine lr_iload_n (pc := 72) C lr_d_M_comes_72 rfl 2 rfl ?_
    refine lr_iload_n (pc := 73) C lr_d_M_comes_73 rfl 3 rfl ?_
    obtain ⟨u22, hu23, h⟩ := lr_bd h
    refine lr_callVi (pc := 74) (as := [.inl a2, .inl a3]) (st := []) (fs := fun ad => lr_fs7 t 0 ad) C (lr_r_M_cleanComes hu23) lr_c7_190 lr_d_M_comes_74 rfl rfl (fun _ _ => rfl) (ci := 7) rfl rfl ⟨by decide, by decide⟩ (Nat.le_of_ble_eq_true rfl) ?_
    obtain ⟨hz24, h⟩ := lr_gd h
    have e := Option.some.inj h
    subst e
    exact lr_iret C E lr_d_M_comes_77 (lr_nz hz24)
  have h := lr_ng hc21 h
  by_cases hc25 : a1 = (6 : Int32)
  · have h := lr_ps hc25 h
    refine lr_tabIn (off := 77) (tgt := 78) C lr_d_M_comes_1 6 (by rw [hc25]; decide) (by decide) (by decide) ?_
    refine lr_aload_n (pc := 78) C lr_d_M_comes_78 rfl 0 rfl ?_
    refine lr_iload_n (pc := 79) C lr_d_M_comes_79 rfl 2 rfl ?_
    refine lr_iload_n (pc := 80) C lr_d_M_comes_80 rfl 3 rfl ?_
    obtain ⟨u26, hu27, h⟩ := lr_bd h
    refine lr_callVi (pc := 81) (as := [.inl a2, .inl a3]) (st := []) (fs := fun ad => lr_fs7 t 0 ad) C (lr_r_M_callComes hu27) lr_c7_193 lr_d_M_comes_81 rfl rfl (fun _ _ => rfl) (ci := 7) rfl rfl ⟨by decide, by decide⟩ (Nat.le_of_ble_eq_true rfl) ?_
    obtain ⟨hz28, h⟩ := lr_gd h
    have e := Option.some.inj h
    subst e
    exact lr_iret C E lr_d_M_comes_84 (lr_nz hz28)
  have h := lr_ng hc25 h
  refine lr_tabOut (tgt := 85) C lr_d_M_comes_1 (lr_tout (fun v h1 h2 h3 => by rcases (show v = 0 ∨ v = 1 ∨ v = 2 ∨ v = 3 ∨ v = 4 ∨ v = 5 ∨ v = 6 by omega) with rfl | rfl | rfl | rfl | rfl | rfl | rfl <;> first | exact hc1 (Int32.toInt_inj.mp (h3.trans (by decide))) | exact hc5 (Int32.toInt_inj.mp (h3.trans (by decide))) | exact hc9 (Int32.toInt_inj.mp (h3.trans (by decide))) | exact hc13 (Int32.toInt_inj.mp (h3.trans (by decide))) | exact hc17 (Int32.toInt_inj.mp (h3.trans (by decide))) | exact hc21 (Int32.toInt_inj.mp (h3.trans (by decide))) | exact hc25 (Int32.toInt_inj.mp (h3.trans (by decide))))) (by decide) ?_
  refine lr_aload_n (pc := 85) C lr_d_M_comes_85 rfl 0 rfl ?_
  refine lr_iload_n (pc := 86) C lr_d_M_comes_86 rfl 2 rfl ?_
  refine lr_iload_n (pc := 87) C lr_d_M_comes_87 rfl 1 rfl ?_
  obtain ⟨u29, hu30, h⟩ := lr_bd h
  refine lr_callVi (pc := 88) (as := [.inl a2, .inl a1]) (st := []) (fs := fun ad => lr_fs7 t 0 ad) C (lr_r_M_answerComes hu30) lr_c7_196 lr_d_M_comes_88 rfl rfl (fun _ _ => rfl) (ci := 7) rfl rfl ⟨by decide, by decide⟩ (Nat.le_of_ble_eq_true rfl) ?_
  obtain ⟨hz31, h⟩ := lr_gd h
  have e := Option.some.inj h
  subst e
  exact lr_iret C E lr_d_M_comes_91 (lr_nz hz31)
def lr_G_M_deliver (a1 : Int32) (t : lr_S) : Option (Int32 × lr_S) := (lr_G_M_within a1 (lr_rd t 20 0 19) t).bind fun u1 => (if u1.1 = 0 then (some ((-1 : Int32), u1.2)) else (if lr_in (((6 : Int32) * a1) + (0 : Int32)) 192 = true then ((some (lr_wr u1.2 40 0 (0 : Int32).toNatClampNeg (lr_rd u1.2 38 0 (((6 : Int32) * a1) + (0 : Int32)).toNatClampNeg))).bind fun t5 => (if lr_in (((6 : Int32) * a1) + (1 : Int32)) 192 = true then ((some (lr_wr t5 40 0 (1 : Int32).toNatClampNeg (lr_rd t5 38 0 (((6 : Int32) * a1) + (1 : Int32)).toNatClampNeg))).bind fun t8 => (if lr_in (((6 : Int32) * a1) + (2 : Int32)) 192 = true then ((some (lr_wr t8 40 0 (2 : Int32).toNatClampNeg (lr_rd t8 38 0 (((6 : Int32) * a1) + (2 : Int32)).toNatClampNeg))).bind fun t11 => (if lr_in (((6 : Int32) * a1) + (3 : Int32)) 192 = true then ((some (lr_wr t11 40 0 (3 : Int32).toNatClampNeg (lr_rd t11 38 0 (((6 : Int32) * a1) + (3 : Int32)).toNatClampNeg))).bind fun t14 => (if lr_in (((6 : Int32) * a1) + (4 : Int32)) 192 = true then ((some (lr_wr t14 40 0 (4 : Int32).toNatClampNeg (lr_rd t14 38 0 (((6 : Int32) * a1) + (4 : Int32)).toNatClampNeg))).bind fun t17 => (if lr_in (((6 : Int32) * a1) + (5 : Int32)) 192 = true then ((some (lr_wr t17 40 0 (5 : Int32).toNatClampNeg (lr_rd t17 38 0 (((6 : Int32) * a1) + (5 : Int32)).toNatClampNeg))).bind fun t20 => ((lr_G_M_takeOut a1 t20).bind fun u22 => (if lr_in (lr_rd u22 40 0 (2 : Int32).toNatClampNeg) 4 = true then (if (lr_rd u22 21 0 (lr_rd u22 40 0 (2 : Int32).toNatClampNeg).toNatClampNeg) = 0 then ((lr_G_M_comes (lr_rd u22 40 0 (0 : Int32).toNatClampNeg) (lr_rd u22 40 0 (2 : Int32).toNatClampNeg) (lr_rd u22 40 0 (1 : Int32).toNatClampNeg) u22).bind fun u26 => (if u26.1 = 0 then (some ((0 : Int32), u26.2)) else (some ((1 : Int32), u26.2)))) else (some ((0 : Int32), u22))) else none))) else none)) else none)) else none)) else none)) else none)) else none))
set_option maxHeartbeats 4000000 in
theorem lr_r_M_deliver {a1 : Int32} {t : lr_S} {o : Int32 × lr_S} (h : lr_G_M_deliver a1 t = some o) : lr_RI 20 60 lr_m_M_deliver [.inr (20, 0), .inl a1] t o.1 o.2 := by
  refine lr_ofI (ty := .int) (own := lr_R7) (by decide) rfl rfl (Nat.le_of_ble_eq_true rfl) (fun X C E => ?_)
  show lr_T X 0 [(0, .inr (20, 0)), (1, .inl a1)] [] t
  have h := (show ((lr_G_M_within a1 (lr_rd t 20 0 19) t).bind fun u1 => (if u1.1 = 0 then (some ((-1 : Int32), u1.2)) else (if lr_in (((6 : Int32) * a1) + (0 : Int32)) 192 = true then ((some (lr_wr u1.2 40 0 (0 : Int32).toNatClampNeg (lr_rd u1.2 38 0 (((6 : Int32) * a1) + (0 : Int32)).toNatClampNeg))).bind fun t5 => (if lr_in (((6 : Int32) * a1) + (1 : Int32)) 192 = true then ((some (lr_wr t5 40 0 (1 : Int32).toNatClampNeg (lr_rd t5 38 0 (((6 : Int32) * a1) + (1 : Int32)).toNatClampNeg))).bind fun t8 => (if lr_in (((6 : Int32) * a1) + (2 : Int32)) 192 = true then ((some (lr_wr t8 40 0 (2 : Int32).toNatClampNeg (lr_rd t8 38 0 (((6 : Int32) * a1) + (2 : Int32)).toNatClampNeg))).bind fun t11 => (if lr_in (((6 : Int32) * a1) + (3 : Int32)) 192 = true then ((some (lr_wr t11 40 0 (3 : Int32).toNatClampNeg (lr_rd t11 38 0 (((6 : Int32) * a1) + (3 : Int32)).toNatClampNeg))).bind fun t14 => (if lr_in (((6 : Int32) * a1) + (4 : Int32)) 192 = true then ((some (lr_wr t14 40 0 (4 : Int32).toNatClampNeg (lr_rd t14 38 0 (((6 : Int32) * a1) + (4 : Int32)).toNatClampNeg))).bind fun t17 => (if lr_in (((6 : Int32) * a1) + (5 : Int32)) 192 = true then ((some (lr_wr t17 40 0 (5 : Int32).toNatClampNeg (lr_rd t17 38 0 (((6 : Int32) * a1) + (5 : Int32)).toNatClampNeg))).bind fun t20 => ((lr_G_M_takeOut a1 t20).bind fun u22 => (if lr_in (lr_rd u22 40 0 (2 : Int32).toNatClampNeg) 4 = true then (if (lr_rd u22 21 0 (lr_rd u22 40 0 (2 : Int32).toNatClampNeg).toNatClampNeg) = 0 then ((lr_G_M_comes (lr_rd u22 40 0 (0 : Int32).toNatClampNeg) (lr_rd u22 40 0 (2 : Int32).toNatClampNeg) (lr_rd u22 40 0 (1 : Int32).toNatClampNeg) u22).bind fun u26 => (if u26.1 = 0 then (some ((0 : Int32), u26.2)) else (some ((1 : Int32), u26.2)))) else (some ((0 : Int32), u22))) else none))) else none)) else none)) else none)) else none)) else none)) else none))) = some o from h)
  refine lr_iload_n (pc := 0) C lr_d_M_deliver_0 rfl 1 rfl ?_
  refine lr_aload_n (pc := 1) C lr_d_M_deliver_1 rfl 0 rfl ?_
  refine lr_g7_111 (pc := 2) C lr_d_M_deliver_2 ?_
  obtain ⟨u1, hu2, h⟩ := lr_bd h
  refine lr_callSi (pc := 5) (as := [.inl a1, .inl (lr_rd t 20 0 19)]) (st := []) C (lr_r_M_within hu2) lr_c7_107 lr_d_M_deliver_5 rfl rfl ⟨by decide, by decide⟩ (Nat.le_of_ble_eq_true rfl) ?_
  refine lr_if_ne (pc := 8) (tgt := 13) C lr_d_M_deliver_8 (by decide) (fun hc3 => ?_) (fun hc3 => ?_)
  · have h := lr_ng hc3 h
    refine lr_iconst (pc := 13) (v := 0) C lr_d_M_deliver_13 (by decide) ?_
    refine lr_istore_n (pc := 14) (ls' := [(2, .inl (0 : Int32)), (0, .inr (20, 0)), (1, .inl a1)]) C lr_d_M_deliver_14 rfl (by decide) rfl ?_
    refine lr_iload_n (pc := 15) C lr_d_M_deliver_15 rfl 0 rfl ?_
    refine lr_bipush (pc := 16) (v := 6) C lr_d_M_deliver_16 (by decide) ?_
    refine lr_icmp_ge (pc := 18) (tgt := 44) C lr_d_M_deliver_18 (by decide) (fun hc => absurd hc (by decide)) (fun _ => ?_)
    refine lr_aload_n (pc := 21) C lr_d_M_deliver_21 rfl 1 rfl ?_
    refine lr_g7_62 (pc := 22) C lr_d_M_deliver_22 ?_
    refine lr_iload_n (pc := 25) C lr_d_M_deliver_25 rfl 0 rfl ?_
    refine lr_aload_n (pc := 26) C lr_d_M_deliver_26 rfl 1 rfl ?_
    refine lr_g7_59 (pc := 27) C lr_d_M_deliver_27 ?_
    refine lr_bipush (pc := 30) (v := 6) C lr_d_M_deliver_30 (by decide) ?_
    refine lr_iload_n (pc := 32) C lr_d_M_deliver_32 rfl 2 rfl ?_
    refine lr_imul (pc := 33) C lr_d_M_deliver_33 ?_
    refine lr_iload_n (pc := 34) C lr_d_M_deliver_34 rfl 0 rfl ?_
    refine lr_iadd (pc := 35) C lr_d_M_deliver_35 ?_
    obtain ⟨hb4, h⟩ := lr_gd h
    refine lr_li38 (pc := 36) C lr_d_M_deliver_36 hb4 ?_
    refine lr_si40 (pc := 37) C lr_d_M_deliver_37 (by decide) ?_
    obtain ⟨t5, ht6, h⟩ := lr_bd h
    rw [Option.some.inj ht6]
    refine lr_iinc (pc := 38) (v := (1 : Int32)) (ls' := [(2, .inl (1 : Int32)), (0, .inr (20, 0)), (1, .inl a1)]) C lr_d_M_deliver_38 0 rfl (by decide) (by decide) rfl ?_
    refine lr_goto (pc := 41) (tgt := 15) C lr_d_M_deliver_41 (by decide) ?_
    refine lr_iload_n (pc := 15) C lr_d_M_deliver_15 rfl 0 rfl ?_
    refine lr_bipush (pc := 16) (v := 6) C lr_d_M_deliver_16 (by decide) ?_
    refine lr_icmp_ge (pc := 18) (tgt := 44) C lr_d_M_deliver_18 (by decide) (fun hc => absurd hc (by decide)) (fun _ => ?_)
    refine lr_aload_n (pc := 21) C lr_d_M_deliver_21 rfl 1 rfl ?_
    refine lr_g7_62 (pc := 22) C lr_d_M_deliver_22 ?_
    refine lr_iload_n (pc := 25) C lr_d_M_deliver_25 rfl 0 rfl ?_
    refine lr_aload_n (pc := 26) C lr_d_M_deliver_26 rfl 1 rfl ?_
    refine lr_g7_59 (pc := 27) C lr_d_M_deliver_27 ?_
    refine lr_bipush (pc := 30) (v := 6) C lr_d_M_deliver_30 (by decide) ?_
    refine lr_iload_n (pc := 32) C lr_d_M_deliver_32 rfl 2 rfl ?_
    refine lr_imul (pc := 33) C lr_d_M_deliver_33 ?_
    refine lr_iload_n (pc := 34) C lr_d_M_deliver_34 rfl 0 rfl ?_
    refine lr_iadd (pc := 35) C lr_d_M_deliver_35 ?_
    obtain ⟨hb7, h⟩ := lr_gd h
    refine lr_li38 (pc := 36) C lr_d_M_deliver_36 hb7 ?_
    refine lr_si40 (pc := 37) C lr_d_M_deliver_37 (by decide) ?_
    obtain ⟨t8, ht9, h⟩ := lr_bd h
    rw [Option.some.inj ht9]
    refine lr_iinc (pc := 38) (v := (2 : Int32)) (ls' := [(2, .inl (2 : Int32)), (0, .inr (20, 0)), (1, .inl a1)]) C lr_d_M_deliver_38 0 rfl (by decide) (by decide) rfl ?_
    refine lr_goto (pc := 41) (tgt := 15) C lr_d_M_deliver_41 (by decide) ?_
    refine lr_iload_n (pc := 15) C lr_d_M_deliver_15 rfl 0 rfl ?_
    refine lr_bipush (pc := 16) (v := 6) C lr_d_M_deliver_16 (by decide) ?_
    refine lr_icmp_ge (pc := 18) (tgt := 44) C lr_d_M_deliver_18 (by decide) (fun hc => absurd hc (by decide)) (fun _ => ?_)
    refine lr_aload_n (pc := 21) C lr_d_M_deliver_21 rfl 1 rfl ?_
    refine lr_g7_62 (pc := 22) C lr_d_M_deliver_22 ?_
    refine lr_iload_n (pc := 25) C lr_d_M_deliver_25 rfl 0 rfl ?_
    refine lr_aload_n (pc := 26) C lr_d_M_deliver_26 rfl 1 rfl ?_
    refine lr_g7_59 (pc := 27) C lr_d_M_deliver_27 ?_
    refine lr_bipush (pc := 30) (v := 6) C lr_d_M_deliver_30 (by decide) ?_
    refine lr_iload_n (pc := 32) C lr_d_M_deliver_32 rfl 2 rfl ?_
    refine lr_imul (pc := 33) C lr_d_M_deliver_33 ?_
    refine lr_iload_n (pc := 34) C lr_d_M_deliver_34 rfl 0 rfl ?_
    refine lr_iadd (pc := 35) C lr_d_M_deliver_35 ?_
    obtain ⟨hb10, h⟩ := lr_gd h
    refine lr_li38 (pc := 36) C lr_d_M_deliver_36 hb10 ?_
    refine lr_si40 (pc := 37) C lr_d_M_deliver_37 (by decide) ?_
    obtain ⟨t11, ht12, h⟩ := lr_bd h
    rw [Option.some.inj ht12]
    refine lr_iinc (pc := 38) (v := (3 : Int32)) (ls' := [(2, .inl (3 : Int32)), (0, .inr (20, 0)), (1, .inl a1)]) C lr_d_M_deliver_38 0 rfl (by decide) (by decide) rfl ?_
    refine lr_goto (pc := 41) (tgt := 15) C lr_d_M_deliver_41 (by decide) ?_
    refine lr_iload_n (pc := 15) C lr_d_M_deliver_15 rfl 0 rfl ?_
    refine lr_bipush (pc := 16) (v := 6) C lr_d_M_deliver_16 (by decide) ?_
    refine lr_icmp_ge (pc := 18) (tgt := 44) C lr_d_M_deliver_18 (by decide) (fun hc => absurd hc (by decide)) (fun _ => ?_)
    refine lr_aload_n (pc := 21) C lr_d_M_deliver_21 rfl 1 rfl ?_
    refine lr_g7_62 (pc := 22) C lr_d_M_deliver_22 ?_
    refine lr_iload_n (pc := 25) C lr_d_M_deliver_25 rfl 0 rfl ?_
    refine lr_aload_n (pc := 26) C lr_d_M_deliver_26 rfl 1 rfl ?_
    refine lr_g7_59 (pc := 27) C lr_d_M_deliver_27 ?_
    refine lr_bipush (pc := 30) (v := 6) C lr_d_M_deliver_30 (by decide) ?_
    refine lr_iload_n (pc := 32) C lr_d_M_deliver_32 rfl 2 rfl ?_
    refine lr_imul (pc := 33) C lr_d_M_deliver_33 ?_
    refine lr_iload_n (pc := 34) C lr_d_M_deliver_34 rfl 0 rfl ?_
    refine lr_iadd (pc := 35) C lr_d_M_deliver_35 ?_
    obtain ⟨hb13, h⟩ := lr_gd h
    refine lr_li38 (pc := 36) C lr_d_M_deliver_36 hb13 ?_
    refine lr_si40 (pc := 37) C lr_d_M_deliver_37 (by decide) ?_
    obtain ⟨t14, ht15, h⟩ := lr_bd h
    rw [Option.some.inj ht15]
    refine lr_iinc (pc := 38) (v := (4 : Int32)) (ls' := [(2, .inl (4 : Int32)), (0, .inr (20, 0)), (1, .inl a1)]) C lr_d_M_deliver_38 0 rfl (by decide) (by decide) rfl ?_
    refine lr_goto (pc := 41) (tgt := 15) C lr_d_M_deliver_41 (by decide) ?_
    refine lr_iload_n (pc := 15) C lr_d_M_deliver_15 rfl 0 rfl ?_
    refine lr_bipush (pc := 16) (v := 6) C lr_d_M_deliver_16 (by decide) ?_
    refine lr_icmp_ge (pc := 18) (tgt := 44) C lr_d_M_deliver_18 (by decide) (fun hc => absurd hc (by decide)) (fun _ => ?_)
    refine lr_aload_n (pc := 21) C lr_d_M_deliver_21 rfl 1 rfl ?_
    refine lr_g7_62 (pc := 22) C lr_d_M_deliver_22 ?_
    refine lr_iload_n (pc := 25) C lr_d_M_deliver_25 rfl 0 rfl ?_
    refine lr_aload_n (pc := 26) C lr_d_M_deliver_26 rfl 1 rfl ?_
    refine lr_g7_59 (pc := 27) C lr_d_M_deliver_27 ?_
    refine lr_bipush (pc := 30) (v := 6) C lr_d_M_deliver_30 (by decide) ?_
    refine lr_iload_n (pc := 32) C lr_d_M_deliver_32 rfl 2 rfl ?_
    refine lr_imul (pc := 33) C lr_d_M_deliver_33 ?_
    refine lr_iload_n (pc := 34) C lr_d_M_deliver_34 rfl 0 rfl ?_
    refine lr_iadd (pc := 35) C lr_d_M_deliver_35 ?_
    obtain ⟨hb16, h⟩ := lr_gd h
    refine lr_li38 (pc := 36) C lr_d_M_deliver_36 hb16 ?_
    refine lr_si40 (pc := 37) C lr_d_M_deliver_37 (by decide) ?_
    obtain ⟨t17, ht18, h⟩ := lr_bd h
    rw [Option.some.inj ht18]
    refine lr_iinc (pc := 38) (v := (5 : Int32)) (ls' := [(2, .inl (5 : Int32)), (0, .inr (20, 0)), (1, .inl a1)]) C lr_d_M_deliver_38 0 rfl (by decide) (by decide) rfl ?_
    refine lr_goto (pc := 41) (tgt := 15) C lr_d_M_deliver_41 (by decide) ?_
    refine lr_iload_n (pc := 15) C lr_d_M_deliver_15 rfl 0 rfl ?_
    refine lr_bipush (pc := 16) (v := 6) C lr_d_M_deliver_16 (by decide) ?_
    refine lr_icmp_ge (pc := 18) (tgt := 44) C lr_d_M_deliver_18 (by decide) (fun hc => absurd hc (by decide)) (fun _ => ?_)
    refine lr_aload_n (pc := 21) C lr_d_M_deliver_21 rfl 1 rfl ?_
    refine lr_g7_62 (pc := 22) C lr_d_M_deliver_22 ?_
    refine lr_iload_n (pc := 25) C lr_d_M_deliver_25 rfl 0 rfl ?_
    refine lr_aload_n (pc := 26) C lr_d_M_deliver_26 rfl 1 rfl ?_
    refine lr_g7_59 (pc := 27) C lr_d_M_deliver_27 ?_
    refine lr_bipush (pc := 30) (v := 6) C lr_d_M_deliver_30 (by decide) ?_
    refine lr_iload_n (pc := 32) C lr_d_M_deliver_32 rfl 2 rfl ?_
    refine lr_imul (pc := 33) C lr_d_M_deliver_33 ?_
    refine lr_iload_n (pc := 34) C lr_d_M_deliver_34 rfl 0 rfl ?_
    refine lr_iadd (pc := 35) C lr_d_M_deliver_35 ?_
    obtain ⟨hb19, h⟩ := lr_gd h
    refine lr_li38 (pc := 36) C lr_d_M_deliver_36 hb19 ?_
    refine lr_si40 (pc := 37) C lr_d_M_deliver_37 (by decide) ?_
    obtain ⟨t20, ht21, h⟩ := lr_bd h
    rw [Option.some.inj ht21]
    refine lr_iinc (pc := 38) (v := (6 : Int32)) (ls' := [(2, .inl (6 : Int32)), (0, .inr (20, 0)), (1, .inl a1)]) C lr_d_M_deliver_38 0 rfl (by decide) (by decide) rfl ?_
    refine lr_goto (pc := 41) (tgt := 15) C lr_d_M_deliver_41 (by decide) ?_
    refine lr_iload_n (pc := 15) C lr_d_M_deliver_15 rfl 0 rfl ?_
    refine lr_bipush (pc := 16) (v := 6) C lr_d_M_deliver_16 (by decide) ?_
    refine lr_icmp_ge (pc := 18) (tgt := 44) C lr_d_M_deliver_18 (by decide) (fun _ => ?_) (fun hc => absurd hc (by decide))
    refine lr_aload_n (pc := 44) C lr_d_M_deliver_44 rfl 1 rfl ?_
    refine lr_iload_n (pc := 45) C lr_d_M_deliver_45 rfl 2 rfl ?_
    obtain ⟨u22, hu23, h⟩ := lr_bd h
    refine lr_callVv (pc := 46) (as := [.inl a1]) (st := []) (fs := fun ad => lr_fs7 t20 0 ad) C (lr_r_M_takeOut hu23) lr_c7_171 lr_d_M_deliver_46 rfl rfl (fun _ _ => rfl) (ci := 7) rfl rfl ⟨by decide, by decide⟩ (Nat.le_of_ble_eq_true rfl) ?_
    refine lr_aload_n (pc := 49) C lr_d_M_deliver_49 rfl 1 rfl ?_
    refine lr_g7_7 (pc := 50) C lr_d_M_deliver_50 ?_
    refine lr_aload_n (pc := 53) C lr_d_M_deliver_53 rfl 1 rfl ?_
    refine lr_g7_62 (pc := 54) C lr_d_M_deliver_54 ?_
    refine lr_iconst (pc := 57) (v := 2) C lr_d_M_deliver_57 (by decide) ?_
    refine lr_li40 (pc := 58) C lr_d_M_deliver_58 (by decide) ?_
    obtain ⟨hb24, h⟩ := lr_gd h
    refine lr_lz21 (pc := 59) C lr_d_M_deliver_59 hb24 ?_
    refine lr_if_eq (pc := 60) (tgt := 65) C lr_d_M_deliver_60 (by decide) (fun hc25 => ?_) (fun hc25 => ?_)
    · have h := lr_ps hc25 h
      refine lr_aload_n (pc := 65) C lr_d_M_deliver_65 rfl 1 rfl ?_
      refine lr_aload_n (pc := 66) C lr_d_M_deliver_66 rfl 1 rfl ?_
      refine lr_g7_62 (pc := 67) C lr_d_M_deliver_67 ?_
      refine lr_iconst (pc := 70) (v := 0) C lr_d_M_deliver_70 (by decide) ?_
      refine lr_li40 (pc := 71) C lr_d_M_deliver_71 (by decide) ?_
      refine lr_aload_n (pc := 72) C lr_d_M_deliver_72 rfl 1 rfl ?_
      refine lr_g7_62 (pc := 73) C lr_d_M_deliver_73 ?_
      refine lr_iconst (pc := 76) (v := 2) C lr_d_M_deliver_76 (by decide) ?_
      refine lr_li40 (pc := 77) C lr_d_M_deliver_77 (by decide) ?_
      refine lr_aload_n (pc := 78) C lr_d_M_deliver_78 rfl 1 rfl ?_
      refine lr_g7_62 (pc := 79) C lr_d_M_deliver_79 ?_
      refine lr_iconst (pc := 82) (v := 1) C lr_d_M_deliver_82 (by decide) ?_
      refine lr_li40 (pc := 83) C lr_d_M_deliver_83 (by decide) ?_
      obtain ⟨u26, hu27, h⟩ := lr_bd h
      refine lr_callVi (pc := 84) (as := [.inl (lr_rd u22 40 0 (0 : Int32).toNatClampNeg), .inl (lr_rd u22 40 0 (2 : Int32).toNatClampNeg), .inl (lr_rd u22 40 0 (1 : Int32).toNatClampNeg)]) (st := []) (fs := fun ad => lr_fs7 u22 0 ad) C (lr_r_M_comes hu27) lr_c7_174 lr_d_M_deliver_84 rfl rfl (fun _ _ => rfl) (ci := 7) rfl rfl ⟨by decide, by decide⟩ (Nat.le_of_ble_eq_true rfl) ?_
      refine lr_if_eq (pc := 87) (tgt := 94) C lr_d_M_deliver_87 (by decide) (fun hc28 => ?_) (fun hc28 => ?_)
      · have h := lr_ps hc28 h
        refine lr_iconst (pc := 94) (v := 0) C lr_d_M_deliver_94 (by decide) ?_
        have e := Option.some.inj h
        subst e
        exact lr_iret C E lr_d_M_deliver_95 rfl
      · have h := lr_ng hc28 h
        refine lr_iconst (pc := 90) (v := 1) C lr_d_M_deliver_90 (by decide) ?_
        refine lr_goto (pc := 91) (tgt := 95) C lr_d_M_deliver_91 (by decide) ?_
        have e := Option.some.inj h
        subst e
        exact lr_iret C E lr_d_M_deliver_95 rfl
    · have h := lr_ng hc25 h
      refine lr_iconst (pc := 63) (v := 0) C lr_d_M_deliver_63 (by decide) ?_
      have e := Option.some.inj h
      subst e
      exact lr_iret C E lr_d_M_deliver_64 rfl
  · have h := lr_ps hc3 h
    refine lr_iconst (pc := 11) (v := -1) C lr_d_M_deliver_11 (by decide) ?_
    have e := Option.some.inj h
    subst e
    exact lr_iret C E lr_d_M_deliver_12 rfl
def lr_G_M_lose (a1 : Int32) (t : lr_S) : Option (Int32 × lr_S) := (lr_G_M_within a1 (lr_rd t 20 0 19) t).bind fun u1 => (if u1.1 = 0 then (some ((0 : Int32), u1.2)) else ((lr_G_M_takeOut a1 u1.2).bind fun u4 => (some ((1 : Int32), u4))))
set_option maxHeartbeats 4000000 in
theorem lr_r_M_lose {a1 : Int32} {t : lr_S} {o : Int32 × lr_S} (h : lr_G_M_lose a1 t = some o) : lr_RI 20 60 lr_m_M_lose [.inr (20, 0), .inl a1] t o.1 o.2 := by
  refine lr_ofI (ty := .boolean) (own := lr_R7) (by decide) rfl rfl (Nat.le_of_ble_eq_true rfl) (fun X C E => ?_)
  show lr_T X 0 [(0, .inr (20, 0)), (1, .inl a1)] [] t
  have h := (show ((lr_G_M_within a1 (lr_rd t 20 0 19) t).bind fun u1 => (if u1.1 = 0 then (some ((0 : Int32), u1.2)) else ((lr_G_M_takeOut a1 u1.2).bind fun u4 => (some ((1 : Int32), u4))))) = some o from h)
  refine lr_iload_n (pc := 0) C lr_d_M_lose_0 rfl 1 rfl ?_
  refine lr_aload_n (pc := 1) C lr_d_M_lose_1 rfl 0 rfl ?_
  refine lr_g7_111 (pc := 2) C lr_d_M_lose_2 ?_
  obtain ⟨u1, hu2, h⟩ := lr_bd h
  refine lr_callSi (pc := 5) (as := [.inl a1, .inl (lr_rd t 20 0 19)]) (st := []) C (lr_r_M_within hu2) lr_c7_107 lr_d_M_lose_5 rfl rfl ⟨by decide, by decide⟩ (Nat.le_of_ble_eq_true rfl) ?_
  refine lr_if_ne (pc := 8) (tgt := 13) C lr_d_M_lose_8 (by decide) (fun hc3 => ?_) (fun hc3 => ?_)
  · have h := lr_ng hc3 h
    refine lr_aload_n (pc := 13) C lr_d_M_lose_13 rfl 0 rfl ?_
    refine lr_iload_n (pc := 14) C lr_d_M_lose_14 rfl 1 rfl ?_
    obtain ⟨u4, hu5, h⟩ := lr_bd h
    refine lr_callVv (pc := 15) (as := [.inl a1]) (st := []) (fs := fun ad => lr_fs7 u1.2 0 ad) C (lr_r_M_takeOut hu5) lr_c7_171 lr_d_M_lose_15 rfl rfl (fun _ _ => rfl) (ci := 7) rfl rfl ⟨by decide, by decide⟩ (Nat.le_of_ble_eq_true rfl) ?_
    refine lr_iconst (pc := 18) (v := 1) C lr_d_M_lose_18 (by decide) ?_
    have e := Option.some.inj h
    subst e
    exact lr_iret C E lr_d_M_lose_19 (by decide)
  · have h := lr_ps hc3 h
    refine lr_iconst (pc := 11) (v := 0) C lr_d_M_lose_11 (by decide) ?_
    have e := Option.some.inj h
    subst e
    exact lr_iret C E lr_d_M_lose_12 (by decide)
