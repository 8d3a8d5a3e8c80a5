def lr_G_M_takenComes (a1 : Int32) (t : lr_S) : Option (Int32 × lr_S) := (lr_G_M_within (lr_rd t 40 0 (4 : Int32).toNatClampNeg) (lr_rd t 20 0 24) t).bind fun u1 => (if u1.1 = 0 then (some ((0 : Int32), u1.2)) else (if lr_in (lr_rd t 40 0 (4 : Int32).toNatClampNeg) 512 = true then (if ((lr_rd u1.2 41 0 (lr_rd t 40 0 (4 : Int32).toNatClampNeg).toNatClampNeg) / (8 : Int32)) = a1 then ((lr_G_M_pinned (lr_rd t 40 0 (4 : Int32).toNatClampNeg) u1.2).bind fun u6 => (if u6.1 = 0 then (some ((0 : Int32), u6.2)) else ((some (lr_wr u6.2 43 0 (lr_rd t 40 0 (4 : Int32).toNatClampNeg).toNatClampNeg (vp_nar .boolean (1 : Int32)))).bind fun t9 => (some ((1 : Int32), t9))))) else (some ((0 : Int32), u1.2))) else none))
set_option maxHeartbeats 4000000 in
theorem lr_r_M_takenComes {a1 : Int32} {t : lr_S} {o : Int32 × lr_S} (h : lr_G_M_takenComes a1 t = some o) : lr_RI 20 60 lr_m_M_takenComes [.inr (20, 0), .inl a1] t o.1 o.2 := by
  refine lr_ofI (ty := .boolean) (own := lr_R7) (by decide) rfl rfl (Nat.le_of_ble_eq_true rfl) (fun X C E => ?_)
  show lr_T X 0 [(0, .inr (20, 0)), (1, .inl a1)] [] t
  have h := (show ((lr_G_M_within (lr_rd t 40 0 (4 : Int32).toNatClampNeg) (lr_rd t 20 0 24) t).bind fun u1 => (if u1.1 = 0 then (some ((0 : Int32), u1.2)) else (if lr_in (lr_rd t 40 0 (4 : Int32).toNatClampNeg) 512 = true then (if ((lr_rd u1.2 41 0 (lr_rd t 40 0 (4 : Int32).toNatClampNeg).toNatClampNeg) / (8 : Int32)) = a1 then ((lr_G_M_pinned (lr_rd t 40 0 (4 : Int32).toNatClampNeg) u1.2).bind fun u6 => (if u6.1 = 0 then (some ((0 : Int32), u6.2)) else ((some (lr_wr u6.2 43 0 (lr_rd t 40 0 (4 : Int32).toNatClampNeg).toNatClampNeg (vp_nar .boolean (1 : Int32)))).bind fun t9 => (some ((1 : Int32), t9))))) else (some ((0 : Int32), u1.2))) else none))) = some o from h)
  refine lr_aload_n (pc := 0) C lr_d_M_takenComes_0 rfl 0 rfl ?_
  refine lr_g7_62 (pc := 1) C lr_d_M_takenComes_1 ?_
  refine lr_iconst (pc := 4) (v := 4) C lr_d_M_takenComes_4 (by decide) ?_
  refine lr_li40 (pc := 5) C lr_d_M_takenComes_5 (by decide) ?_
  refine lr_istore_n (pc := 6) (ls' := [(2, .inl (lr_rd t 40 0 (4 : Int32).toNatClampNeg)), (0, .inr (20, 0)), (1, .inl a1)]) C lr_d_M_takenComes_6 rfl (by decide) rfl ?_
  refine lr_iload_n (pc := 7) C lr_d_M_takenComes_7 rfl 0 rfl ?_
  refine lr_aload_n (pc := 8) C lr_d_M_takenComes_8 rfl 1 rfl ?_
  refine lr_g7_140 (pc := 9) C lr_d_M_takenComes_9 ?_
  obtain ⟨u1, hu2, h⟩ := lr_bd h
  refine lr_callSi (pc := 12) (as := [.inl (lr_rd t 40 0 (4 : Int32).toNatClampNeg), .inl (lr_rd t 20 0 24)]) (st := []) C (lr_r_M_within hu2) lr_c7_107 lr_d_M_takenComes_12 rfl rfl ⟨by decide, by decide⟩ (Nat.le_of_ble_eq_true rfl) ?_
  refine lr_if_eq (pc := 15) (tgt := 43) C lr_d_M_takenComes_15 (by decide) (fun hc3 => ?_) (fun hc3 => ?_)
  · have h := lr_ps hc3 h
    refine lr_iconst (pc := 43) (v := 0) C lr_d_M_takenComes_43 (by decide) ?_
    refine lr_istore_n (pc := 44) (ls' := [(3, .inl (0 : Int32)), (2, .inl (lr_rd t 40 0 (4 : Int32).toNatClampNeg)), (0, .inr (20, 0)), (1, .inl a1)]) C lr_d_M_takenComes_44 rfl (by decide) rfl ?_
    refine lr_iload_n (pc := 45) C lr_d_M_takenComes_45 rfl 0 rfl ?_
    refine lr_if_eq (pc := 46) (tgt := 56) C lr_d_M_takenComes_46 (by decide) (fun _ => ?_) (fun hc => absurd hc (by decide))
    refine lr_iload_n (pc := 56) C lr_d_M_takenComes_56 rfl 0 rfl ?_
    have e := Option.some.inj h
    subst e
    exact lr_iret C E lr_d_M_takenComes_57 (by decide)
  · have h := lr_ng hc3 h
    refine lr_aload_n (pc := 18) C lr_d_M_takenComes_18 rfl 1 rfl ?_
    refine lr_g7_65 (pc := 19) C lr_d_M_takenComes_19 ?_
    refine lr_iload_n (pc := 22) C lr_d_M_takenComes_22 rfl 0 rfl ?_
    obtain ⟨hb4, h⟩ := lr_gd h
    refine lr_li41 (pc := 23) C lr_d_M_takenComes_23 hb4 ?_
    refine lr_bipush (pc := 24) (v := 8) C lr_d_M_takenComes_24 (by decide) ?_
    refine lr_idiv (pc := 26) C lr_d_M_takenComes_26 (by decide) ?_
    refine lr_iload_n (pc := 27) C lr_d_M_takenComes_27 rfl 2 rfl ?_
    refine lr_icmp_ne (pc := 28) (tgt := 43) C lr_d_M_takenComes_28 (by decide) (fun hc5 => ?_) (fun hc5 => ?_)
    · have h := lr_ng hc5 h
      refine lr_iconst (pc := 43) (v := 0) C lr_d_M_takenComes_43 (by decide) ?_
      refine lr_istore_n (pc := 44) (ls' := [(3, .inl (0 : Int32)), (2, .inl (lr_rd t 40 0 (4 : Int32).toNatClampNeg)), (0, .inr (20, 0)), (1, .inl a1)]) C lr_d_M_takenComes_44 rfl (by decide) rfl ?_
      refine lr_iload_n (pc := 45) C lr_d_M_takenComes_45 rfl 0 rfl ?_
      refine lr_if_eq (pc := 46) (tgt := 56) C lr_d_M_takenComes_46 (by decide) (fun _ => ?_) (fun hc => absurd hc (by decide))
      refine lr_iload_n (pc := 56) C lr_d_M_takenComes_56 rfl 0 rfl ?_
      have e := Option.some.inj h
      subst e
      exact lr_iret C E lr_d_M_takenComes_57 (by decide)
    · have h := lr_ps hc5 h
      refine lr_aload_n (pc := 31) C lr_d_M_takenComes_31 rfl 1 rfl ?_
      refine lr_iload_n (pc := 32) C lr_d_M_takenComes_32 rfl 0 rfl ?_
      obtain ⟨u6, hu7, h⟩ := lr_bd h
      refine lr_callVi (pc := 33) (as := [.inl (lr_rd t 40 0 (4 : Int32).toNatClampNeg)]) (st := []) (fs := fun ad => lr_fs7 u1.2 0 ad) C (lr_r_M_pinned hu7) lr_c7_143 lr_d_M_takenComes_33 rfl rfl (fun _ _ => rfl) (ci := 7) rfl rfl ⟨by decide, by decide⟩ (Nat.le_of_ble_eq_true rfl) ?_
      refine lr_if_eq (pc := 36) (tgt := 43) C lr_d_M_takenComes_36 (by decide) (fun hc8 => ?_) (fun hc8 => ?_)
      · have h := lr_ps hc8 h
        refine lr_iconst (pc := 43) (v := 0) C lr_d_M_takenComes_43 (by decide) ?_
        refine lr_istore_n (pc := 44) (ls' := [(3, .inl (0 : Int32)), (2, .inl (lr_rd t 40 0 (4 : Int32).toNatClampNeg)), (0, .inr (20, 0)), (1, .inl a1)]) C lr_d_M_takenComes_44 rfl (by decide) rfl ?_
        refine lr_iload_n (pc := 45) C lr_d_M_takenComes_45 rfl 0 rfl ?_
        refine lr_if_eq (pc := 46) (tgt := 56) C lr_d_M_takenComes_46 (by decide) (fun _ => ?_) (fun hc => absurd hc (by decide))
        refine lr_iload_n (pc := 56) C lr_d_M_takenComes_56 rfl 0 rfl ?_
        have e := Option.some.inj h
        subst e
        exact lr_iret C E lr_d_M_takenComes_57 (by decide)
      · have h := lr_ng hc8 h
        refine lr_iconst (pc := 39) (v := 1) C lr_d_M_takenComes_39 (by decide) ?_
        refine lr_goto (pc := 40) (tgt := 44) C lr_d_M_takenComes_40 (by decide) ?_
        refine lr_istore_n (pc := 44) (ls' := [(3, .inl (1 : Int32)), (2, .inl (lr_rd t 40 0 (4 : Int32).toNatClampNeg)), (0, .inr (20, 0)), (1, .inl a1)]) C lr_d_M_takenComes_44 rfl (by decide) rfl ?_
        refine lr_iload_n (pc := 45) C lr_d_M_takenComes_45 rfl 0 rfl ?_
        refine lr_if_eq (pc := 46) (tgt := 56) C lr_d_M_takenComes_46 (by decide) (fun hc => absurd hc (by decide)) (fun _ => ?_)
        refine lr_aload_n (pc := 49) C lr_d_M_takenComes_49 rfl 2 rfl ?_
        refine lr_g7_71 (pc := 50) C lr_d_M_takenComes_50 ?_
        refine lr_iload_n (pc := 53) C lr_d_M_takenComes_53 rfl 1 rfl ?_
        refine lr_iconst (pc := 54) (v := 1) C lr_d_M_takenComes_54 (by decide) ?_
        refine lr_sz43 (pc := 55) C lr_d_M_takenComes_55 hb4 ?_
        obtain ⟨t9, ht10, h⟩ := lr_bd h
        rw [Option.some.inj ht10]
        refine lr_iload_n (pc := 56) C lr_d_M_takenComes_56 rfl 0 rfl ?_
        have e := Option.some.inj h
        subst e
        exact lr_iret C E lr_d_M_takenComes_57 (by decide)
def lr_G_M_dirtyComes (a1 : Int32) (a2 : Int32) (t : lr_S) : Option (Int32 × lr_S) := (lr_G_M_find a1 (1 : Int32) (lr_rd t 40 0 (3 : Int32).toNatClampNeg) t).bind fun u1 => (if 0 ≤ u1.1 then (if lr_in (((4 : Int32) * u1.1) + a2) 128 = true then (if (lr_rd u1.2 40 0 (4 : Int32).toNatClampNeg) ≤ (lr_rd u1.2 28 0 (((4 : Int32) * u1.1) + a2).toNatClampNeg) then (if (lr_rd u1.2 29 0 (((4 : Int32) * u1.1) + a2).toNatClampNeg) ≤ (lr_rd u1.2 20 0 0) then (some ((0 : Int32), u1.2)) else ((lr_G_M_send (3 : Int32) a1 a2 (lr_rd u1.2 40 0 (3 : Int32).toNatClampNeg) (lr_rd u1.2 40 0 (4 : Int32).toNatClampNeg) (lr_rd u1.2 40 0 (5 : Int32).toNatClampNeg) u1.2).bind fun u7 => (some ((1 : Int32), u7)))) else ((some (lr_wr u1.2 28 0 (((4 : Int32) * u1.1) + a2).toNatClampNeg (lr_rd u1.2 40 0 (4 : Int32).toNatClampNeg))).bind fun t9 => ((some (lr_wr t9 29 0 (((4 : Int32) * u1.1) + a2).toNatClampNeg ((lr_rd t9 20 0 0) + (24 : Int32)))).bind fun t11 => (if (lr_rd t11 29 0 (((4 : Int32) * u1.1) + a2).toNatClampNeg) ≤ (lr_rd t11 20 0 0) then (some ((0 : Int32), t11)) else ((lr_G_M_send (3 : Int32) a1 a2 (lr_rd t11 40 0 (3 : Int32).toNatClampNeg) (lr_rd t11 40 0 (4 : Int32).toNatClampNeg) (lr_rd t11 40 0 (5 : Int32).toNatClampNeg) t11).bind fun u14 => (some ((1 : Int32), u14))))))) else none) else ((lr_G_M_send (4 : Int32) a1 a2 (lr_rd u1.2 40 0 (3 : Int32).toNatClampNeg) (lr_rd u1.2 40 0 (4 : Int32).toNatClampNeg) (lr_rd u1.2 40 0 (5 : Int32).toNatClampNeg) u1.2).bind fun u16 => (some ((1 : Int32), u16))))
set_option maxHeartbeats 4000000 in
theorem lr_r_M_dirtyComes {a1 : Int32} {a2 : Int32} {t : lr_S} {o : Int32 × lr_S} (h : lr_G_M_dirtyComes a1 a2 t = some o) : lr_RI 20 60 lr_m_M_dirtyComes [.inr (20, 0), .inl a1, .inl a2] t o.1 o.2 := by
  refine lr_ofI (ty := .boolean) (own := lr_R7) (by decide) rfl rfl (Nat.le_of_ble_eq_true rfl) (fun X C E => ?_)
  show lr_T X 0 [(0, .inr (20, 0)), (1, .inl a1), (2, .inl a2)] [] t
  have h := (show ((lr_G_M_find a1 (1 : Int32) (lr_rd t 40 0 (3 : Int32).toNatClampNeg) t).bind fun u1 => (if 0 ≤ u1.1 then (if lr_in (((4 : Int32) * u1.1) + a2) 128 = true then (if (lr_rd u1.2 40 0 (4 : Int32).toNatClampNeg) ≤ (lr_rd u1.2 28 0 (((4 : Int32) * u1.1) + a2).toNatClampNeg) then (if (lr_rd u1.2 29 0 (((4 : Int32) * u1.1) + a2).toNatClampNeg) ≤ (lr_rd u1.2 20 0 0) then (some ((0 : Int32), u1.2)) else ((lr_G_M_send (3 : Int32) a1 a2 (lr_rd u1.2 40 0 (3 : Int32).toNatClampNeg) (lr_rd u1.2 40 0 (4 : Int32).toNatClampNeg) (lr_rd u1.2 40 0 (5 : Int32).toNatClampNeg) u1.2).bind fun u7 => (some ((1 : Int32), u7)))) else ((some (lr_wr u1.2 28 0 (((4 : Int32) * u1.1) + a2).toNatClampNeg (lr_rd u1.2 40 0 (4 : Int32).toNatClampNeg))).bind fun t9 => ((some (lr_wr t9 29 0 (((4 : Int32) * u1.1) + a2).toNatClampNeg ((lr_rd t9 20 0 0) + (24 : Int32)))).bind fun t11 => (if (lr_rd t11 29 0 (((4 : Int32) * u1.1) + a2).toNatClampNeg) ≤ (lr_rd t11 20 0 0) then (some ((0 : Int32), t11)) else ((lr_G_M_send (3 : Int32) a1 a2 (lr_rd t11 40 0 (3 : Int32).toNatClampNeg) (lr_rd t11 40 0 (4 : Int32).toNatClampNeg) (lr_rd t11 40 0 (5 : Int32).toNatClampNeg) t11).bind fun u14 => (some ((1 : Int32), u14))))))) else none) else ((lr_G_M_send (4 : Int32) a1 a2 (lr_rd u1.2 40 0 (3 : Int32).toNatClampNeg) (lr_rd u1.2 40 0 (4 : Int32).toNatClampNeg) (lr_rd u1.2 40 0 (5 : Int32).toNatClampNeg) u1.2).bind fun u16 => (some ((1 : Int32), u16))))) = some o from h)
  refine lr_aload_n (pc := 0) C lr_d_M_dirtyComes_0 rfl 0 rfl ?_
  refine lr_iload_n (pc := 1) C lr_d_M_dirtyComes_1 rfl 1 rfl ?_
  refine lr_iconst (pc := 2) (v := 1) C lr_d_M_dirtyComes_2 (by decide) ?_
  refine lr_aload_n (pc := 3) C lr_d_M_dirtyComes_3 rfl 0 rfl ?_
  refine lr_g7_62 (pc := 4) C lr_d_M_dirtyComes_4 ?_
  refine lr_iconst (pc := 7) (v := 3) C lr_d_M_dirtyComes_7 (by decide) ?_
  refine lr_li40 (pc := 8) C lr_d_M_dirtyComes_8 (by decide) ?_
  obtain ⟨u1, hu2, h⟩ := lr_bd h
  refine lr_callVi (pc := 9) (as := [.inl a1, .inl (1 : Int32), .inl (lr_rd t 40 0 (3 : Int32).toNatClampNeg)]) (st := []) (fs := fun ad => lr_fs7 t 0 ad) C (lr_r_M_find hu2) lr_c7_199 lr_d_M_dirtyComes_9 rfl rfl (fun _ _ => rfl) (ci := 7) rfl rfl ⟨by decide, by decide⟩ (Nat.le_of_ble_eq_true rfl) ?_
  refine lr_istore_n (pc := 12) (ls' := [(3, .inl u1.1), (0, .inr (20, 0)), (1, .inl a1), (2, .inl a2)]) C lr_d_M_dirtyComes_12 rfl (by decide) rfl ?_
  refine lr_iload_n (pc := 13) C lr_d_M_dirtyComes_13 rfl 0 rfl ?_
  refine lr_if_ge (pc := 14) (tgt := 44) C lr_d_M_dirtyComes_14 (by decide) (fun hc3 => ?_) (fun hc3 => ?_)
  · have h := lr_ps hc3 h
    refine lr_iconst (pc := 44) (v := 4) C lr_d_M_dirtyComes_44 (by decide) ?_
    refine lr_iload_n (pc := 45) C lr_d_M_dirtyComes_45 rfl 0 rfl ?_
    refine lr_imul (pc := 46) C lr_d_M_dirtyComes_46 ?_
    refine lr_iload_n (pc := 47) C lr_d_M_dirtyComes_47 rfl 3 rfl ?_
    refine lr_iadd (pc := 48) C lr_d_M_dirtyComes_48 ?_
    refine lr_istore (pc := 49) (ls' := [(4, .inl (((4 : Int32) * u1.1) + a2)), (3, .inl u1.1), (0, .inr (20, 0)), (1, .inl a1), (2, .inl a2)]) C lr_d_M_dirtyComes_49 (by decide) rfl ?_
    refine lr_aload_n (pc := 51) C lr_d_M_dirtyComes_51 rfl 2 rfl ?_
    refine lr_g7_62 (pc := 52) C lr_d_M_dirtyComes_52 ?_
    refine lr_iconst (pc := 55) (v := 4) C lr_d_M_dirtyComes_55 (by decide) ?_
    refine lr_li40 (pc := 56) C lr_d_M_dirtyComes_56 (by decide) ?_
    refine lr_aload_n (pc := 57) C lr_d_M_dirtyComes_57 rfl 2 rfl ?_
    refine lr_g7_32 (pc := 58) C lr_d_M_dirtyComes_58 ?_
    refine lr_iload (pc := 61) C lr_d_M_dirtyComes_61 0 rfl ?_
    obtain ⟨hb4, h⟩ := lr_gd h
    refine lr_li28 (pc := 63) C lr_d_M_dirtyComes_63 hb4 ?_
    refine lr_icmp_le (pc := 64) (tgt := 71) C lr_d_M_dirtyComes_64 (by decide) (fun hc5 => ?_) (fun hc5 => ?_)
    · have h := lr_ps hc5 h
      refine lr_iconst (pc := 71) (v := 0) C lr_d_M_dirtyComes_71 (by decide) ?_
      refine lr_istore (pc := 72) (ls' := [(5, .inl (0 : Int32)), (4, .inl (((4 : Int32) * u1.1) + a2)), (3, .inl u1.1), (0, .inr (20, 0)), (1, .inl a1), (2, .inl a2)]) C lr_d_M_dirtyComes_72 (by decide) rfl ?_
      refine lr_iload (pc := 74) C lr_d_M_dirtyComes_74 0 rfl ?_
      refine lr_if_eq (pc := 76) (tgt := 106) C lr_d_M_dirtyComes_76 (by decide) (fun _ => ?_) (fun hc => absurd hc (by decide))
      refine lr_aload_n (pc := 106) C lr_d_M_dirtyComes_106 rfl 3 rfl ?_
      refine lr_g7_35 (pc := 107) C lr_d_M_dirtyComes_107 ?_
      refine lr_iload (pc := 110) C lr_d_M_dirtyComes_110 1 rfl ?_
      refine lr_li29 (pc := 112) C lr_d_M_dirtyComes_112 hb4 ?_
      refine lr_aload_n (pc := 113) C lr_d_M_dirtyComes_113 rfl 3 rfl ?_
      refine lr_g7_119 (pc := 114) C lr_d_M_dirtyComes_114 ?_
      refine lr_icmp_le (pc := 117) (tgt := 124) C lr_d_M_dirtyComes_117 (by decide) (fun hc6 => ?_) (fun hc6 => ?_)
      · have h := lr_ps hc6 h
        refine lr_iconst (pc := 124) (v := 0) C lr_d_M_dirtyComes_124 (by decide) ?_
        refine lr_istore (pc := 125) (ls' := [(6, .inl (0 : Int32)), (5, .inl (0 : Int32)), (4, .inl (((4 : Int32) * u1.1) + a2)), (3, .inl u1.1), (0, .inr (20, 0)), (1, .inl a1), (2, .inl a2)]) C lr_d_M_dirtyComes_125 (by decide) rfl ?_
        refine lr_iload (pc := 127) C lr_d_M_dirtyComes_127 0 rfl ?_
        refine lr_if_eq (pc := 129) (tgt := 157) C lr_d_M_dirtyComes_129 (by decide) (fun _ => ?_) (fun hc => absurd hc (by decide))
        refine lr_iload (pc := 157) C lr_d_M_dirtyComes_157 0 rfl ?_
        have e := Option.some.inj h
        subst e
        exact lr_iret C E lr_d_M_dirtyComes_159 (by decide)
      · have h := lr_ng hc6 h
        refine lr_iconst (pc := 120) (v := 1) C lr_d_M_dirtyComes_120 (by decide) ?_
        refine lr_goto (pc := 121) (tgt := 125) C lr_d_M_dirtyComes_121 (by decide) ?_
        refine lr_istore (pc := 125) (ls' := [(6, .inl (1 : Int32)), (5, .inl (0 : Int32)), (4, .inl (((4 : Int32) * u1.1) + a2)), (3, .inl u1.1), (0, .inr (20, 0)), (1, .inl a1), (2, .inl a2)]) C lr_d_M_dirtyComes_125 (by decide) rfl ?_
        refine lr_iload (pc := 127) C lr_d_M_dirtyComes_127 0 rfl ?_
        refine lr_if_eq (pc := 129) (tgt := 157) C lr_d_M_dirtyComes_129 (by decide) (fun hc => absurd hc (by decide)) (fun _ => ?_)
        refine lr_aload_n (pc := 132) C lr_d_M_dirtyComes_132 rfl 4 rfl ?_
        refine lr_iconst (pc := 133) (v := 3) C lr_d_M_dirtyComes_133 (by decide) ?_
        refine lr_iload_n (pc := 134) C lr_d_M_dirtyComes_134 rfl 5 rfl ?_
        refine lr_iload_n (pc := 135) C lr_d_M_dirtyComes_135 rfl 6 rfl ?_
        refine lr_aload_n (pc := 136) C lr_d_M_dirtyComes_136 rfl 4 rfl ?_
        refine lr_g7_62 (pc := 137) C lr_d_M_dirtyComes_137 ?_
        refine lr_iconst (pc := 140) (v := 3) C lr_d_M_dirtyComes_140 (by decide) ?_
        refine lr_li40 (pc := 141) C lr_d_M_dirtyComes_141 (by decide) ?_
        refine lr_aload_n (pc := 142) C lr_d_M_dirtyComes_142 rfl 4 rfl ?_
        refine lr_g7_62 (pc := 143) C lr_d_M_dirtyComes_143 ?_
        refine lr_iconst (pc := 146) (v := 4) C lr_d_M_dirtyComes_146 (by decide) ?_
        refine lr_li40 (pc := 147) C lr_d_M_dirtyComes_147 (by decide) ?_
        refine lr_aload_n (pc := 148) C lr_d_M_dirtyComes_148 rfl 4 rfl ?_
        refine lr_g7_62 (pc := 149) C lr_d_M_dirtyComes_149 ?_
        refine lr_iconst (pc := 152) (v := 5) C lr_d_M_dirtyComes_152 (by decide) ?_
        refine lr_li40 (pc := 153) C lr_d_M_dirtyComes_153 (by decide) ?_
        obtain ⟨u7, hu8, h⟩ := lr_bd h
        refine lr_callVv (pc := 154) (as := [.inl (3 : Int32), .inl a1, .inl a2, .inl (lr_rd u1.2 40 0 (3 : Int32).toNatClampNeg), .inl (lr_rd u1.2 40 0 (4 : Int32).toNatClampNeg), .inl (lr_rd u1.2 40 0 (5 : Int32).toNatClampNeg)]) (st := []) (fs := fun ad => lr_fs7 u1.2 0 ad) C (lr_r_M_send hu8) lr_c7_126 lr_d_M_dirtyComes_154 rfl rfl (fun _ _ => rfl) (ci := 7) rfl rfl ⟨by decide, by decide⟩ (Nat.le_of_ble_eq_true rfl) ?_
        refine lr_iload (pc := 157) C lr_d_M_dirtyComes_157 0 rfl ?_
        have e := Option.some.inj h
        subst e
        exact lr_iret C E lr_d_M_dirtyComes_159 (by decide)
    · have h := lr_ng hc5 h
      refine lr_iconst (pc := 67) (v := 1) C lr_d_M_dirtyComes_67 (by decide) ?_
      refine lr_goto (pc := 68) (tgt := 72) C lr_d_M_dirtyComes_68 (by decide) ?_
      refine lr_istore (pc := 72) (ls' := [(5, .inl (1 : Int32)), (4, .inl (((4 : Int32) * u1.1) + a2)), (3, .inl u1.1), (0, .inr (20, 0)), (1, .inl a1), (2, .inl a2)]) C lr_d_M_dirtyComes_72 (by decide) rfl ?_
      refine lr_iload (pc := 74) C lr_d_M_dirtyComes_74 0 rfl ?_
      refine lr_if_eq (pc := 76) (tgt := 106) C lr_d_M_dirtyComes_76 (by decide) (fun hc => absurd hc (by decide)) (fun _ => ?_)
      refine lr_aload_n (pc := 79) C lr_d_M_dirtyComes_79 rfl 3 rfl ?_
      refine lr_g7_32 (pc := 80) C lr_d_M_dirtyComes_80 ?_
      refine lr_iload (pc := 83) C lr_d_M_dirtyComes_83 1 rfl ?_
      refine lr_aload_n (pc := 85) C lr_d_M_dirtyComes_85 rfl 3 rfl ?_
      refine lr_g7_62 (pc := 86) C lr_d_M_dirtyComes_86 ?_
      refine lr_iconst (pc := 89) (v := 4) C lr_d_M_dirtyComes_89 (by decide) ?_
      refine lr_li40 (pc := 90) C lr_d_M_dirtyComes_90 (by decide) ?_
      refine lr_si28 (pc := 91) C lr_d_M_dirtyComes_91 hb4 ?_
      obtain ⟨t9, ht10, h⟩ := lr_bd h
      rw [Option.some.inj ht10]
      refine lr_aload_n (pc := 92) C lr_d_M_dirtyComes_92 rfl 3 rfl ?_
      refine lr_g7_35 (pc := 93) C lr_d_M_dirtyComes_93 ?_
      refine lr_iload (pc := 96) C lr_d_M_dirtyComes_96 1 rfl ?_
      refine lr_aload_n (pc := 98) C lr_d_M_dirtyComes_98 rfl 3 rfl ?_
      refine lr_g7_119 (pc := 99) C lr_d_M_dirtyComes_99 ?_
      refine lr_bipush (pc := 102) (v := 24) C lr_d_M_dirtyComes_102 (by decide) ?_
      refine lr_iadd (pc := 104) C lr_d_M_dirtyComes_104 ?_
      refine lr_si29 (pc := 105) C lr_d_M_dirtyComes_105 hb4 ?_
      obtain ⟨t11, ht12, h⟩ := lr_bd h
      rw [Option.some.inj ht12]
      refine lr_aload_n (pc := 106) C lr_d_M_dirtyComes_106 rfl 3 rfl ?_
      refine lr_g7_35 (pc := 107) C lr_d_M_dirtyComes_107 ?_
      refine lr_iload (pc := 110) C lr_d_M_dirtyComes_110 1 rfl ?_
      refine lr_li29 (pc := 112) C lr_d_M_dirtyComes_112 hb4 ?_
      refine lr_aload_n (pc := 113) C lr_d_M_dirtyComes_113 rfl 3 rfl ?_
      refine lr_g7_119 (pc := 114) C lr_d_M_dirtyComes_114 ?_
      refine lr_icmp_le (pc := 117) (tgt := 124) C lr_d_M_dirtyComes_117 (by decide) (fun hc13 => ?_) (fun hc13 => ?_)
      · have h := lr_ps hc13 h
        refine lr_iconst (pc := 124) (v := 0) C lr_d_M_dirtyComes_124 (by decide) ?_
        refine lr_istore (pc := 125) (ls' := [(6, .inl (0 : Int32)), (5, .inl (1 : Int32)), (4, .inl (((4 : Int32) * u1.1) + a2)), (3, .inl u1.1), (0, .inr (20, 0)), (1, .inl a1), (2, .inl a2)]) C lr_d_M_dirtyComes_125 (by decide) rfl ?_
        refine lr_iload (pc := 127) C lr_d_M_dirtyComes_127 0 rfl ?_
        refine lr_if_eq (pc := 129) (tgt := 157) C lr_d_M_dirtyComes_129 (by decide) (fun _ => ?_) (fun hc => absurd hc (by decide))
        refine lr_iload (pc := 157) C lr_d_M_dirtyComes_157 0 rfl ?_
        have e := Option.some.inj h
        subst e
        exact lr_iret C E lr_d_M_dirtyComes_159 (by decide)
      · have h := lr_ng hc13 h
        refine lr_iconst (pc := 120) (v := 1) C lr_d_M_dirtyComes_120 (by decide) ?_
        refine lr_goto (pc := 121) (tgt := 125) C lr_d_M_dirtyComes_121 (by decide) ?_
        refine lr_istore (pc := 125) (ls' := [(6, .inl (1 : Int32)), (5, .inl (1 : Int32)), (4, .inl (((4 : Int32) * u1.1) + a2)), (3, .inl u1.1), (0, .inr (20, 0)), (1, .inl a1), (2, .inl a2)]) C lr_d_M_dirtyComes_125 (by decide) rfl ?_
        refine lr_iload (pc := 127) C lr_d_M_dirtyComes_127 0 rfl ?_
        refine lr_if_eq (pc := 129) (tgt := 157) C lr_d_M_dirtyComes_129 (by decide) (fun hc => absurd hc (by decide)) (fun _ => ?_)
        refine lr_aload_n (pc := 132) C lr_d_M_dirtyComes_132 rfl 4 rfl ?_
        refine lr_iconst (pc := 133) (v := 3) C lr_d_M_dirtyComes_133 (by decide) ?_
        refine lr_iload_n (pc := 134) C lr_d_M_dirtyComes_134 rfl 5 rfl ?_
        refine lr_iload_n (pc := 135) C lr_d_M_dirtyComes_135 rfl 6 rfl ?_
        refine lr_aload_n (pc := 136) C lr_d_M_dirtyComes_136 rfl 4 rfl ?_
        refine lr_g7_62 (pc := 137) C lr_d_M_dirtyComes_137 ?_
        refine lr_iconst (pc := 140) (v := 3) C lr_d_M_dirtyComes_140 (by decide) ?_
        refine lr_li40 (pc := 141) C lr_d_M_dirtyComes_141 (by decide) ?_
        refine lr_aload_n (pc := 142) C lr_d_M_dirtyComes_142 rfl 4 rfl ?_
        refine lr_g7_62 (pc := 143) C lr_d_M_dirtyComes_143 ?_
        refine lr_iconst (pc := 146) (v := 4) C lr_d_M_dirtyComes_146 (by decide) ?_
        refine lr_li40 (pc := 147) C lr_d_M_dirtyComes_147 (by decide) ?_
        refine lr_aload_n (pc := 148) C lr_d_M_dirtyComes_148 rfl 4 rfl ?_
        refine lr_g7_62 (pc := 149) C lr_d_M_dirtyComes_149 ?_
        refine lr_iconst (pc := 152) (v := 5) C lr_d_M_dirtyComes_152 (by decide) ?_
        refine lr_li40 (pc := 153) C lr_d_M_dirtyComes_153 (by decide) ?_
        obtain ⟨u14, hu15, h⟩ := lr_bd h
        refine lr_callVv (pc := 154) (as := [.inl (3 : Int32), .inl a1, .inl a2, .inl (lr_rd t11 40 0 (3 : Int32).toNatClampNeg), .inl (lr_rd t11 40 0 (4 : Int32).toNatClampNeg), .inl (lr_rd t11 40 0 (5 : Int32).toNatClampNeg)]) (st := []) (fs := fun ad => lr_fs7 t11 0 ad) C (lr_r_M_send hu15) lr_c7_126 lr_d_M_dirtyComes_154 rfl rfl (fun _ _ => rfl) (ci := 7) rfl rfl ⟨by decide, by decide⟩ (Nat.le_of_ble_eq_true rfl) ?_
        refine lr_iload (pc := 157) C lr_d_M_dirtyComes_157 0 rfl ?_
        have e := Option.some.inj h
        subst e
        exact lr_iret C E lr_d_M_dirtyComes_159 (by decide)
  · have h := lr_ng hc3 h
    refine lr_aload_n (pc := 17) C lr_d_M_dirtyComes_17 rfl 1 rfl ?_
    refine lr_iconst (pc := 18) (v := 4) C lr_d_M_dirtyComes_18 (by decide) ?_
    refine lr_iload_n (pc := 19) C lr_d_M_dirtyComes_19 rfl 2 rfl ?_
    refine lr_iload_n (pc := 20) C lr_d_M_dirtyComes_20 rfl 3 rfl ?_
    refine lr_aload_n (pc := 21) C lr_d_M_dirtyComes_21 rfl 1 rfl ?_
    refine lr_g7_62 (pc := 22) C lr_d_M_dirtyComes_22 ?_
    refine lr_iconst (pc := 25) (v := 3) C lr_d_M_dirtyComes_25 (by decide) ?_
    refine lr_li40 (pc := 26) C lr_d_M_dirtyComes_26 (by decide) ?_
    refine lr_aload_n (pc := 27) C lr_d_M_dirtyComes_27 rfl 1 rfl ?_
    refine lr_g7_62 (pc := 28) C lr_d_M_dirtyComes_28 ?_
    refine lr_iconst (pc := 31) (v := 4) C lr_d_M_dirtyComes_31 (by decide) ?_
    refine lr_li40 (pc := 32) C lr_d_M_dirtyComes_32 (by decide) ?_
    refine lr_aload_n (pc := 33) C lr_d_M_dirtyComes_33 rfl 1 rfl ?_
    refine lr_g7_62 (pc := 34) C lr_d_M_dirtyComes_34 ?_
    refine lr_iconst (pc := 37) (v := 5) C lr_d_M_dirtyComes_37 (by decide) ?_
    refine lr_li40 (pc := 38) C lr_d_M_dirtyComes_38 (by decide) ?_
    obtain ⟨u16, hu17, h⟩ := lr_bd h
    refine lr_callVv (pc := 39) (as := [.inl (4 : Int32), .inl a1, .inl a2, .inl (lr_rd u1.2 40 0 (3 : Int32).toNatClampNeg), .inl (lr_rd u1.2 40 0 (4 : Int32).toNatClampNeg), .inl (lr_rd u1.2 40 0 (5 : Int32).toNatClampNeg)]) (st := []) (fs := fun ad => lr_fs7 u1.2 0 ad) C (lr_r_M_send hu17) lr_c7_126 lr_d_M_dirtyComes_39 rfl rfl (fun _ _ => rfl) (ci := 7) rfl rfl ⟨by decide, by decide⟩ (Nat.le_of_ble_eq_true rfl) ?_
    refine lr_iconst (pc := 42) (v := 1) C lr_d_M_dirtyComes_42 (by decide) ?_
    have e := Option.some.inj h
    subst e
    exact lr_iret C E lr_d_M_dirtyComes_43 (by decide)
