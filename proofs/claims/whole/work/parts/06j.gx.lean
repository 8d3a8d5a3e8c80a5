def lr_G_X_make (a1 : Int32) (a2 : Int32) (t : lr_S) : Option (Int32 × lr_S) := (lr_G_X_acts a1 t).bind fun u1 => (if u1.1 = 0 then (some ((-1 : Int32), u1.2)) else ((lr_G_X_isRoot a2 u1.2).bind fun u4 => (if u4.1 = 0 then (some ((-1 : Int32), u4.2)) else (if lr_in a1 4 = true then ((lr_G_Node_leastEmptySlot a1.toNatClampNeg u4.2).bind fun u8 => (if u8.1 = (-1 : Int32) then (some ((-1 : Int32), u8.2)) else (if lr_in u8.1 8 = true then ((lr_G_Slot_holdNewObject (8 * a1.toNatClampNeg + u8.1.toNatClampNeg) (lr_rd u8.2 0 0 3) (lr_wr u8.2 0 0 3 ((lr_rd u8.2 0 0 3) + (1 : Int32)))).bind fun u12 => (if lr_in a2 3 = true then (some ((lr_rd u8.2 0 0 3), (lr_wr u12 11 a1.toNatClampNeg a2.toNatClampNeg u8.1))) else none)) else none))) else none))))
set_option maxHeartbeats 4000000 in
theorem lr_r_X_make {a1 : Int32} {a2 : Int32} {t : lr_S} {o : Int32 × lr_S} (h : lr_G_X_make a1 a2 t = some o) : lr_RI 0 20 lr_m_X_make [.inr (0, 0), .inl a1, .inl a2] t o.1 o.2 := by
  refine lr_ofI (ty := .int) (own := lr_R6) (by decide) rfl rfl (Nat.le_of_ble_eq_true rfl) (fun X C E => ?_)
  show lr_T X 0 [(0, .inr (0, 0)), (1, .inl a1), (2, .inl a2)] [] t
  have h := (show ((lr_G_X_acts a1 t).bind fun u1 => (if u1.1 = 0 then (some ((-1 : Int32), u1.2)) else ((lr_G_X_isRoot a2 u1.2).bind fun u4 => (if u4.1 = 0 then (some ((-1 : Int32), u4.2)) else (if lr_in a1 4 = true then ((lr_G_Node_leastEmptySlot a1.toNatClampNeg u4.2).bind fun u8 => (if u8.1 = (-1 : Int32) then (some ((-1 : Int32), u8.2)) else (if lr_in u8.1 8 = true then ((lr_G_Slot_holdNewObject (8 * a1.toNatClampNeg + u8.1.toNatClampNeg) (lr_rd u8.2 0 0 3) (lr_wr u8.2 0 0 3 ((lr_rd u8.2 0 0 3) + (1 : Int32)))).bind fun u12 => (if lr_in a2 3 = true then (some ((lr_rd u8.2 0 0 3), (lr_wr u12 11 a1.toNatClampNeg a2.toNatClampNeg u8.1))) else none)) else none))) else none))))) = some o from h)
  refine lr_aload_n (pc := 0) C lr_d_X_make_0 rfl 0 rfl ?_
  refine lr_iload_n (pc := 1) C lr_d_X_make_1 rfl 1 rfl ?_
  obtain ⟨u1, hu2, h⟩ := lr_bd h
  refine lr_callVi (pc := 2) (as := [.inl a1]) (st := []) (fs := fun ad => lr_fs6 t 0 ad) C (lr_r_X_acts hu2) lr_c6_39 lr_d_X_make_2 rfl rfl (fun _ _ => rfl) (ci := 6) rfl rfl ⟨by decide, by decide⟩ (Nat.le_of_ble_eq_true rfl) ?_
  refine lr_if_eq (pc := 5) (tgt := 15) C lr_d_X_make_5 (by decide) (fun hc3 => ?_) (fun hc3 => ?_)
  · have h := lr_ps hc3 h
    refine lr_iconst (pc := 15) (v := -1) C lr_d_X_make_15 (by decide) ?_
    have e := Option.some.inj h
    subst e
    exact lr_iret C E lr_d_X_make_16 rfl
  · have h := lr_ng hc3 h
    refine lr_iload_n (pc := 8) C lr_d_X_make_8 rfl 2 rfl ?_
    obtain ⟨u4, hu5, h⟩ := lr_bd h
    refine lr_callSi (pc := 9) (as := [.inl a2]) (st := []) C (lr_r_X_isRoot hu5) lr_c6_43 lr_d_X_make_9 rfl rfl ⟨by decide, by decide⟩ (Nat.le_of_ble_eq_true rfl) ?_
    refine lr_if_ne (pc := 12) (tgt := 17) C lr_d_X_make_12 (by decide) (fun hc6 => ?_) (fun hc6 => ?_)
    · have h := lr_ng hc6 h
      refine lr_aload_n (pc := 17) C lr_d_X_make_17 rfl 0 rfl ?_
      refine lr_g6_18 (pc := 18) C lr_d_X_make_18 ?_
      refine lr_iload_n (pc := 21) C lr_d_X_make_21 rfl 1 rfl ?_
      obtain ⟨hb7, h⟩ := lr_gd h
      refine lr_a4 (pc := 22) C lr_d_X_make_22 hb7 ?_
      refine lr_astore_n (pc := 23) (ls' := [(3, .inr (5, a1.toNatClampNeg)), (0, .inr (0, 0)), (1, .inl a1), (2, .inl a2)]) C lr_d_X_make_23 rfl (by decide) rfl ?_
      refine lr_aload_n (pc := 24) C lr_d_X_make_24 rfl 0 rfl ?_
      obtain ⟨u8, hu9, h⟩ := lr_bd h
      refine lr_callVi (pc := 25) (as := []) (st := []) (fs := fun ad => lr_fs2 u4.2 a1.toNatClampNeg ad) C (lr_r_Node_leastEmptySlot hu9) lr_c6_46 lr_d_X_make_25 rfl rfl (fun _ _ => rfl) (ci := 2) rfl rfl ⟨by decide, by decide⟩ (Nat.le_of_ble_eq_true rfl) ?_
      refine lr_istore (pc := 28) (ls' := [(4, .inl u8.1), (3, .inr (5, a1.toNatClampNeg)), (0, .inr (0, 0)), (1, .inl a1), (2, .inl a2)]) C lr_d_X_make_28 (by decide) rfl ?_
      refine lr_iload (pc := 30) C lr_d_X_make_30 0 rfl ?_
      refine lr_iconst (pc := 32) (v := -1) C lr_d_X_make_32 (by decide) ?_
      refine lr_icmp_ne (pc := 33) (tgt := 38) C lr_d_X_make_33 (by decide) (fun hc10 => ?_) (fun hc10 => ?_)
      · have h := lr_ng hc10 h
        refine lr_aload_n (pc := 38) C lr_d_X_make_38 rfl 2 rfl ?_
        refine lr_g6_32 (pc := 39) C lr_d_X_make_39 ?_
        refine lr_istore (pc := 42) (ls' := [(5, .inl (lr_rd u8.2 0 0 3)), (4, .inl u8.1), (3, .inr (5, a1.toNatClampNeg)), (0, .inr (0, 0)), (1, .inl a1), (2, .inl a2)]) C lr_d_X_make_42 (by decide) rfl ?_
        refine lr_aload_n (pc := 44) C lr_d_X_make_44 rfl 3 rfl ?_
        refine lr_dup (pc := 45) C lr_d_X_make_45 ?_
        refine lr_g6_32 (pc := 46) C lr_d_X_make_46 ?_
        refine lr_iconst (pc := 49) (v := 1) C lr_d_X_make_49 (by decide) ?_
        refine lr_iadd (pc := 50) C lr_d_X_make_50 ?_
        refine lr_p6_32 (pc := 51) C lr_d_X_make_51 ?_
        refine lr_aload_n (pc := 54) C lr_d_X_make_54 rfl 2 rfl ?_
        refine lr_g6_50 (pc := 55) C lr_d_X_make_55 ?_
        refine lr_iload (pc := 58) C lr_d_X_make_58 1 rfl ?_
        obtain ⟨hb11, h⟩ := lr_gd h
        refine lr_a6 (pc := 60) C lr_d_X_make_60 hb11 ?_
        refine lr_iload (pc := 61) C lr_d_X_make_61 0 rfl ?_
        obtain ⟨u12, hu13, h⟩ := lr_bd h
        refine lr_callVv (pc := 63) (as := [.inl (lr_rd u8.2 0 0 3)]) (st := []) (fs := fun ad => lr_fs5 (lr_wr u8.2 0 0 3 ((lr_rd u8.2 0 0 3) + (1 : Int32))) (8 * a1.toNatClampNeg + u8.1.toNatClampNeg) ad) C (lr_r_Slot_holdNewObject hu13) lr_c6_54 lr_d_X_make_63 rfl rfl (fun _ _ => rfl) (ci := 5) rfl rfl ⟨by decide, by decide⟩ (Nat.le_of_ble_eq_true rfl) ?_
        refine lr_aload_n (pc := 66) C lr_d_X_make_66 rfl 2 rfl ?_
        refine lr_g6_60 (pc := 67) C lr_d_X_make_67 ?_
        refine lr_iload_n (pc := 70) C lr_d_X_make_70 rfl 5 rfl ?_
        refine lr_iload (pc := 71) C lr_d_X_make_71 1 rfl ?_
        obtain ⟨hb14, h⟩ := lr_gd h
        refine lr_si11 (pc := 73) C lr_d_X_make_73 hb14 ?_
        refine lr_iload (pc := 74) C lr_d_X_make_74 0 rfl ?_
        have e := Option.some.inj h
        subst e
        exact lr_iret C E lr_d_X_make_76 rfl
      · have h := lr_ps hc10 h
        refine lr_iconst (pc := 36) (v := -1) C lr_d_X_make_36 (by decide) ?_
        have e := Option.some.inj h
        subst e
        exact lr_iret C E lr_d_X_make_37 rfl
    · have h := lr_ps hc6 h
      refine lr_iconst (pc := 15) (v := -1) C lr_d_X_make_15 (by decide) ?_
      have e := Option.some.inj h
      subst e
      exact lr_iret C E lr_d_X_make_16 rfl
def lr_G_X_isField (a0 : Int32) (t : lr_S) : Option (Int32 × lr_S) := if a0 < 0 then (some ((0 : Int32), t)) else (if (2 : Int32) ≤ a0 then (some ((0 : Int32), t)) else (some ((1 : Int32), t)))
set_option maxHeartbeats 4000000 in
theorem lr_r_X_isField {a0 : Int32} {t : lr_S} {o : Int32 × lr_S} (h : lr_G_X_isField a0 t = some o) : lr_RI 0 20 lr_m_X_isField [.inl a0] t o.1 o.2 := by
  refine lr_ofI (ty := .boolean) (own := lr_R6) (by decide) rfl rfl (Nat.le_of_ble_eq_true rfl) (fun X C E => ?_)
  show lr_T X 0 [(0, .inl a0)] [] t
  have h := (show (if a0 < 0 then (some ((0 : Int32), t)) else (if (2 : Int32) ≤ a0 then (some ((0 : Int32), t)) else (some ((1 : Int32), t)))) = some o from h)
  refine lr_iload_n (pc := 0) C lr_d_X_isField_0 rfl 0 rfl ?_
  refine lr_if_lt (pc := 1) (tgt := 13) C lr_d_X_isField_1 (by decide) (fun hc1 => ?_) (fun hc1 => ?_)
  · have h := lr_ps hc1 h
    refine lr_iconst (pc := 13) (v := 0) C lr_d_X_isField_13 (by decide) ?_
    have e := Option.some.inj h
    subst e
    exact lr_iret C E lr_d_X_isField_14 (by decide)
  · have h := lr_ng hc1 h
    refine lr_iload_n (pc := 4) C lr_d_X_isField_4 rfl 0 rfl ?_
    refine lr_iconst (pc := 5) (v := 2) C lr_d_X_isField_5 (by decide) ?_
    refine lr_icmp_ge (pc := 6) (tgt := 13) C lr_d_X_isField_6 (by decide) (fun hc2 => ?_) (fun hc2 => ?_)
    · have h := lr_ps hc2 h
      refine lr_iconst (pc := 13) (v := 0) C lr_d_X_isField_13 (by decide) ?_
      have e := Option.some.inj h
      subst e
      exact lr_iret C E lr_d_X_isField_14 (by decide)
    · have h := lr_ng hc2 h
      refine lr_iconst (pc := 9) (v := 1) C lr_d_X_isField_9 (by decide) ?_
      refine lr_goto (pc := 10) (tgt := 14) C lr_d_X_isField_10 (by decide) ?_
      have e := Option.some.inj h
      subst e
      exact lr_iret C E lr_d_X_isField_14 (by decide)
def lr_G_X_link (a1 : Int32) (a2 : Int32) (a3 : Int32) (a4 : Int32) (t : lr_S) : Option (Int32 × lr_S) := (lr_G_X_acts a1 t).bind fun u1 => (if u1.1 = 0 then (some ((0 : Int32), u1.2)) else ((lr_G_X_isRoot a2 u1.2).bind fun u4 => (if u4.1 = 0 then (some ((0 : Int32), u4.2)) else ((lr_G_X_isField a3 u4.2).bind fun u7 => (if u7.1 = 0 then (some ((0 : Int32), u7.2)) else (if a4 = (-1 : Int32) then (if lr_in a1 4 = true then ((lr_G_Node_rootHolds a1.toNatClampNeg a2 (1 : Int32) u7.2).bind fun u12 => (if u12.1 = 0 then (some ((0 : Int32), u12.2)) else (if lr_in a2 3 = true then (if lr_in (lr_rd u12.2 11 a1.toNatClampNeg a2.toNatClampNeg) 8 = true then (if lr_in a3 2 = true then ((some (lr_wr u12.2 8 (8 * a1.toNatClampNeg + (lr_rd u12.2 11 a1.toNatClampNeg a2.toNatClampNeg).toNatClampNeg) a3.toNatClampNeg (-1 : Int32))).bind fun t18 => (some ((1 : Int32), t18))) else none) else none) else none))) else none) else ((lr_G_X_isRoot a4 u7.2).bind fun u20 => (if u20.1 = 0 then (some ((0 : Int32), u20.2)) else (if lr_in a1 4 = true then ((lr_G_Node_rootHolds a1.toNatClampNeg a2 (1 : Int32) u20.2).bind fun u24 => (if u24.1 = 0 then (some ((0 : Int32), u24.2)) else (if lr_in a2 3 = true then (if lr_in (lr_rd u24.2 11 a1.toNatClampNeg a2.toNatClampNeg) 8 = true then (if lr_in a4 3 = true then (if lr_in a3 2 = true then ((some (lr_wr u24.2 8 (8 * a1.toNatClampNeg + (lr_rd u24.2 11 a1.toNatClampNeg a2.toNatClampNeg).toNatClampNeg) a3.toNatClampNeg (lr_rd u24.2 11 a1.toNatClampNeg a4.toNatClampNeg))).bind fun t31 => (some ((1 : Int32), t31))) else none) else none) else none) else none))) else none)))))))))
set_option maxHeartbeats 4000000 in
theorem lr_r_X_link {a1 : Int32} {a2 : Int32} {a3 : Int32} {a4 : Int32} {t : lr_S} {o : Int32 × lr_S} (h : lr_G_X_link a1 a2 a3 a4 t = some o) : lr_RI 0 20 lr_m_X_link [.inr (0, 0), .inl a1, .inl a2, .inl a3, .inl a4] t o.1 o.2 := by
  refine lr_ofI (ty := .boolean) (own := lr_R6) (by decide) rfl rfl (Nat.le_of_ble_eq_true rfl) (fun X C E => ?_)
  show lr_T X 0 [(0, .inr (0, 0)), (1, .inl a1), (2, .inl a2), (3, .inl a3), (4, .inl a4)] [] t
  have h := (show ((lr_G_X_acts a1 t).bind fun u1 => (if u1.1 = 0 then (some ((0 : Int32), u1.2)) else ((lr_G_X_isRoot a2 u1.2).bind fun u4 => (if u4.1 = 0 then (some ((0 : Int32), u4.2)) else ((lr_G_X_isField a3 u4.2).bind fun u7 => (if u7.1 = 0 then (some ((0 : Int32), u7.2)) else (if a4 = (-1 : Int32) then (if lr_in a1 4 = true then ((lr_G_Node_rootHolds a1.toNatClampNeg a2 (1 : Int32) u7.2).bind fun u12 => (if u12.1 = 0 then (some ((0 : Int32), u12.2)) else (if lr_in a2 3 = true then (if lr_in (lr_rd u12.2 11 a1.toNatClampNeg a2.toNatClampNeg) 8 = true then (if lr_in a3 2 = true then ((some (lr_wr u12.2 8 (8 * a1.toNatClampNeg + (lr_rd u12.2 11 a1.toNatClampNeg a2.toNatClampNeg).toNatClampNeg) a3.toNatClampNeg (-1 : Int32))).bind fun t18 => (some ((1 : Int32), t18))) else none) else none) else none))) else none) else ((lr_G_X_isRoot a4 u7.2).bind fun u20 => (if u20.1 = 0 then (some ((0 : Int32), u20.2)) else (if lr_in a1 4 = true then ((lr_G_Node_rootHolds a1.toNatClampNeg a2 (1 : Int32) u20.2).bind fun u24 => (if u24.1 = 0 then (some ((0 : Int32), u24.2)) else (if lr_in a2 3 = true then (if lr_in (lr_rd u24.2 11 a1.toNatClampNeg a2.toNatClampNeg) 8 = true then (if lr_in a4 3 = true then (if lr_in a3 2 = true then ((some (lr_wr u24.2 8 (8 * a1.toNatClampNeg + (lr_rd u24.2 11 a1.toNatClampNeg a2.toNatClampNeg).toNatClampNeg) a3.toNatClampNeg (lr_rd u24.2 11 a1.toNatClampNeg a4.toNatClampNeg))).bind fun t31 => (some ((1 : Int32), t31))) else none) else none) else none) else none))) else none)))))))))) = some o from h)
  refine lr_aload_n (pc := 0) C lr_d_X_link_0 rfl 0 rfl ?_
  refine lr_iload_n (pc := 1) C lr_d_X_link_1 rfl 1 rfl ?_
  obtain ⟨u1, hu2, h⟩ := lr_bd h
  refine lr_callVi (pc := 2) (as := [.inl a1]) (st := []) (fs := fun ad => lr_fs6 t 0 ad) C (lr_r_X_acts hu2) lr_c6_39 lr_d_X_link_2 rfl rfl (fun _ _ => rfl) (ci := 6) rfl rfl ⟨by decide, by decide⟩ (Nat.le_of_ble_eq_true rfl) ?_
  refine lr_if_eq (pc := 5) (tgt := 22) C lr_d_X_link_5 (by decide) (fun hc3 => ?_) (fun hc3 => ?_)
  · have h := lr_ps hc3 h
    refine lr_iconst (pc := 22) (v := 0) C lr_d_X_link_22 (by decide) ?_
    have e := Option.some.inj h
    subst e
    exact lr_iret C E lr_d_X_link_23 (by decide)
  · have h := lr_ng hc3 h
    refine lr_iload_n (pc := 8) C lr_d_X_link_8 rfl 2 rfl ?_
    obtain ⟨u4, hu5, h⟩ := lr_bd h
    refine lr_callSi (pc := 9) (as := [.inl a2]) (st := []) C (lr_r_X_isRoot hu5) lr_c6_43 lr_d_X_link_9 rfl rfl ⟨by decide, by decide⟩ (Nat.le_of_ble_eq_true rfl) ?_
    refine lr_if_eq (pc := 12) (tgt := 22) C lr_d_X_link_12 (by decide) (fun hc6 => ?_) (fun hc6 => ?_)
    · have h := lr_ps hc6 h
      refine lr_iconst (pc := 22) (v := 0) C lr_d_X_link_22 (by decide) ?_
      have e := Option.some.inj h
      subst e
      exact lr_iret C E lr_d_X_link_23 (by decide)
    · have h := lr_ng hc6 h
      refine lr_iload_n (pc := 15) C lr_d_X_link_15 rfl 3 rfl ?_
      obtain ⟨u7, hu8, h⟩ := lr_bd h
      refine lr_callSi (pc := 16) (as := [.inl a3]) (st := []) C (lr_r_X_isField hu8) lr_c6_64 lr_d_X_link_16 rfl rfl ⟨by decide, by decide⟩ (Nat.le_of_ble_eq_true rfl) ?_
      refine lr_if_ne (pc := 19) (tgt := 24) C lr_d_X_link_19 (by decide) (fun hc9 => ?_) (fun hc9 => ?_)
      · have h := lr_ng hc9 h
        refine lr_iload (pc := 24) C lr_d_X_link_24 4 rfl ?_
        refine lr_iconst (pc := 26) (v := -1) C lr_d_X_link_26 (by decide) ?_
        refine lr_icmp_eq (pc := 27) (tgt := 40) C lr_d_X_link_27 (by decide) (fun hc10 => ?_) (fun hc10 => ?_)
        · have h := lr_ps hc10 h
          refine lr_aload_n (pc := 40) C lr_d_X_link_40 rfl 0 rfl ?_
          refine lr_g6_18 (pc := 41) C lr_d_X_link_41 ?_
          refine lr_iload_n (pc := 44) C lr_d_X_link_44 rfl 1 rfl ?_
          obtain ⟨hb11, h⟩ := lr_gd h
          refine lr_a4 (pc := 45) C lr_d_X_link_45 hb11 ?_
          refine lr_astore (pc := 46) (ls' := [(5, .inr (5, a1.toNatClampNeg)), (0, .inr (0, 0)), (1, .inl a1), (2, .inl a2), (3, .inl a3), (4, .inl a4)]) C lr_d_X_link_46 (by decide) rfl ?_
          refine lr_aload (pc := 48) C lr_d_X_link_48 0 rfl ?_
          refine lr_iload_n (pc := 50) C lr_d_X_link_50 rfl 3 rfl ?_
          refine lr_iconst (pc := 51) (v := 1) C lr_d_X_link_51 (by decide) ?_
          obtain ⟨u12, hu13, h⟩ := lr_bd h
          refine lr_callVi (pc := 52) (as := [.inl a2, .inl (1 : Int32)]) (st := []) (fs := fun ad => lr_fs2 u7.2 a1.toNatClampNeg ad) C (lr_r_Node_rootHolds hu13) lr_c6_67 lr_d_X_link_52 rfl rfl (fun _ _ => rfl) (ci := 2) rfl rfl ⟨by decide, by decide⟩ (Nat.le_of_ble_eq_true rfl) ?_
          refine lr_if_ne (pc := 55) (tgt := 60) C lr_d_X_link_55 (by decide) (fun hc14 => ?_) (fun hc14 => ?_)
          · have h := lr_ng hc14 h
            refine lr_aload (pc := 60) C lr_d_X_link_60 0 rfl ?_
            refine lr_g6_50 (pc := 62) C lr_d_X_link_62 ?_
            refine lr_aload (pc := 65) C lr_d_X_link_65 0 rfl ?_
            refine lr_g6_60 (pc := 67) C lr_d_X_link_67 ?_
            refine lr_iload_n (pc := 70) C lr_d_X_link_70 rfl 3 rfl ?_
            obtain ⟨hb15, h⟩ := lr_gd h
            refine lr_li11 (pc := 71) C lr_d_X_link_71 hb15 ?_
            obtain ⟨hb16, h⟩ := lr_gd h
            refine lr_a6 (pc := 72) C lr_d_X_link_72 hb16 ?_
            refine lr_g6_71 (pc := 73) C lr_d_X_link_73 ?_
            refine lr_iload_n (pc := 76) C lr_d_X_link_76 rfl 4 rfl ?_
            refine lr_iload (pc := 77) C lr_d_X_link_77 5 rfl ?_
            refine lr_iconst (pc := 79) (v := -1) C lr_d_X_link_79 (by decide) ?_
            refine lr_icmp_ne (pc := 80) (tgt := 87) C lr_d_X_link_80 (by decide) (fun hc => (by first | exact absurd hc hc10 | exact absurd hc10 hc | exact absurd hc (Int32.not_le.mpr hc10) | exact absurd hc10 (Int32.not_lt.mpr hc) | exact absurd (Int32.not_le.mp hc) hc10 | exact absurd (Int32.not_lt.mp hc) hc10 | exact absurd hc (Int32.not_lt.mpr hc10) | exact hc (Int32.not_lt.mp hc10) | exact hc (Int32.not_le.mp hc10) : False).elim) (fun _ => ?_)
            refine lr_iconst (pc := 83) (v := -1) C lr_d_X_link_83 (by decide) ?_
            refine lr_goto (pc := 84) (tgt := 95) C lr_d_X_link_84 (by decide) ?_
            obtain ⟨hb17, h⟩ := lr_gd h
            refine lr_si8 (pc := 95) C lr_d_X_link_95 hb17 ?_
            obtain ⟨t18, ht19, h⟩ := lr_bd h
            rw [Option.some.inj ht19]
            refine lr_iconst (pc := 96) (v := 1) C lr_d_X_link_96 (by decide) ?_
            have e := Option.some.inj h
            subst e
            exact lr_iret C E lr_d_X_link_97 (by decide)
          · have h := lr_ps hc14 h
            refine lr_iconst (pc := 58) (v := 0) C lr_d_X_link_58 (by decide) ?_
            have e := Option.some.inj h
            subst e
            exact lr_iret C E lr_d_X_link_59 (by decide)
        · have h := lr_ng hc10 h
          refine lr_iload (pc := 30) C lr_d_X_link_30 4 rfl ?_
          obtain ⟨u20, hu21, h⟩ := lr_bd h
          refine lr_callSi (pc := 32) (as := [.inl a4]) (st := []) C (lr_r_X_isRoot hu21) lr_c6_43 lr_d_X_link_32 rfl rfl ⟨by decide, by decide⟩ (Nat.le_of_ble_eq_true rfl) ?_
          refine lr_if_ne (pc := 35) (tgt := 40) C lr_d_X_link_35 (by decide) (fun hc22 => ?_) (fun hc22 => ?_)
          · have h := lr_ng hc22 h
            refine lr_aload_n (pc := 40) C lr_d_X_link_40 rfl 0 rfl ?_
            refine lr_g6_18 (pc := 41) C lr_d_X_link_41 ?_
            refine lr_iload_n (pc := 44) C lr_d_X_link_44 rfl 1 rfl ?_
            obtain ⟨hb23, h⟩ := lr_gd h
            refine lr_a4 (pc := 45) C lr_d_X_link_45 hb23 ?_
            refine lr_astore (pc := 46) (ls' := [(5, .inr (5, a1.toNatClampNeg)), (0, .inr (0, 0)), (1, .inl a1), (2, .inl a2), (3, .inl a3), (4, .inl a4)]) C lr_d_X_link_46 (by decide) rfl ?_
            refine lr_aload (pc := 48) C lr_d_X_link_48 0 rfl ?_
            refine lr_iload_n (pc := 50) C lr_d_X_link_50 rfl 3 rfl ?_
            refine lr_iconst (pc := 51) (v := 1) C lr_d_X_link_51 (by decide) ?_
            obtain ⟨u24, hu25, h⟩ := lr_bd h
            refine lr_callVi (pc := 52) (as := [.inl a2, .inl (1 : Int32)]) (st := []) (fs := fun ad => lr_fs2 u20.2 a1.toNatClampNeg ad) C (lr_r_Node_rootHolds hu25) lr_c6_67 lr_d_X_link_52 rfl rfl (fun _ _ => rfl) (ci := 2) rfl rfl ⟨by decide, by decide⟩ (Nat.le_of_ble_eq_true rfl) ?_
            refine lr_if_ne (pc := 55) (tgt := 60) C lr_d_X_link_55 (by decide) (fun hc26 => ?_) (fun hc26 => ?_)
            · have h := lr_ng hc26 h
              refine lr_aload (pc := 60) C lr_d_X_link_60 0 rfl ?_
              refine lr_g6_50 (pc := 62) C lr_d_X_link_62 ?_
              refine lr_aload (pc := 65) C lr_d_X_link_65 0 rfl ?_
              refine lr_g6_60 (pc := 67) C lr_d_X_link_67 ?_
              refine lr_iload_n (pc := 70) C lr_d_X_link_70 rfl 3 rfl ?_
              obtain ⟨hb27, h⟩ := lr_gd h
              refine lr_li11 (pc := 71) C lr_d_X_link_71 hb27 ?_
              obtain ⟨hb28, h⟩ := lr_gd h
              refine lr_a6 (pc := 72) C lr_d_X_link_72 hb28 ?_
              refine lr_g6_71 (pc := 73) C lr_d_X_link_73 ?_
              refine lr_iload_n (pc := 76) C lr_d_X_link_76 rfl 4 rfl ?_
              refine lr_iload (pc := 77) C lr_d_X_link_77 5 rfl ?_
              refine lr_iconst (pc := 79) (v := -1) C lr_d_X_link_79 (by decide) ?_
              refine lr_icmp_ne (pc := 80) (tgt := 87) C lr_d_X_link_80 (by decide) (fun _ => ?_) (fun hc => (by first | exact absurd hc hc10 | exact absurd hc10 hc | exact absurd hc (Int32.not_le.mpr hc10) | exact absurd hc10 (Int32.not_lt.mpr hc) | exact absurd (Int32.not_le.mp hc) hc10 | exact absurd (Int32.not_lt.mp hc) hc10 | exact absurd hc (Int32.not_lt.mpr hc10) | exact hc (Int32.not_lt.mp hc10) | exact hc (Int32.not_le.mp hc10) : False).elim)
              refine lr_aload (pc := 87) C lr_d_X_link_87 0 rfl ?_
              refine lr_g6_60 (pc := 89) C lr_d_X_link_89 ?_
              refine lr_iload (pc := 92) C lr_d_X_link_92 5 rfl ?_
              obtain ⟨hb29, h⟩ := lr_gd h
              refine lr_li11 (pc := 94) C lr_d_X_link_94 hb29 ?_
              obtain ⟨hb30, h⟩ := lr_gd h
              refine lr_si8 (pc := 95) C lr_d_X_link_95 hb30 ?_
              obtain ⟨t31, ht32, h⟩ := lr_bd h
              rw [Option.some.inj ht32]
              refine lr_iconst (pc := 96) (v := 1) C lr_d_X_link_96 (by decide) ?_
              have e := Option.some.inj h
              subst e
              exact lr_iret C E lr_d_X_link_97 (by decide)
            · have h := lr_ps hc26 h
              refine lr_iconst (pc := 58) (v := 0) C lr_d_X_link_58 (by decide) ?_
              have e := Option.some.inj h
              subst e
              exact lr_iret C E lr_d_X_link_59 (by decide)
          · have h := lr_ps hc22 h
            refine lr_iconst (pc := 38) (v := 0) C lr_d_X_link_38 (by decide) ?_
            have e := Option.some.inj h
            subst e
            exact lr_iret C E lr_d_X_link_39 (by decide)
      · have h := lr_ps hc9 h
        refine lr_iconst (pc := 22) (v := 0) C lr_d_X_link_22 (by decide) ?_
        have e := Option.some.inj h
        subst e
        exact lr_iret C E lr_d_X_link_23 (by decide)
def lr_G_X_fetch (a1 : Int32) (a2 : Int32) (a3 : Int32) (a4 : Int32) (t : lr_S) : Option (Int32 × lr_S) := (lr_G_X_acts a1 t).bind fun u1 => (if u1.1 = 0 then (some ((0 : Int32), u1.2)) else ((lr_G_X_isRoot a2 u1.2).bind fun u4 => (if u4.1 = 0 then (some ((0 : Int32), u4.2)) else ((lr_G_X_isField a3 u4.2).bind fun u7 => (if u7.1 = 0 then (some ((0 : Int32), u7.2)) else ((lr_G_X_isRoot a4 u7.2).bind fun u10 => (if u10.1 = 0 then (some ((0 : Int32), u10.2)) else (if lr_in a1 4 = true then ((lr_G_Node_rootHolds a1.toNatClampNeg a2 (1 : Int32) u10.2).bind fun u14 => (if u14.1 = 0 then (some ((0 : Int32), u14.2)) else (if lr_in a2 3 = true then (if lr_in (lr_rd u14.2 11 a1.toNatClampNeg a2.toNatClampNeg) 8 = true then (if lr_in a3 2 = true then (if lr_in a4 3 = true then ((some (lr_wr u14.2 11 a1.toNatClampNeg a4.toNatClampNeg (lr_rd u14.2 8 (8 * a1.toNatClampNeg + (lr_rd u14.2 11 a1.toNatClampNeg a2.toNatClampNeg).toNatClampNeg) a3.toNatClampNeg))).bind fun t21 => (some ((1 : Int32), t21))) else none) else none) else none) else none))) else none))))))))
set_option maxHeartbeats 4000000 in
theorem lr_r_X_fetch {a1 : Int32} {a2 : Int32} {a3 : Int32} {a4 : Int32} {t : lr_S} {o : Int32 × lr_S} (h : lr_G_X_fetch a1 a2 a3 a4 t = some o) : lr_RI 0 20 lr_m_X_fetch [.inr (0, 0), .inl a1, .inl a2, .inl a3, .inl a4] t o.1 o.2 := by
  refine lr_ofI (ty := .boolean) (own := lr_R6) (by decide) rfl rfl (Nat.le_of_ble_eq_true rfl) (fun X C E => ?_)
  show lr_T X 0 [(0, .inr (0, 0)), (1, .inl a1), (2, .inl a2), (3, .inl a3), (4, .inl a4)] [] t
  have h := (show ((lr_G_X_acts a1 t).bind fun u1 => (if u1.1 = 0 then (some ((0 : Int32), u1.2)) else ((lr_G_X_isRoot a2 u1.2).bind fun u4 => (if u4.1 = 0 then (some ((0 : Int32), u4.2)) else ((lr_G_X_isField a3 u4.2).bind fun u7 => (if u7.1 = 0 then (some ((0 : Int32), u7.2)) else ((lr_G_X_isRoot a4 u7.2).bind fun u10 => (if u10.1 = 0 then (some ((0 : Int32), u10.2)) else (if lr_in a1 4 = true then ((lr_G_Node_rootHolds a1.toNatClampNeg a2 (1 : Int32) u10.2).bind fun u14 => (if u14.1 = 0 then (some ((0 : Int32), u14.2)) else (if lr_in a2 3 = true then (if lr_in (lr_rd u14.2 11 a1.toNatClampNeg a2.toNatClampNeg) 8 = true then (if lr_in a3 2 = true then (if lr_in a4 3 = true then ((some (lr_wr u14.2 11 a1.toNatClampNeg a4.toNatClampNeg (lr_rd u14.2 8 (8 * a1.toNatClampNeg + (lr_rd u14.2 11 a1.toNatClampNeg a2.toNatClampNeg).toNatClampNeg) a3.toNatClampNeg))).bind fun t21 => (some ((1 : Int32), t21))) else none) else none) else none) else none))) else none))))))))) = some o from h)
  refine lr_aload_n (pc := 0) C lr_d_X_fetch_0 rfl 0 rfl ?_
  refine lr_iload_n (pc := 1) C lr_d_X_fetch_1 rfl 1 rfl ?_
  obtain ⟨u1, hu2, h⟩ := lr_bd h
  refine lr_callVi (pc := 2) (as := [.inl a1]) (st := []) (fs := fun ad => lr_fs6 t 0 ad) C (lr_r_X_acts hu2) lr_c6_39 lr_d_X_fetch_2 rfl rfl (fun _ _ => rfl) (ci := 6) rfl rfl ⟨by decide, by decide⟩ (Nat.le_of_ble_eq_true rfl) ?_
  refine lr_if_eq (pc := 5) (tgt := 30) C lr_d_X_fetch_5 (by decide) (fun hc3 => ?_) (fun hc3 => ?_)
  · have h := lr_ps hc3 h
    refine lr_iconst (pc := 30) (v := 0) C lr_d_X_fetch_30 (by decide) ?_
    have e := Option.some.inj h
    subst e
    exact lr_iret C E lr_d_X_fetch_31 (by decide)
  · have h := lr_ng hc3 h
    refine lr_iload_n (pc := 8) C lr_d_X_fetch_8 rfl 2 rfl ?_
    obtain ⟨u4, hu5, h⟩ := lr_bd h
    refine lr_callSi (pc := 9) (as := [.inl a2]) (st := []) C (lr_r_X_isRoot hu5) lr_c6_43 lr_d_X_fetch_9 rfl rfl ⟨by decide, by decide⟩ (Nat.le_of_ble_eq_true rfl) ?_
    refine lr_if_eq (pc := 12) (tgt := 30) C lr_d_X_fetch_12 (by decide) (fun hc6 => ?_) (fun hc6 => ?_)
    · have h := lr_ps hc6 h
      refine lr_iconst (pc := 30) (v := 0) C lr_d_X_fetch_30 (by decide) ?_
      have e := Option.some.inj h
      subst e
      exact lr_iret C E lr_d_X_fetch_31 (by decide)
    · have h := lr_ng hc6 h
      refine lr_iload_n (pc := 15) C lr_d_X_fetch_15 rfl 3 rfl ?_
      obtain ⟨u7, hu8, h⟩ := lr_bd h
      refine lr_callSi (pc := 16) (as := [.inl a3]) (st := []) C (lr_r_X_isField hu8) lr_c6_64 lr_d_X_fetch_16 rfl rfl ⟨by decide, by decide⟩ (Nat.le_of_ble_eq_true rfl) ?_
      refine lr_if_eq (pc := 19) (tgt := 30) C lr_d_X_fetch_19 (by decide) (fun hc9 => ?_) (fun hc9 => ?_)
      · have h := lr_ps hc9 h
        refine lr_iconst (pc := 30) (v := 0) C lr_d_X_fetch_30 (by decide) ?_
        have e := Option.some.inj h
        subst e
        exact lr_iret C E lr_d_X_fetch_31 (by decide)
      · have h := lr_ng hc9 h
        refine lr_iload (pc := 22) C lr_d_X_fetch_22 4 rfl ?_
        obtain ⟨u10, hu11, h⟩ := lr_bd h
        refine lr_callSi (pc := 24) (as := [.inl a4]) (st := []) C (lr_r_X_isRoot hu11) lr_c6_43 lr_d_X_fetch_24 rfl rfl ⟨by decide, by decide⟩ (Nat.le_of_ble_eq_true rfl) ?_
        refine lr_if_ne (pc := 27) (tgt := 32) C lr_d_X_fetch_27 (by decide) (fun hc12 => ?_) (fun hc12 => ?_)
        · have h := lr_ng hc12 h
          refine lr_aload_n (pc := 32) C lr_d_X_fetch_32 rfl 0 rfl ?_
          refine lr_g6_18 (pc := 33) C lr_d_X_fetch_33 ?_
          refine lr_iload_n (pc := 36) C lr_d_X_fetch_36 rfl 1 rfl ?_
          obtain ⟨hb13, h⟩ := lr_gd h
          refine lr_a4 (pc := 37) C lr_d_X_fetch_37 hb13 ?_
          refine lr_astore (pc := 38) (ls' := [(5, .inr (5, a1.toNatClampNeg)), (0, .inr (0, 0)), (1, .inl a1), (2, .inl a2), (3, .inl a3), (4, .inl a4)]) C lr_d_X_fetch_38 (by decide) rfl ?_
          refine lr_aload (pc := 40) C lr_d_X_fetch_40 0 rfl ?_
          refine lr_iload_n (pc := 42) C lr_d_X_fetch_42 rfl 3 rfl ?_
          refine lr_iconst (pc := 43) (v := 1) C lr_d_X_fetch_43 (by decide) ?_
          obtain ⟨u14, hu15, h⟩ := lr_bd h
          refine lr_callVi (pc := 44) (as := [.inl a2, .inl (1 : Int32)]) (st := []) (fs := fun ad => lr_fs2 u10.2 a1.toNatClampNeg ad) C (lr_r_Node_rootHolds hu15) lr_c6_67 lr_d_X_fetch_44 rfl rfl (fun _ _ => rfl) (ci := 2) rfl rfl ⟨by decide, by decide⟩ (Nat.le_of_ble_eq_true rfl) ?_
          refine lr_if_ne (pc := 47) (tgt := 52) C lr_d_X_fetch_47 (by decide) (fun hc16 => ?_) (fun hc16 => ?_)
          · have h := lr_ng hc16 h
            refine lr_aload (pc := 52) C lr_d_X_fetch_52 0 rfl ?_
            refine lr_g6_60 (pc := 54) C lr_d_X_fetch_54 ?_
            refine lr_iload (pc := 57) C lr_d_X_fetch_57 5 rfl ?_
            refine lr_aload (pc := 59) C lr_d_X_fetch_59 0 rfl ?_
            refine lr_g6_50 (pc := 61) C lr_d_X_fetch_61 ?_
            refine lr_aload (pc := 64) C lr_d_X_fetch_64 0 rfl ?_
            refine lr_g6_60 (pc := 66) C lr_d_X_fetch_66 ?_
            refine lr_iload_n (pc := 69) C lr_d_X_fetch_69 rfl 3 rfl ?_
            obtain ⟨hb17, h⟩ := lr_gd h
            refine lr_li11 (pc := 70) C lr_d_X_fetch_70 hb17 ?_
            obtain ⟨hb18, h⟩ := lr_gd h
            refine lr_a6 (pc := 71) C lr_d_X_fetch_71 hb18 ?_
            refine lr_g6_71 (pc := 72) C lr_d_X_fetch_72 ?_
            refine lr_iload_n (pc := 75) C lr_d_X_fetch_75 rfl 4 rfl ?_
            obtain ⟨hb19, h⟩ := lr_gd h
            refine lr_li8 (pc := 76) C lr_d_X_fetch_76 hb19 ?_
            obtain ⟨hb20, h⟩ := lr_gd h
            refine lr_si11 (pc := 77) C lr_d_X_fetch_77 hb20 ?_
            obtain ⟨t21, ht22, h⟩ := lr_bd h
            rw [Option.some.inj ht22]
            refine lr_iconst (pc := 78) (v := 1) C lr_d_X_fetch_78 (by decide) ?_
            have e := Option.some.inj h
            subst e
            exact lr_iret C E lr_d_X_fetch_79 (by decide)
          · have h := lr_ps hc16 h
            refine lr_iconst (pc := 50) (v := 0) C lr_d_X_fetch_50 (by decide) ?_
            have e := Option.some.inj h
            subst e
            exact lr_iret C E lr_d_X_fetch_51 (by decide)
        · have h := lr_ps hc12 h
          refine lr_iconst (pc := 30) (v := 0) C lr_d_X_fetch_30 (by decide) ?_
          have e := Option.some.inj h
          subst e
          exact lr_iret C E lr_d_X_fetch_31 (by decide)
def lr_G_X_drop (a1 : Int32) (a2 : Int32) (t : lr_S) : Option (Int32 × lr_S) := (lr_G_X_acts a1 t).bind fun u1 => (if u1.1 = 0 then (some ((0 : Int32), u1.2)) else ((lr_G_X_isRoot a2 u1.2).bind fun u4 => (if u4.1 = 0 then (some ((0 : Int32), u4.2)) else (if lr_in a1 4 = true then (if lr_in a2 3 = true then (some ((1 : Int32), (lr_wr u4.2 11 a1.toNatClampNeg a2.toNatClampNeg (-1 : Int32)))) else none) else none))))
set_option maxHeartbeats 4000000 in
theorem lr_r_X_drop {a1 : Int32} {a2 : Int32} {t : lr_S} {o : Int32 × lr_S} (h : lr_G_X_drop a1 a2 t = some o) : lr_RI 0 20 lr_m_X_drop [.inr (0, 0), .inl a1, .inl a2] t o.1 o.2 := by
  refine lr_ofI (ty := .boolean) (own := lr_R6) (by decide) rfl rfl (Nat.le_of_ble_eq_true rfl) (fun X C E => ?_)
  show lr_T X 0 [(0, .inr (0, 0)), (1, .inl a1), (2, .inl a2)] [] t
  have h := (show ((lr_G_X_acts a1 t).bind fun u1 => (if u1.1 = 0 then (some ((0 : Int32), u1.2)) else ((lr_G_X_isRoot a2 u1.2).bind fun u4 => (if u4.1 = 0 then (some ((0 : Int32), u4.2)) else (if lr_in a1 4 = true then (if lr_in a2 3 = true then (some ((1 : Int32), (lr_wr u4.2 11 a1.toNatClampNeg a2.toNatClampNeg (-1 : Int32)))) else none) else none))))) = some o from h)
  refine lr_aload_n (pc := 0) C lr_d_X_drop_0 rfl 0 rfl ?_
  refine lr_iload_n (pc := 1) C lr_d_X_drop_1 rfl 1 rfl ?_
  obtain ⟨u1, hu2, h⟩ := lr_bd h
  refine lr_callVi (pc := 2) (as := [.inl a1]) (st := []) (fs := fun ad => lr_fs6 t 0 ad) C (lr_r_X_acts hu2) lr_c6_39 lr_d_X_drop_2 rfl rfl (fun _ _ => rfl) (ci := 6) rfl rfl ⟨by decide, by decide⟩ (Nat.le_of_ble_eq_true rfl) ?_
  refine lr_if_eq (pc := 5) (tgt := 15) C lr_d_X_drop_5 (by decide) (fun hc3 => ?_) (fun hc3 => ?_)
  · have h := lr_ps hc3 h
    refine lr_iconst (pc := 15) (v := 0) C lr_d_X_drop_15 (by decide) ?_
    have e := Option.some.inj h
    subst e
    exact lr_iret C E lr_d_X_drop_16 (by decide)
  · have h := lr_ng hc3 h
    refine lr_iload_n (pc := 8) C lr_d_X_drop_8 rfl 2 rfl ?_
    obtain ⟨u4, hu5, h⟩ := lr_bd h
    refine lr_callSi (pc := 9) (as := [.inl a2]) (st := []) C (lr_r_X_isRoot hu5) lr_c6_43 lr_d_X_drop_9 rfl rfl ⟨by decide, by decide⟩ (Nat.le_of_ble_eq_true rfl) ?_
    refine lr_if_ne (pc := 12) (tgt := 17) C lr_d_X_drop_12 (by decide) (fun hc6 => ?_) (fun hc6 => ?_)
    · have h := lr_ng hc6 h
      refine lr_aload_n (pc := 17) C lr_d_X_drop_17 rfl 0 rfl ?_
      refine lr_g6_18 (pc := 18) C lr_d_X_drop_18 ?_
      refine lr_iload_n (pc := 21) C lr_d_X_drop_21 rfl 1 rfl ?_
      obtain ⟨hb7, h⟩ := lr_gd h
      refine lr_a4 (pc := 22) C lr_d_X_drop_22 hb7 ?_
      refine lr_g6_60 (pc := 23) C lr_d_X_drop_23 ?_
      refine lr_iload_n (pc := 26) C lr_d_X_drop_26 rfl 2 rfl ?_
      refine lr_iconst (pc := 27) (v := -1) C lr_d_X_drop_27 (by decide) ?_
      obtain ⟨hb8, h⟩ := lr_gd h
      refine lr_si11 (pc := 28) C lr_d_X_drop_28 hb8 ?_
      refine lr_iconst (pc := 29) (v := 1) C lr_d_X_drop_29 (by decide) ?_
      have e := Option.some.inj h
      subst e
      exact lr_iret C E lr_d_X_drop_30 (by decide)
    · have h := lr_ps hc6 h
      refine lr_iconst (pc := 15) (v := 0) C lr_d_X_drop_15 (by decide) ?_
      have e := Option.some.inj h
      subst e
      exact lr_iret C E lr_d_X_drop_16 (by decide)
