def lr_G_X_pass (a1 : Int32) (a2 : Int32) (a3 : Int32) (a4 : Int32) (t : lr_S) : Option (Int32 × lr_S) := (lr_G_X_acts a1 t).bind fun u1 => (if u1.1 = 0 then (some ((-1 : Int32), u1.2)) else ((lr_G_X_isRoot a2 u1.2).bind fun u4 => (if u4.1 = 0 then (some ((-1 : Int32), u4.2)) else ((lr_G_X_isNode a3 u4.2).bind fun u7 => (if u7.1 = 0 then (some ((-1 : Int32), u7.2)) else ((lr_G_X_isRoot a4 u7.2).bind fun u10 => (if u10.1 = 0 then (some ((-1 : Int32), u10.2)) else (if a3 = a1 then (some ((-1 : Int32), u10.2)) else (if lr_in a1 4 = true then ((lr_G_Node_rootHolds a1.toNatClampNeg a2 (0 : Int32) u10.2).bind fun u15 => (if u15.1 = 0 then ((lr_G_Node_livePins a1.toNatClampNeg u15.2).bind fun u18 => (if u18.1 = (6 : Int32) then (some ((-1 : Int32), u18.2)) else ((lr_G_Node_rootHolds a1.toNatClampNeg a2 (2 : Int32) u18.2).bind fun u21 => (if u21.1 = 0 then ((lr_G_Node_sendPass a1.toNatClampNeg a2 a3 a4 (lr_rd u21.2 0 0 4) (lr_wr u21.2 0 0 4 ((lr_rd u21.2 0 0 4) + (1 : Int32)))).bind fun u24 => (some ((lr_rd u21.2 0 0 4), u24))) else ((lr_G_Node_rootIsGood a1.toNatClampNeg a2 u21.2).bind fun u26 => (if u26.1 = 0 then (some ((-2 : Int32), u26.2)) else ((lr_G_Node_sendPass a1.toNatClampNeg a2 a3 a4 (lr_rd u26.2 0 0 4) (lr_wr u26.2 0 0 4 ((lr_rd u26.2 0 0 4) + (1 : Int32)))).bind fun u29 => (some ((lr_rd u26.2 0 0 4), u29))))))))) else (some ((-1 : Int32), u15.2)))) else none)))))))))
set_option maxHeartbeats 4000000 in
theorem lr_r_X_pass {a1 : Int32} {a2 : Int32} {a3 : Int32} {a4 : Int32} {t : lr_S} {o : Int32 × lr_S} (h : lr_G_X_pass a1 a2 a3 a4 t = some o) : lr_RI 0 20 lr_m_X_pass [.inr (0, 0), .inl a1, .inl a2, .inl a3, .inl a4] t o.1 o.2 := by
  refine lr_ofI (ty := .int) (own := lr_R6) (by decide) rfl rfl (Nat.le_of_ble_eq_true rfl) (fun X C E => ?_)
  show lr_T X 0 [(0, .inr (0, 0)), (1, .inl a1), (2, .inl a2), (3, .inl a3), (4, .inl a4)] [] t
  have h := (show ((lr_G_X_acts a1 t).bind fun u1 => (if u1.1 = 0 then (some ((-1 : Int32), u1.2)) else ((lr_G_X_isRoot a2 u1.2).bind fun u4 => (if u4.1 = 0 then (some ((-1 : Int32), u4.2)) else ((lr_G_X_isNode a3 u4.2).bind fun u7 => (if u7.1 = 0 then (some ((-1 : Int32), u7.2)) else ((lr_G_X_isRoot a4 u7.2).bind fun u10 => (if u10.1 = 0 then (some ((-1 : Int32), u10.2)) else (if a3 = a1 then (some ((-1 : Int32), u10.2)) else (if lr_in a1 4 = true then ((lr_G_Node_rootHolds a1.toNatClampNeg a2 (0 : Int32) u10.2).bind fun u15 => (if u15.1 = 0 then ((lr_G_Node_livePins a1.toNatClampNeg u15.2).bind fun u18 => (if u18.1 = (6 : Int32) then (some ((-1 : Int32), u18.2)) else ((lr_G_Node_rootHolds a1.toNatClampNeg a2 (2 : Int32) u18.2).bind fun u21 => (if u21.1 = 0 then ((lr_G_Node_sendPass a1.toNatClampNeg a2 a3 a4 (lr_rd u21.2 0 0 4) (lr_wr u21.2 0 0 4 ((lr_rd u21.2 0 0 4) + (1 : Int32)))).bind fun u24 => (some ((lr_rd u21.2 0 0 4), u24))) else ((lr_G_Node_rootIsGood a1.toNatClampNeg a2 u21.2).bind fun u26 => (if u26.1 = 0 then (some ((-2 : Int32), u26.2)) else ((lr_G_Node_sendPass a1.toNatClampNeg a2 a3 a4 (lr_rd u26.2 0 0 4) (lr_wr u26.2 0 0 4 ((lr_rd u26.2 0 0 4) + (1 : Int32)))).bind fun u29 => (some ((lr_rd u26.2 0 0 4), u29))))))))) else (some ((-1 : Int32), u15.2)))) else none)))))))))) = some o from h)
  refine lr_aload_n (pc := 0) C lr_d_X_pass_0 rfl 0 rfl ?_
  refine lr_iload_n (pc := 1) C lr_d_X_pass_1 rfl 1 rfl ?_
  obtain ⟨u1, hu2, h⟩ := lr_bd h
  refine lr_callVi (pc := 2) (as := [.inl a1]) (st := []) (fs := fun ad => lr_fs6 t 0 ad) C (lr_r_X_acts hu2) lr_c6_39 lr_d_X_pass_2 rfl rfl (fun _ _ => rfl) (ci := 6) rfl rfl ⟨by decide, by decide⟩ (Nat.le_of_ble_eq_true rfl) ?_
  refine lr_if_eq (pc := 5) (tgt := 35) C lr_d_X_pass_5 (by decide) (fun hc3 => ?_) (fun hc3 => ?_)
  · have h := lr_ps hc3 h
    refine lr_iconst (pc := 35) (v := -1) C lr_d_X_pass_35 (by decide) ?_
    have e := Option.some.inj h
    subst e
    exact lr_iret C E lr_d_X_pass_36 rfl
  · have h := lr_ng hc3 h
    refine lr_iload_n (pc := 8) C lr_d_X_pass_8 rfl 2 rfl ?_
    obtain ⟨u4, hu5, h⟩ := lr_bd h
    refine lr_callSi (pc := 9) (as := [.inl a2]) (st := []) C (lr_r_X_isRoot hu5) lr_c6_43 lr_d_X_pass_9 rfl rfl ⟨by decide, by decide⟩ (Nat.le_of_ble_eq_true rfl) ?_
    refine lr_if_eq (pc := 12) (tgt := 35) C lr_d_X_pass_12 (by decide) (fun hc6 => ?_) (fun hc6 => ?_)
    · have h := lr_ps hc6 h
      refine lr_iconst (pc := 35) (v := -1) C lr_d_X_pass_35 (by decide) ?_
      have e := Option.some.inj h
      subst e
      exact lr_iret C E lr_d_X_pass_36 rfl
    · have h := lr_ng hc6 h
      refine lr_iload_n (pc := 15) C lr_d_X_pass_15 rfl 3 rfl ?_
      obtain ⟨u7, hu8, h⟩ := lr_bd h
      refine lr_callSi (pc := 16) (as := [.inl a3]) (st := []) C (lr_r_X_isNode hu8) lr_c6_74 lr_d_X_pass_16 rfl rfl ⟨by decide, by decide⟩ (Nat.le_of_ble_eq_true rfl) ?_
      refine lr_if_eq (pc := 19) (tgt := 35) C lr_d_X_pass_19 (by decide) (fun hc9 => ?_) (fun hc9 => ?_)
      · have h := lr_ps hc9 h
        refine lr_iconst (pc := 35) (v := -1) C lr_d_X_pass_35 (by decide) ?_
        have e := Option.some.inj h
        subst e
        exact lr_iret C E lr_d_X_pass_36 rfl
      · have h := lr_ng hc9 h
        refine lr_iload (pc := 22) C lr_d_X_pass_22 4 rfl ?_
        obtain ⟨u10, hu11, h⟩ := lr_bd h
        refine lr_callSi (pc := 24) (as := [.inl a4]) (st := []) C (lr_r_X_isRoot hu11) lr_c6_43 lr_d_X_pass_24 rfl rfl ⟨by decide, by decide⟩ (Nat.le_of_ble_eq_true rfl) ?_
        refine lr_if_eq (pc := 27) (tgt := 35) C lr_d_X_pass_27 (by decide) (fun hc12 => ?_) (fun hc12 => ?_)
        · have h := lr_ps hc12 h
          refine lr_iconst (pc := 35) (v := -1) C lr_d_X_pass_35 (by decide) ?_
          have e := Option.some.inj h
          subst e
          exact lr_iret C E lr_d_X_pass_36 rfl
        · have h := lr_ng hc12 h
          refine lr_iload_n (pc := 30) C lr_d_X_pass_30 rfl 3 rfl ?_
          refine lr_iload_n (pc := 31) C lr_d_X_pass_31 rfl 1 rfl ?_
          refine lr_icmp_ne (pc := 32) (tgt := 37) C lr_d_X_pass_32 (by decide) (fun hc13 => ?_) (fun hc13 => ?_)
          · have h := lr_ng hc13 h
            refine lr_aload_n (pc := 37) C lr_d_X_pass_37 rfl 0 rfl ?_
            refine lr_g6_18 (pc := 38) C lr_d_X_pass_38 ?_
            refine lr_iload_n (pc := 41) C lr_d_X_pass_41 rfl 1 rfl ?_
            obtain ⟨hb14, h⟩ := lr_gd h
            refine lr_a4 (pc := 42) C lr_d_X_pass_42 hb14 ?_
            refine lr_astore (pc := 43) (ls' := [(5, .inr (5, a1.toNatClampNeg)), (0, .inr (0, 0)), (1, .inl a1), (2, .inl a2), (3, .inl a3), (4, .inl a4)]) C lr_d_X_pass_43 (by decide) rfl ?_
            refine lr_aload (pc := 45) C lr_d_X_pass_45 0 rfl ?_
            refine lr_iload_n (pc := 47) C lr_d_X_pass_47 rfl 3 rfl ?_
            refine lr_iconst (pc := 48) (v := 0) C lr_d_X_pass_48 (by decide) ?_
            obtain ⟨u15, hu16, h⟩ := lr_bd h
            refine lr_callVi (pc := 49) (as := [.inl a2, .inl (0 : Int32)]) (st := []) (fs := fun ad => lr_fs2 u10.2 a1.toNatClampNeg ad) C (lr_r_Node_rootHolds hu16) lr_c6_67 lr_d_X_pass_49 rfl rfl (fun _ _ => rfl) (ci := 2) rfl rfl ⟨by decide, by decide⟩ (Nat.le_of_ble_eq_true rfl) ?_
            refine lr_if_ne (pc := 52) (tgt := 65) C lr_d_X_pass_52 (by decide) (fun hc17 => ?_) (fun hc17 => ?_)
            · have h := lr_ng hc17 h
              refine lr_iconst (pc := 65) (v := -1) C lr_d_X_pass_65 (by decide) ?_
              have e := Option.some.inj h
              subst e
              exact lr_iret C E lr_d_X_pass_66 rfl
            · have h := lr_ps hc17 h
              refine lr_aload (pc := 55) C lr_d_X_pass_55 0 rfl ?_
              obtain ⟨u18, hu19, h⟩ := lr_bd h
              refine lr_callVi (pc := 57) (as := []) (st := []) (fs := fun ad => lr_fs2 u15.2 a1.toNatClampNeg ad) C (lr_r_Node_livePins hu19) lr_c6_77 lr_d_X_pass_57 rfl rfl (fun _ _ => rfl) (ci := 2) rfl rfl ⟨by decide, by decide⟩ (Nat.le_of_ble_eq_true rfl) ?_
              refine lr_bipush (pc := 60) (v := 6) C lr_d_X_pass_60 (by decide) ?_
              refine lr_icmp_ne (pc := 62) (tgt := 67) C lr_d_X_pass_62 (by decide) (fun hc20 => ?_) (fun hc20 => ?_)
              · have h := lr_ng hc20 h
                refine lr_aload (pc := 67) C lr_d_X_pass_67 0 rfl ?_
                refine lr_iload_n (pc := 69) C lr_d_X_pass_69 rfl 3 rfl ?_
                refine lr_iconst (pc := 70) (v := 2) C lr_d_X_pass_70 (by decide) ?_
                obtain ⟨u21, hu22, h⟩ := lr_bd h
                refine lr_callVi (pc := 71) (as := [.inl a2, .inl (2 : Int32)]) (st := []) (fs := fun ad => lr_fs2 u18.2 a1.toNatClampNeg ad) C (lr_r_Node_rootHolds hu22) lr_c6_67 lr_d_X_pass_71 rfl rfl (fun _ _ => rfl) (ci := 2) rfl rfl ⟨by decide, by decide⟩ (Nat.le_of_ble_eq_true rfl) ?_
                refine lr_if_eq (pc := 74) (tgt := 89) C lr_d_X_pass_74 (by decide) (fun hc23 => ?_) (fun hc23 => ?_)
                · have h := lr_ps hc23 h
                  refine lr_aload_n (pc := 89) C lr_d_X_pass_89 rfl 1 rfl ?_
                  refine lr_g6_36 (pc := 90) C lr_d_X_pass_90 ?_
                  refine lr_istore (pc := 93) (ls' := [(6, .inl (lr_rd u21.2 0 0 4)), (5, .inr (5, a1.toNatClampNeg)), (0, .inr (0, 0)), (1, .inl a1), (2, .inl a2), (3, .inl a3), (4, .inl a4)]) C lr_d_X_pass_93 (by decide) rfl ?_
                  refine lr_aload_n (pc := 95) C lr_d_X_pass_95 rfl 2 rfl ?_
                  refine lr_dup (pc := 96) C lr_d_X_pass_96 ?_
                  refine lr_g6_36 (pc := 97) C lr_d_X_pass_97 ?_
                  refine lr_iconst (pc := 100) (v := 1) C lr_d_X_pass_100 (by decide) ?_
                  refine lr_iadd (pc := 101) C lr_d_X_pass_101 ?_
                  refine lr_p6_36 (pc := 102) C lr_d_X_pass_102 ?_
                  refine lr_aload (pc := 105) C lr_d_X_pass_105 1 rfl ?_
                  refine lr_iload_n (pc := 107) C lr_d_X_pass_107 rfl 4 rfl ?_
                  refine lr_iload_n (pc := 108) C lr_d_X_pass_108 rfl 5 rfl ?_
                  refine lr_iload (pc := 109) C lr_d_X_pass_109 6 rfl ?_
                  refine lr_iload (pc := 111) C lr_d_X_pass_111 0 rfl ?_
                  obtain ⟨u24, hu25, h⟩ := lr_bd h
                  refine lr_callVv (pc := 113) (as := [.inl a2, .inl a3, .inl a4, .inl (lr_rd u21.2 0 0 4)]) (st := []) (fs := fun ad => lr_fs2 (lr_wr u21.2 0 0 4 ((lr_rd u21.2 0 0 4) + (1 : Int32))) a1.toNatClampNeg ad) C (lr_r_Node_sendPass hu25) lr_c6_83 lr_d_X_pass_113 rfl rfl (fun _ _ => rfl) (ci := 2) rfl rfl ⟨by decide, by decide⟩ (Nat.le_of_ble_eq_true rfl) ?_
                  refine lr_iload (pc := 116) C lr_d_X_pass_116 0 rfl ?_
                  have e := Option.some.inj h
                  subst e
                  exact lr_iret C E lr_d_X_pass_118 rfl
                · have h := lr_ng hc23 h
                  refine lr_aload (pc := 77) C lr_d_X_pass_77 0 rfl ?_
                  refine lr_iload_n (pc := 79) C lr_d_X_pass_79 rfl 3 rfl ?_
                  obtain ⟨u26, hu27, h⟩ := lr_bd h
                  refine lr_callVi (pc := 80) (as := [.inl a2]) (st := []) (fs := fun ad => lr_fs2 u21.2 a1.toNatClampNeg ad) C (lr_r_Node_rootIsGood hu27) lr_c6_80 lr_d_X_pass_80 rfl rfl (fun _ _ => rfl) (ci := 2) rfl rfl ⟨by decide, by decide⟩ (Nat.le_of_ble_eq_true rfl) ?_
                  refine lr_if_ne (pc := 83) (tgt := 89) C lr_d_X_pass_83 (by decide) (fun hc28 => ?_) (fun hc28 => ?_)
                  · have h := lr_ng hc28 h
                    refine lr_aload_n (pc := 89) C lr_d_X_pass_89 rfl 1 rfl ?_
                    refine lr_g6_36 (pc := 90) C lr_d_X_pass_90 ?_
                    refine lr_istore (pc := 93) (ls' := [(6, .inl (lr_rd u26.2 0 0 4)), (5, .inr (5, a1.toNatClampNeg)), (0, .inr (0, 0)), (1, .inl a1), (2, .inl a2), (3, .inl a3), (4, .inl a4)]) C lr_d_X_pass_93 (by decide) rfl ?_
                    refine lr_aload_n (pc := 95) C lr_d_X_pass_95 rfl 2 rfl ?_
                    refine lr_dup (pc := 96) C lr_d_X_pass_96 ?_
                    refine lr_g6_36 (pc := 97) C lr_d_X_pass_97 ?_
                    refine lr_iconst (pc := 100) (v := 1) C lr_d_X_pass_100 (by decide) ?_
                    refine lr_iadd (pc := 101) C lr_d_X_pass_101 ?_
                    refine lr_p6_36 (pc := 102) C lr_d_X_pass_102 ?_
                    refine lr_aload (pc := 105) C lr_d_X_pass_105 1 rfl ?_
                    refine lr_iload_n (pc := 107) C lr_d_X_pass_107 rfl 4 rfl ?_
                    refine lr_iload_n (pc := 108) C lr_d_X_pass_108 rfl 5 rfl ?_
                    refine lr_iload (pc := 109) C lr_d_X_pass_109 6 rfl ?_
                    refine lr_iload (pc := 111) C lr_d_X_pass_111 0 rfl ?_
                    obtain ⟨u29, hu30, h⟩ := lr_bd h
                    refine lr_callVv (pc := 113) (as := [.inl a2, .inl a3, .inl a4, .inl (lr_rd u26.2 0 0 4)]) (st := []) (fs := fun ad => lr_fs2 (lr_wr u26.2 0 0 4 ((lr_rd u26.2 0 0 4) + (1 : Int32))) a1.toNatClampNeg ad) C (lr_r_Node_sendPass hu30) lr_c6_83 lr_d_X_pass_113 rfl rfl (fun _ _ => rfl) (ci := 2) rfl rfl ⟨by decide, by decide⟩ (Nat.le_of_ble_eq_true rfl) ?_
                    refine lr_iload (pc := 116) C lr_d_X_pass_116 0 rfl ?_
                    have e := Option.some.inj h
                    subst e
                    exact lr_iret C E lr_d_X_pass_118 rfl
                  · have h := lr_ps hc28 h
                    refine lr_bipush (pc := 86) (v := -2) C lr_d_X_pass_86 (by decide) ?_
                    have e := Option.some.inj h
                    subst e
                    exact lr_iret C E lr_d_X_pass_88 rfl
              · have h := lr_ps hc20 h
                refine lr_iconst (pc := 65) (v := -1) C lr_d_X_pass_65 (by decide) ?_
                have e := Option.some.inj h
                subst e
                exact lr_iret C E lr_d_X_pass_66 rfl
          · have h := lr_ps hc13 h
            refine lr_iconst (pc := 35) (v := -1) C lr_d_X_pass_35 (by decide) ?_
            have e := Option.some.inj h
            subst e
            exact lr_iret C E lr_d_X_pass_36 rfl
def lr_G_X_call (a1 : Int32) (a2 : Int32) (a3 : Int32) (t : lr_S) : Option (Int32 × lr_S) := (lr_G_X_acts a1 t).bind fun u1 => (if u1.1 = 0 then (some ((-1 : Int32), u1.2)) else ((lr_G_X_isRoot a2 u1.2).bind fun u4 => (if u4.1 = 0 then (some ((-1 : Int32), u4.2)) else (if lr_in a1 4 = true then (if (lr_rd u4.2 14 a1.toNatClampNeg 0) = (1 : Int32) then (some ((-1 : Int32), u4.2)) else ((lr_G_Node_rootHolds a1.toNatClampNeg a2 (2 : Int32) u4.2).bind fun u9 => (if u9.1 = 0 then (some ((-1 : Int32), u9.2)) else ((lr_G_Node_rootIsGood a1.toNatClampNeg a2 u9.2).bind fun u12 => (if u12.1 = 0 then (some ((-2 : Int32), u12.2)) else (if lr_in a2 3 = true then ((lr_G_Node_startRequest a1.toNatClampNeg (lr_rd u12.2 11 a1.toNatClampNeg a2.toNatClampNeg) a3 u12.2).bind fun u16 => (some ((lr_rd u16 14 a1.toNatClampNeg 1), u16))) else none)))))) else none))))
set_option maxHeartbeats 4000000 in
theorem lr_r_X_call {a1 : Int32} {a2 : Int32} {a3 : Int32} {t : lr_S} {o : Int32 × lr_S} (h : lr_G_X_call a1 a2 a3 t = some o) : lr_RI 0 20 lr_m_X_call [.inr (0, 0), .inl a1, .inl a2, .inl a3] t o.1 o.2 := by
  refine lr_ofI (ty := .int) (own := lr_R6) (by decide) rfl rfl (Nat.le_of_ble_eq_true rfl) (fun X C E => ?_)
  show lr_T X 0 [(0, .inr (0, 0)), (1, .inl a1), (2, .inl a2), (3, .inl a3)] [] t
  have h := (show ((lr_G_X_acts a1 t).bind fun u1 => (if u1.1 = 0 then (some ((-1 : Int32), u1.2)) else ((lr_G_X_isRoot a2 u1.2).bind fun u4 => (if u4.1 = 0 then (some ((-1 : Int32), u4.2)) else (if lr_in a1 4 = true then (if (lr_rd u4.2 14 a1.toNatClampNeg 0) = (1 : Int32) then (some ((-1 : Int32), u4.2)) else ((lr_G_Node_rootHolds a1.toNatClampNeg a2 (2 : Int32) u4.2).bind fun u9 => (if u9.1 = 0 then (some ((-1 : Int32), u9.2)) else ((lr_G_Node_rootIsGood a1.toNatClampNeg a2 u9.2).bind fun u12 => (if u12.1 = 0 then (some ((-2 : Int32), u12.2)) else (if lr_in a2 3 = true then ((lr_G_Node_startRequest a1.toNatClampNeg (lr_rd u12.2 11 a1.toNatClampNeg a2.toNatClampNeg) a3 u12.2).bind fun u16 => (some ((lr_rd u16 14 a1.toNatClampNeg 1), u16))) else none)))))) else none))))) = some o from h)
  refine lr_aload_n (pc := 0) C lr_d_X_call_0 rfl 0 rfl ?_
  refine lr_iload_n (pc := 1) C lr_d_X_call_1 rfl 1 rfl ?_
  obtain ⟨u1, hu2, h⟩ := lr_bd h
  refine lr_callVi (pc := 2) (as := [.inl a1]) (st := []) (fs := fun ad => lr_fs6 t 0 ad) C (lr_r_X_acts hu2) lr_c6_39 lr_d_X_call_2 rfl rfl (fun _ _ => rfl) (ci := 6) rfl rfl ⟨by decide, by decide⟩ (Nat.le_of_ble_eq_true rfl) ?_
  refine lr_if_eq (pc := 5) (tgt := 15) C lr_d_X_call_5 (by decide) (fun hc3 => ?_) (fun hc3 => ?_)
  · have h := lr_ps hc3 h
    refine lr_iconst (pc := 15) (v := -1) C lr_d_X_call_15 (by decide) ?_
    have e := Option.some.inj h
    subst e
    exact lr_iret C E lr_d_X_call_16 rfl
  · have h := lr_ng hc3 h
    refine lr_iload_n (pc := 8) C lr_d_X_call_8 rfl 2 rfl ?_
    obtain ⟨u4, hu5, h⟩ := lr_bd h
    refine lr_callSi (pc := 9) (as := [.inl a2]) (st := []) C (lr_r_X_isRoot hu5) lr_c6_43 lr_d_X_call_9 rfl rfl ⟨by decide, by decide⟩ (Nat.le_of_ble_eq_true rfl) ?_
    refine lr_if_ne (pc := 12) (tgt := 17) C lr_d_X_call_12 (by decide) (fun hc6 => ?_) (fun hc6 => ?_)
    · have h := lr_ng hc6 h
      refine lr_aload_n (pc := 17) C lr_d_X_call_17 rfl 0 rfl ?_
      refine lr_g6_18 (pc := 18) C lr_d_X_call_18 ?_
      refine lr_iload_n (pc := 21) C lr_d_X_call_21 rfl 1 rfl ?_
      obtain ⟨hb7, h⟩ := lr_gd h
      refine lr_a4 (pc := 22) C lr_d_X_call_22 hb7 ?_
      refine lr_astore (pc := 23) (ls' := [(4, .inr (5, a1.toNatClampNeg)), (0, .inr (0, 0)), (1, .inl a1), (2, .inl a2), (3, .inl a3)]) C lr_d_X_call_23 (by decide) rfl ?_
      refine lr_aload (pc := 25) C lr_d_X_call_25 0 rfl ?_
      refine lr_g6_87 (pc := 27) C lr_d_X_call_27 ?_
      refine lr_g6_91 (pc := 30) C lr_d_X_call_30 ?_
      refine lr_iconst (pc := 33) (v := 1) C lr_d_X_call_33 (by decide) ?_
      refine lr_icmp_eq (pc := 34) (tgt := 47) C lr_d_X_call_34 (by decide) (fun hc8 => ?_) (fun hc8 => ?_)
      · have h := lr_ps hc8 h
        refine lr_iconst (pc := 47) (v := -1) C lr_d_X_call_47 (by decide) ?_
        have e := Option.some.inj h
        subst e
        exact lr_iret C E lr_d_X_call_48 rfl
      · have h := lr_ng hc8 h
        refine lr_aload (pc := 37) C lr_d_X_call_37 0 rfl ?_
        refine lr_iload_n (pc := 39) C lr_d_X_call_39 rfl 3 rfl ?_
        refine lr_iconst (pc := 40) (v := 2) C lr_d_X_call_40 (by decide) ?_
        obtain ⟨u9, hu10, h⟩ := lr_bd h
        refine lr_callVi (pc := 41) (as := [.inl a2, .inl (2 : Int32)]) (st := []) (fs := fun ad => lr_fs2 u4.2 a1.toNatClampNeg ad) C (lr_r_Node_rootHolds hu10) lr_c6_67 lr_d_X_call_41 rfl rfl (fun _ _ => rfl) (ci := 2) rfl rfl ⟨by decide, by decide⟩ (Nat.le_of_ble_eq_true rfl) ?_
        refine lr_if_ne (pc := 44) (tgt := 49) C lr_d_X_call_44 (by decide) (fun hc11 => ?_) (fun hc11 => ?_)
        · have h := lr_ng hc11 h
          refine lr_aload (pc := 49) C lr_d_X_call_49 0 rfl ?_
          refine lr_iload_n (pc := 51) C lr_d_X_call_51 rfl 3 rfl ?_
          obtain ⟨u12, hu13, h⟩ := lr_bd h
          refine lr_callVi (pc := 52) (as := [.inl a2]) (st := []) (fs := fun ad => lr_fs2 u9.2 a1.toNatClampNeg ad) C (lr_r_Node_rootIsGood hu13) lr_c6_80 lr_d_X_call_52 rfl rfl (fun _ _ => rfl) (ci := 2) rfl rfl ⟨by decide, by decide⟩ (Nat.le_of_ble_eq_true rfl) ?_
          refine lr_if_ne (pc := 55) (tgt := 61) C lr_d_X_call_55 (by decide) (fun hc14 => ?_) (fun hc14 => ?_)
          · have h := lr_ng hc14 h
            refine lr_aload (pc := 61) C lr_d_X_call_61 0 rfl ?_
            refine lr_aload (pc := 63) C lr_d_X_call_63 0 rfl ?_
            refine lr_g6_60 (pc := 65) C lr_d_X_call_65 ?_
            refine lr_iload_n (pc := 68) C lr_d_X_call_68 rfl 3 rfl ?_
            obtain ⟨hb15, h⟩ := lr_gd h
            refine lr_li11 (pc := 69) C lr_d_X_call_69 hb15 ?_
            refine lr_iload_n (pc := 70) C lr_d_X_call_70 rfl 4 rfl ?_
            obtain ⟨u16, hu17, h⟩ := lr_bd h
            refine lr_callVv (pc := 71) (as := [.inl (lr_rd u12.2 11 a1.toNatClampNeg a2.toNatClampNeg), .inl a3]) (st := []) (fs := fun ad => lr_fs2 u12.2 a1.toNatClampNeg ad) C (lr_r_Node_startRequest hu17) lr_c6_96 lr_d_X_call_71 rfl rfl (fun _ _ => rfl) (ci := 2) rfl rfl ⟨by decide, by decide⟩ (Nat.le_of_ble_eq_true rfl) ?_
            refine lr_aload (pc := 74) C lr_d_X_call_74 0 rfl ?_
            refine lr_g6_87 (pc := 76) C lr_d_X_call_76 ?_
            refine lr_g6_100 (pc := 79) C lr_d_X_call_79 ?_
            have e := Option.some.inj h
            subst e
            exact lr_iret C E lr_d_X_call_82 rfl
          · have h := lr_ps hc14 h
            refine lr_bipush (pc := 58) (v := -2) C lr_d_X_call_58 (by decide) ?_
            have e := Option.some.inj h
            subst e
            exact lr_iret C E lr_d_X_call_60 rfl
        · have h := lr_ps hc11 h
          refine lr_iconst (pc := 47) (v := -1) C lr_d_X_call_47 (by decide) ?_
          have e := Option.some.inj h
          subst e
          exact lr_iret C E lr_d_X_call_48 rfl
    · have h := lr_ps hc6 h
      refine lr_iconst (pc := 15) (v := -1) C lr_d_X_call_15 (by decide) ?_
      have e := Option.some.inj h
      subst e
      exact lr_iret C E lr_d_X_call_16 rfl
def lr_G_X_deliver (a1 : Int32) (t : lr_S) : Option (Int32 × lr_S) := (lr_G_Network_hasPlace a1 t).bind fun u1 => (if u1.1 = 0 then (some ((-1 : Int32), u1.2)) else (if lr_in a1 32 = true then (if u1.2.2 a1.toNatClampNeg < 49 then ((lr_G_Message_become 32 (u1.2.2 a1.toNatClampNeg) u1.2).bind fun u6 => ((lr_G_Network_takeOut a1 u6).bind fun u8 => (if lr_in (lr_rd u8 3 32 2) 4 = true then ((lr_G_Node_receive (lr_rd u8 3 32 2).toNatClampNeg 32 u8).bind fun u11 => (if u11.1 = 0 then (some ((0 : Int32), u11.2)) else (some ((1 : Int32), u11.2)))) else none))) else none) else none))
set_option maxHeartbeats 4000000 in
theorem lr_r_X_deliver {a1 : Int32} {t : lr_S} {o : Int32 × lr_S} (h : lr_G_X_deliver a1 t = some o) : lr_RI 0 20 lr_m_X_deliver [.inr (0, 0), .inl a1] t o.1 o.2 := by
  refine lr_ofI (ty := .int) (own := lr_R6) (by decide) rfl rfl (Nat.le_of_ble_eq_true rfl) (fun X C E => ?_)
  show lr_T X 0 [(0, .inr (0, 0)), (1, .inl a1)] [] t
  have h := (show ((lr_G_Network_hasPlace a1 t).bind fun u1 => (if u1.1 = 0 then (some ((-1 : Int32), u1.2)) else (if lr_in a1 32 = true then (if u1.2.2 a1.toNatClampNeg < 49 then ((lr_G_Message_become 32 (u1.2.2 a1.toNatClampNeg) u1.2).bind fun u6 => ((lr_G_Network_takeOut a1 u6).bind fun u8 => (if lr_in (lr_rd u8 3 32 2) 4 = true then ((lr_G_Node_receive (lr_rd u8 3 32 2).toNatClampNeg 32 u8).bind fun u11 => (if u11.1 = 0 then (some ((0 : Int32), u11.2)) else (some ((1 : Int32), u11.2)))) else none))) else none) else none))) = some o from h)
  refine lr_aload_n (pc := 0) C lr_d_X_deliver_0 rfl 0 rfl ?_
  refine lr_g6_10 (pc := 1) C lr_d_X_deliver_1 ?_
  refine lr_iload_n (pc := 4) C lr_d_X_deliver_4 rfl 1 rfl ?_
  obtain ⟨u1, hu2, h⟩ := lr_bd h
  refine lr_callVi (pc := 5) (as := [.inl a1]) (st := []) (fs := fun ad => lr_fs1 t 0 ad) C (lr_r_Network_hasPlace hu2) lr_c6_103 lr_d_X_deliver_5 rfl rfl (fun _ _ => rfl) (ci := 1) rfl rfl ⟨by decide, by decide⟩ (Nat.le_of_ble_eq_true rfl) ?_
  refine lr_if_ne (pc := 8) (tgt := 13) C lr_d_X_deliver_8 (by decide) (fun hc3 => ?_) (fun hc3 => ?_)
  · have h := lr_ng hc3 h
    refine lr_aload_n (pc := 13) C lr_d_X_deliver_13 rfl 0 rfl ?_
    refine lr_g6_28 (pc := 14) C lr_d_X_deliver_14 ?_
    refine lr_aload_n (pc := 17) C lr_d_X_deliver_17 rfl 0 rfl ?_
    refine lr_g6_10 (pc := 18) C lr_d_X_deliver_18 ?_
    refine lr_g6_106 (pc := 21) C lr_d_X_deliver_21 ?_
    refine lr_iload_n (pc := 24) C lr_d_X_deliver_24 rfl 1 rfl ?_
    obtain ⟨hb4, h⟩ := lr_gd h
    obtain ⟨hp5, h⟩ := lr_gd h
    refine lr_aaldp (pc := 25) C lr_d_X_deliver_25 hb4 ⟨rfl, rfl⟩ hp5 ?_
    obtain ⟨u6, hu7, h⟩ := lr_bd h
    refine lr_callVv (pc := 26) (as := [.inr (3, (u1.2.2 a1.toNatClampNeg))]) (st := []) (fs := fun ad => lr_fs0 u1.2 32 ad) C (lr_r_Message_become hu7) lr_c6_110 lr_d_X_deliver_26 rfl rfl (fun _ _ => rfl) (ci := 0) rfl rfl ⟨by decide, by decide⟩ (Nat.le_of_ble_eq_true rfl) ?_
    refine lr_aload_n (pc := 29) C lr_d_X_deliver_29 rfl 0 rfl ?_
    refine lr_g6_10 (pc := 30) C lr_d_X_deliver_30 ?_
    refine lr_iload_n (pc := 33) C lr_d_X_deliver_33 rfl 1 rfl ?_
    obtain ⟨u8, hu9, h⟩ := lr_bd h
    refine lr_callVv (pc := 34) (as := [.inl a1]) (st := []) (fs := fun ad => lr_fs1 u6 0 ad) C (lr_r_Network_takeOut hu9) lr_c6_114 lr_d_X_deliver_34 rfl rfl (fun _ _ => rfl) (ci := 1) rfl rfl ⟨by decide, by decide⟩ (Nat.le_of_ble_eq_true rfl) ?_
    refine lr_aload_n (pc := 37) C lr_d_X_deliver_37 rfl 0 rfl ?_
    refine lr_g6_18 (pc := 38) C lr_d_X_deliver_38 ?_
    refine lr_aload_n (pc := 41) C lr_d_X_deliver_41 rfl 0 rfl ?_
    refine lr_g6_28 (pc := 42) C lr_d_X_deliver_42 ?_
    refine lr_g6_117 (pc := 45) C lr_d_X_deliver_45 ?_
    obtain ⟨hb10, h⟩ := lr_gd h
    refine lr_a4 (pc := 48) C lr_d_X_deliver_48 hb10 ?_
    refine lr_aload_n (pc := 49) C lr_d_X_deliver_49 rfl 0 rfl ?_
    refine lr_g6_28 (pc := 50) C lr_d_X_deliver_50 ?_
    obtain ⟨u11, hu12, h⟩ := lr_bd h
    refine lr_callVi (pc := 53) (as := [.inr (3, 32)]) (st := []) (fs := fun ad => lr_fs2 u8 (lr_rd u8 3 32 2).toNatClampNeg ad) C (lr_r_Node_receive hu12) lr_c6_120 lr_d_X_deliver_53 rfl rfl (fun _ _ => rfl) (ci := 2) rfl rfl ⟨by decide, by decide⟩ (Nat.le_of_ble_eq_true rfl) ?_
    refine lr_if_eq (pc := 56) (tgt := 63) C lr_d_X_deliver_56 (by decide) (fun hc13 => ?_) (fun hc13 => ?_)
    · have h := lr_ps hc13 h
      refine lr_iconst (pc := 63) (v := 0) C lr_d_X_deliver_63 (by decide) ?_
      have e := Option.some.inj h
      subst e
      exact lr_iret C E lr_d_X_deliver_64 rfl
    · have h := lr_ng hc13 h
      refine lr_iconst (pc := 59) (v := 1) C lr_d_X_deliver_59 (by decide) ?_
      refine lr_goto (pc := 60) (tgt := 64) C lr_d_X_deliver_60 (by decide) ?_
      have e := Option.some.inj h
      subst e
      exact lr_iret C E lr_d_X_deliver_64 rfl
  · have h := lr_ps hc3 h
    refine lr_iconst (pc := 11) (v := -1) C lr_d_X_deliver_11 (by decide) ?_
    have e := Option.some.inj h
    subst e
    exact lr_iret C E lr_d_X_deliver_12 rfl
def lr_G_X_lose (a1 : Int32) (t : lr_S) : Option (Int32 × lr_S) := (lr_G_Network_hasPlace a1 t).bind fun u1 => (if u1.1 = 0 then (some ((0 : Int32), u1.2)) else ((lr_G_Network_takeOut a1 u1.2).bind fun u4 => (some ((1 : Int32), u4))))
set_option maxHeartbeats 4000000 in
theorem lr_r_X_lose {a1 : Int32} {t : lr_S} {o : Int32 × lr_S} (h : lr_G_X_lose a1 t = some o) : lr_RI 0 20 lr_m_X_lose [.inr (0, 0), .inl a1] t o.1 o.2 := by
  refine lr_ofI (ty := .boolean) (own := lr_R6) (by decide) rfl rfl (Nat.le_of_ble_eq_true rfl) (fun X C E => ?_)
  show lr_T X 0 [(0, .inr (0, 0)), (1, .inl a1)] [] t
  have h := (show ((lr_G_Network_hasPlace a1 t).bind fun u1 => (if u1.1 = 0 then (some ((0 : Int32), u1.2)) else ((lr_G_Network_takeOut a1 u1.2).bind fun u4 => (some ((1 : Int32), u4))))) = some o from h)
  refine lr_aload_n (pc := 0) C lr_d_X_lose_0 rfl 0 rfl ?_
  refine lr_g6_10 (pc := 1) C lr_d_X_lose_1 ?_
  refine lr_iload_n (pc := 4) C lr_d_X_lose_4 rfl 1 rfl ?_
  obtain ⟨u1, hu2, h⟩ := lr_bd h
  refine lr_callVi (pc := 5) (as := [.inl a1]) (st := []) (fs := fun ad => lr_fs1 t 0 ad) C (lr_r_Network_hasPlace hu2) lr_c6_103 lr_d_X_lose_5 rfl rfl (fun _ _ => rfl) (ci := 1) rfl rfl ⟨by decide, by decide⟩ (Nat.le_of_ble_eq_true rfl) ?_
  refine lr_if_ne (pc := 8) (tgt := 13) C lr_d_X_lose_8 (by decide) (fun hc3 => ?_) (fun hc3 => ?_)
  · have h := lr_ng hc3 h
    refine lr_aload_n (pc := 13) C lr_d_X_lose_13 rfl 0 rfl ?_
    refine lr_g6_10 (pc := 14) C lr_d_X_lose_14 ?_
    refine lr_iload_n (pc := 17) C lr_d_X_lose_17 rfl 1 rfl ?_
    obtain ⟨u4, hu5, h⟩ := lr_bd h
    refine lr_callVv (pc := 18) (as := [.inl a1]) (st := []) (fs := fun ad => lr_fs1 u1.2 0 ad) C (lr_r_Network_takeOut hu5) lr_c6_114 lr_d_X_lose_18 rfl rfl (fun _ _ => rfl) (ci := 1) rfl rfl ⟨by decide, by decide⟩ (Nat.le_of_ble_eq_true rfl) ?_
    refine lr_iconst (pc := 21) (v := 1) C lr_d_X_lose_21 (by decide) ?_
    have e := Option.some.inj h
    subst e
    exact lr_iret C E lr_d_X_lose_22 (by decide)
  · have h := lr_ps hc3 h
    refine lr_iconst (pc := 11) (v := 0) C lr_d_X_lose_11 (by decide) ?_
    have e := Option.some.inj h
    subst e
    exact lr_iret C E lr_d_X_lose_12 (by decide)
def lr_G_X_copy (a1 : Int32) (t : lr_S) : Option (Int32 × lr_S) := (lr_G_Network_hasPlace a1 t).bind fun u1 => (if u1.1 = 0 then (some ((0 : Int32), u1.2)) else (if (lr_rd u1.2 1 0 1) = (32 : Int32) then (some ((0 : Int32), u1.2)) else (if lr_in a1 32 = true then (if u1.2.2 a1.toNatClampNeg < 49 then ((lr_G_Network_sendAgain (u1.2.2 a1.toNatClampNeg) u1.2).bind fun u7 => (some ((1 : Int32), u7))) else none) else none)))
set_option maxHeartbeats 4000000 in
theorem lr_r_X_copy {a1 : Int32} {t : lr_S} {o : Int32 × lr_S} (h : lr_G_X_copy a1 t = some o) : lr_RI 0 20 lr_m_X_copy [.inr (0, 0), .inl a1] t o.1 o.2 := by
  refine lr_ofI (ty := .boolean) (own := lr_R6) (by decide) rfl rfl (Nat.le_of_ble_eq_true rfl) (fun X C E => ?_)
  show lr_T X 0 [(0, .inr (0, 0)), (1, .inl a1)] [] t
  have h := (show ((lr_G_Network_hasPlace a1 t).bind fun u1 => (if u1.1 = 0 then (some ((0 : Int32), u1.2)) else (if (lr_rd u1.2 1 0 1) = (32 : Int32) then (some ((0 : Int32), u1.2)) else (if lr_in a1 32 = true then (if u1.2.2 a1.toNatClampNeg < 49 then ((lr_G_Network_sendAgain (u1.2.2 a1.toNatClampNeg) u1.2).bind fun u7 => (some ((1 : Int32), u7))) else none) else none)))) = some o from h)
  refine lr_aload_n (pc := 0) C lr_d_X_copy_0 rfl 0 rfl ?_
  refine lr_g6_10 (pc := 1) C lr_d_X_copy_1 ?_
  refine lr_iload_n (pc := 4) C lr_d_X_copy_4 rfl 1 rfl ?_
  obtain ⟨u1, hu2, h⟩ := lr_bd h
  refine lr_callVi (pc := 5) (as := [.inl a1]) (st := []) (fs := fun ad => lr_fs1 t 0 ad) C (lr_r_Network_hasPlace hu2) lr_c6_103 lr_d_X_copy_5 rfl rfl (fun _ _ => rfl) (ci := 1) rfl rfl ⟨by decide, by decide⟩ (Nat.le_of_ble_eq_true rfl) ?_
  refine lr_if_eq (pc := 8) (tgt := 23) C lr_d_X_copy_8 (by decide) (fun hc3 => ?_) (fun hc3 => ?_)
  · have h := lr_ps hc3 h
    refine lr_iconst (pc := 23) (v := 0) C lr_d_X_copy_23 (by decide) ?_
    have e := Option.some.inj h
    subst e
    exact lr_iret C E lr_d_X_copy_24 (by decide)
  · have h := lr_ng hc3 h
    refine lr_aload_n (pc := 11) C lr_d_X_copy_11 rfl 0 rfl ?_
    refine lr_g6_10 (pc := 12) C lr_d_X_copy_12 ?_
    refine lr_g6_124 (pc := 15) C lr_d_X_copy_15 ?_
    refine lr_bipush (pc := 18) (v := 32) C lr_d_X_copy_18 (by decide) ?_
    refine lr_icmp_ne (pc := 20) (tgt := 25) C lr_d_X_copy_20 (by decide) (fun hc4 => ?_) (fun hc4 => ?_)
    · have h := lr_ng hc4 h
      refine lr_aload_n (pc := 25) C lr_d_X_copy_25 rfl 0 rfl ?_
      refine lr_g6_10 (pc := 26) C lr_d_X_copy_26 ?_
      refine lr_aload_n (pc := 29) C lr_d_X_copy_29 rfl 0 rfl ?_
      refine lr_g6_10 (pc := 30) C lr_d_X_copy_30 ?_
      refine lr_g6_106 (pc := 33) C lr_d_X_copy_33 ?_
      refine lr_iload_n (pc := 36) C lr_d_X_copy_36 rfl 1 rfl ?_
      obtain ⟨hb5, h⟩ := lr_gd h
      obtain ⟨hp6, h⟩ := lr_gd h
      refine lr_aaldp (pc := 37) C lr_d_X_copy_37 hb5 ⟨rfl, rfl⟩ hp6 ?_
      obtain ⟨u7, hu8, h⟩ := lr_bd h
      refine lr_callVv (pc := 38) (as := [.inr (3, (u1.2.2 a1.toNatClampNeg))]) (st := []) (fs := fun ad => lr_fs1 u1.2 0 ad) C (lr_r_Network_sendAgain hu8) lr_c6_127 lr_d_X_copy_38 rfl rfl (fun _ _ => rfl) (ci := 1) rfl rfl ⟨by decide, by decide⟩ (Nat.le_of_ble_eq_true rfl) ?_
      refine lr_iconst (pc := 41) (v := 1) C lr_d_X_copy_41 (by decide) ?_
      have e := Option.some.inj h
      subst e
      exact lr_iret C E lr_d_X_copy_42 (by decide)
    · have h := lr_ps hc4 h
      refine lr_iconst (pc := 23) (v := 0) C lr_d_X_copy_23 (by decide) ?_
      have e := Option.some.inj h
      subst e
      exact lr_iret C E lr_d_X_copy_24 (by decide)
