def lr_G_X_pins (a1 : Int32) (t : lr_S) : Option (Int32 × lr_S) := (lr_G_X_isNode a1 t).bind fun u1 => (if u1.1 = 0 then (some ((-1 : Int32), u1.2)) else (if lr_in a1 4 = true then ((lr_G_Node_livePins a1.toNatClampNeg u1.2).bind fun u5 => (some (u5.1, u5.2))) else none))
set_option maxHeartbeats 4000000 in
theorem lr_r_X_pins {a1 : Int32} {t : lr_S} {o : Int32 × lr_S} (h : lr_G_X_pins a1 t = some o) : lr_RI 0 20 lr_m_X_pins [.inr (0, 0), .inl a1] t o.1 o.2 := by
  refine lr_ofI (ty := .int) (own := lr_R6) (by decide) rfl rfl (Nat.le_of_ble_eq_true rfl) (fun X C E => ?_)
  show lr_T X 0 [(0, .inr (0, 0)), (1, .inl a1)] [] t
  have h := (show ((lr_G_X_isNode a1 t).bind fun u1 => (if u1.1 = 0 then (some ((-1 : Int32), u1.2)) else (if lr_in a1 4 = true then ((lr_G_Node_livePins a1.toNatClampNeg u1.2).bind fun u5 => (some (u5.1, u5.2))) else none))) = some o from h)
  refine lr_iload_n (pc := 0) C lr_d_X_pins_0 rfl 1 rfl ?_
  obtain ⟨u1, hu2, h⟩ := lr_bd h
  refine lr_callSi (pc := 1) (as := [.inl a1]) (st := []) C (lr_r_X_isNode hu2) lr_c6_74 lr_d_X_pins_1 rfl rfl ⟨by decide, by decide⟩ (Nat.le_of_ble_eq_true rfl) ?_
  refine lr_if_eq (pc := 4) (tgt := 19) C lr_d_X_pins_4 (by decide) (fun hc3 => ?_) (fun hc3 => ?_)
  · have h := lr_ps hc3 h
    refine lr_iconst (pc := 19) (v := -1) C lr_d_X_pins_19 (by decide) ?_
    have e := Option.some.inj h
    subst e
    exact lr_iret C E lr_d_X_pins_20 rfl
  · have h := lr_ng hc3 h
    refine lr_aload_n (pc := 7) C lr_d_X_pins_7 rfl 0 rfl ?_
    refine lr_g6_18 (pc := 8) C lr_d_X_pins_8 ?_
    refine lr_iload_n (pc := 11) C lr_d_X_pins_11 rfl 1 rfl ?_
    obtain ⟨hb4, h⟩ := lr_gd h
    refine lr_a4 (pc := 12) C lr_d_X_pins_12 hb4 ?_
    obtain ⟨u5, hu6, h⟩ := lr_bd h
    refine lr_callVi (pc := 13) (as := []) (st := []) (fs := fun ad => lr_fs2 u1.2 a1.toNatClampNeg ad) C (lr_r_Node_livePins hu6) lr_c6_77 lr_d_X_pins_13 rfl rfl (fun _ _ => rfl) (ci := 2) rfl rfl ⟨by decide, by decide⟩ (Nat.le_of_ble_eq_true rfl) ?_
    refine lr_goto (pc := 16) (tgt := 20) C lr_d_X_pins_16 (by decide) ?_
    have e := Option.some.inj h
    subst e
    exact lr_iret C E lr_d_X_pins_20 rfl
def lr_G_X_outcome (a1 : Int32) (a2 : Int32) (t : lr_S) : Option (Int32 × lr_S) := (lr_G_X_isNode a1 t).bind fun u1 => (if u1.1 = 0 then (some ((-1 : Int32), u1.2)) else (if lr_in a1 4 = true then ((lr_G_Request_part a1.toNatClampNeg a2 u1.2).bind fun u5 => (some (u5.1, u5.2))) else none))
set_option maxHeartbeats 4000000 in
theorem lr_r_X_outcome {a1 : Int32} {a2 : Int32} {t : lr_S} {o : Int32 × lr_S} (h : lr_G_X_outcome a1 a2 t = some o) : lr_RI 0 20 lr_m_X_outcome [.inr (0, 0), .inl a1, .inl a2] t o.1 o.2 := by
  refine lr_ofI (ty := .int) (own := lr_R6) (by decide) rfl rfl (Nat.le_of_ble_eq_true rfl) (fun X C E => ?_)
  show lr_T X 0 [(0, .inr (0, 0)), (1, .inl a1), (2, .inl a2)] [] t
  have h := (show ((lr_G_X_isNode a1 t).bind fun u1 => (if u1.1 = 0 then (some ((-1 : Int32), u1.2)) else (if lr_in a1 4 = true then ((lr_G_Request_part a1.toNatClampNeg a2 u1.2).bind fun u5 => (some (u5.1, u5.2))) else none))) = some o from h)
  refine lr_iload_n (pc := 0) C lr_d_X_outcome_0 rfl 1 rfl ?_
  obtain ⟨u1, hu2, h⟩ := lr_bd h
  refine lr_callSi (pc := 1) (as := [.inl a1]) (st := []) C (lr_r_X_isNode hu2) lr_c6_74 lr_d_X_outcome_1 rfl rfl ⟨by decide, by decide⟩ (Nat.le_of_ble_eq_true rfl) ?_
  refine lr_if_eq (pc := 4) (tgt := 23) C lr_d_X_outcome_4 (by decide) (fun hc3 => ?_) (fun hc3 => ?_)
  · have h := lr_ps hc3 h
    refine lr_iconst (pc := 23) (v := -1) C lr_d_X_outcome_23 (by decide) ?_
    have e := Option.some.inj h
    subst e
    exact lr_iret C E lr_d_X_outcome_24 rfl
  · have h := lr_ng hc3 h
    refine lr_aload_n (pc := 7) C lr_d_X_outcome_7 rfl 0 rfl ?_
    refine lr_g6_18 (pc := 8) C lr_d_X_outcome_8 ?_
    refine lr_iload_n (pc := 11) C lr_d_X_outcome_11 rfl 1 rfl ?_
    obtain ⟨hb4, h⟩ := lr_gd h
    refine lr_a4 (pc := 12) C lr_d_X_outcome_12 hb4 ?_
    refine lr_g6_87 (pc := 13) C lr_d_X_outcome_13 ?_
    refine lr_iload_n (pc := 16) C lr_d_X_outcome_16 rfl 2 rfl ?_
    obtain ⟨u5, hu6, h⟩ := lr_bd h
    refine lr_callVi (pc := 17) (as := [.inl a2]) (st := []) (fs := fun ad => lr_fs4 u1.2 a1.toNatClampNeg ad) C (lr_r_Request_part hu6) lr_c6_164 lr_d_X_outcome_17 rfl rfl (fun _ _ => rfl) (ci := 4) rfl rfl ⟨by decide, by decide⟩ (Nat.le_of_ble_eq_true rfl) ?_
    refine lr_goto (pc := 20) (tgt := 24) C lr_d_X_outcome_20 (by decide) ?_
    have e := Option.some.inj h
    subst e
    exact lr_iret C E lr_d_X_outcome_24 rfl
