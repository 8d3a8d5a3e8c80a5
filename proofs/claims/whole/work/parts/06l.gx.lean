def lr_L_X_tick_35 (a1 : Int32) (a2 : Int32) : Nat → Int32 → lr_S → Option (Int32 × lr_S)
  | 0, _, _ => none
  | f + 1, x3, t => if (4 : Int32) ≤ x3 then (some (x3, t)) else (if lr_in x3 4 = true then ((lr_G_Node_sendWhatIsDue x3.toNatClampNeg t).bind fun u6 => (lr_L_X_tick_35 a1 a2 f (x3 + 1) u6)) else none)
set_option maxHeartbeats 4000000 in
theorem lr_t_X_tick_35 {X : lr_X} (C : lr_C X lr_m_X_tick.2.1 lr_R6 lr_m_X_tick.2.2.1 lr_m_X_tick.2.2.2.2.1 lr_m_X_tick.2.2.2.2.2 0 20) (a1 : Int32) (a2 : Int32) : ∀ (f : Nat) (x3 : Int32) (t : lr_S) (o : Int32 × lr_S), lr_L_X_tick_35 a1 a2 f x3 t = some o → (lr_T X 55 [(0, .inr (0, 0)), (1, .inl a1), (2, .inl a2), (3, .inl o.1)] [] o.2) → lr_T X 35 [(0, .inr (0, 0)), (1, .inl a1), (2, .inl a2), (3, .inl x3)] [] t := by
  intro f
  induction f with
  | zero => intro x3 t o h; cases h
  | succ f ih =>
    intro x3 t o h kx
    have h := (show (if (4 : Int32) ≤ x3 then (some (x3, t)) else (if lr_in x3 4 = true then ((lr_G_Node_sendWhatIsDue x3.toNatClampNeg t).bind fun u6 => (lr_L_X_tick_35 a1 a2 f (x3 + 1) u6)) else none)) = some o from h)
    refine lr_iload_n (pc := 35) C lr_d_X_tick_35 rfl 3 rfl ?_
    refine lr_iconst (pc := 36) (v := 4) C lr_d_X_tick_36 (by decide) ?_
    refine lr_icmp_ge (pc := 37) (tgt := 55) C lr_d_X_tick_37 (by decide) (fun hc4 => ?_) (fun hc4 => ?_)
    · have h := lr_ps hc4 h
      refine lr_sub (ls' := [(0, .inr (0, 0)), (1, .inl a1), (2, .inl a2), (3, .inl x3)]) C [0, 1, 2, 3] rfl ?_
      have e := Option.some.inj h
      subst e
      exact kx
    · have h := lr_ng hc4 h
      refine lr_aload_n (pc := 40) C lr_d_X_tick_40 rfl 0 rfl ?_
      refine lr_g6_18 (pc := 41) C lr_d_X_tick_41 ?_
      refine lr_iload_n (pc := 44) C lr_d_X_tick_44 rfl 3 rfl ?_
      obtain ⟨hb5, h⟩ := lr_gd h
      refine lr_a4 (pc := 45) C lr_d_X_tick_45 hb5 ?_
      obtain ⟨u6, hu7, h⟩ := lr_bd h
      refine lr_callVv (pc := 46) (as := []) (st := []) (fs := fun ad => lr_fs2 t x3.toNatClampNeg ad) C (lr_r_Node_sendWhatIsDue hu7) lr_c6_133 lr_d_X_tick_46 rfl rfl (fun _ _ => rfl) (ci := 2) rfl rfl ⟨by decide, by decide⟩ (Nat.le_of_ble_eq_true rfl) ?_
      refine lr_iinc (pc := 49) (v := (x3 + 1)) (ls' := [(3, .inl (x3 + 1)), (0, .inr (0, 0)), (1, .inl a1), (2, .inl a2)]) C lr_d_X_tick_49 3 rfl rfl (by decide) rfl ?_
      refine lr_goto (pc := 52) (tgt := 35) C lr_d_X_tick_52 (by decide) ?_
      refine lr_sub (ls' := [(0, .inr (0, 0)), (1, .inl a1), (2, .inl a2), (3, .inl (x3 + 1))]) C [1, 2, 3, 0] rfl ?_
      exact ih (x3 + 1) u6 o h kx
def lr_L_X_tick_15 (a1 : Int32) : Nat → Int32 → lr_S → Option (Int32 × lr_S)
  | 0, _, _ => none
  | f + 1, x2, t => if a1 ≤ x2 then (some (x2, t)) else ((lr_L_X_tick_35 a1 x2 600 (0 : Int32) (lr_wr t 1 0 0 ((lr_rd t 1 0 0) + (1 : Int32)))).bind fun u8 => (lr_L_X_tick_15 a1 f (x2 + 1) u8.2))
set_option maxHeartbeats 4000000 in
theorem lr_t_X_tick_15 {X : lr_X} (C : lr_C X lr_m_X_tick.2.1 lr_R6 lr_m_X_tick.2.2.1 lr_m_X_tick.2.2.2.2.1 lr_m_X_tick.2.2.2.2.2 0 20) (a1 : Int32) : ∀ (f : Nat) (x2 : Int32) (t : lr_S) (o : Int32 × lr_S), lr_L_X_tick_15 a1 f x2 t = some o → (lr_T X 61 [(0, .inr (0, 0)), (1, .inl a1), (2, .inl o.1)] [] o.2) → lr_T X 15 [(0, .inr (0, 0)), (1, .inl a1), (2, .inl x2)] [] t := by
  intro f
  induction f with
  | zero => intro x2 t o h; cases h
  | succ f ih =>
    intro x2 t o h kx
    have h := (show (if a1 ≤ x2 then (some (x2, t)) else ((lr_L_X_tick_35 a1 x2 600 (0 : Int32) (lr_wr t 1 0 0 ((lr_rd t 1 0 0) + (1 : Int32)))).bind fun u8 => (lr_L_X_tick_15 a1 f (x2 + 1) u8.2))) = some o from h)
    refine lr_iload_n (pc := 15) C lr_d_X_tick_15 rfl 2 rfl ?_
    refine lr_iload_n (pc := 16) C lr_d_X_tick_16 rfl 1 rfl ?_
    refine lr_icmp_ge (pc := 17) (tgt := 61) C lr_d_X_tick_17 (by decide) (fun hc3 => ?_) (fun hc3 => ?_)
    · have h := lr_ps hc3 h
      refine lr_sub (ls' := [(0, .inr (0, 0)), (1, .inl a1), (2, .inl x2)]) C [0, 1, 2] rfl ?_
      have e := Option.some.inj h
      subst e
      exact kx
    · have h := lr_ng hc3 h
      refine lr_aload_n (pc := 20) C lr_d_X_tick_20 rfl 0 rfl ?_
      refine lr_g6_10 (pc := 21) C lr_d_X_tick_21 ?_
      refine lr_dup (pc := 24) C lr_d_X_tick_24 ?_
      refine lr_g6_130 (pc := 25) C lr_d_X_tick_25 ?_
      refine lr_iconst (pc := 28) (v := 1) C lr_d_X_tick_28 (by decide) ?_
      refine lr_iadd (pc := 29) C lr_d_X_tick_29 ?_
      refine lr_p6_130 (pc := 30) C lr_d_X_tick_30 ?_
      refine lr_iconst (pc := 33) (v := 0) C lr_d_X_tick_33 (by decide) ?_
      refine lr_istore_n (pc := 34) (ls' := [(3, .inl (0 : Int32)), (0, .inr (0, 0)), (1, .inl a1), (2, .inl x2)]) C lr_d_X_tick_34 rfl (by decide) rfl ?_
      refine lr_sub (ls' := [(0, .inr (0, 0)), (1, .inl a1), (2, .inl x2), (3, .inl (0 : Int32))]) C [1, 2, 3, 0] rfl ?_
      obtain ⟨u8, hu9, h⟩ := lr_bd h
      refine lr_t_X_tick_35 C a1 x2 600 (0 : Int32) (lr_wr t 1 0 0 ((lr_rd t 1 0 0) + (1 : Int32))) u8 hu9 ?_
      refine lr_iinc (pc := 55) (v := (x2 + 1)) (ls' := [(2, .inl (x2 + 1)), (0, .inr (0, 0)), (1, .inl a1), (3, .inl u8.1)]) C lr_d_X_tick_55 2 rfl rfl (by decide) rfl ?_
      refine lr_goto (pc := 58) (tgt := 15) C lr_d_X_tick_58 (by decide) ?_
      refine lr_sub (ls' := [(0, .inr (0, 0)), (1, .inl a1), (2, .inl (x2 + 1))]) C [1, 2, 0] rfl ?_
      exact ih (x2 + 1) u8.2 o h kx
def lr_G_X_tick (a1 : Int32) (t : lr_S) : Option (Int32 × lr_S) := if a1 < (1 : Int32) then (some ((0 : Int32), t)) else (if a1 ≤ (12 : Int32) then ((lr_L_X_tick_15 a1 600 (0 : Int32) t).bind fun u10 => (some ((1 : Int32), u10.2))) else (some ((0 : Int32), t)))
set_option maxHeartbeats 4000000 in
theorem lr_r_X_tick {a1 : Int32} {t : lr_S} {o : Int32 × lr_S} (h : lr_G_X_tick a1 t = some o) : lr_RI 0 20 lr_m_X_tick [.inr (0, 0), .inl a1] t o.1 o.2 := by
  refine lr_ofI (ty := .boolean) (own := lr_R6) (by decide) rfl rfl (Nat.le_of_ble_eq_true rfl) (fun X C E => ?_)
  show lr_T X 0 [(0, .inr (0, 0)), (1, .inl a1)] [] t
  have h := (show (if a1 < (1 : Int32) then (some ((0 : Int32), t)) else (if a1 ≤ (12 : Int32) then ((lr_L_X_tick_15 a1 600 (0 : Int32) t).bind fun u10 => (some ((1 : Int32), u10.2))) else (some ((0 : Int32), t)))) = some o from h)
  refine lr_iload_n (pc := 0) C lr_d_X_tick_0 rfl 1 rfl ?_
  refine lr_iconst (pc := 1) (v := 1) C lr_d_X_tick_1 (by decide) ?_
  refine lr_icmp_lt (pc := 2) (tgt := 11) C lr_d_X_tick_2 (by decide) (fun hc1 => ?_) (fun hc1 => ?_)
  · have h := lr_ps hc1 h
    refine lr_iconst (pc := 11) (v := 0) C lr_d_X_tick_11 (by decide) ?_
    have e := Option.some.inj h
    subst e
    exact lr_iret C E lr_d_X_tick_12 (by decide)
  · have h := lr_ng hc1 h
    refine lr_iload_n (pc := 5) C lr_d_X_tick_5 rfl 1 rfl ?_
    refine lr_bipush (pc := 6) (v := 12) C lr_d_X_tick_6 (by decide) ?_
    refine lr_icmp_le (pc := 8) (tgt := 13) C lr_d_X_tick_8 (by decide) (fun hc2 => ?_) (fun hc2 => ?_)
    · have h := lr_ps hc2 h
      refine lr_iconst (pc := 13) (v := 0) C lr_d_X_tick_13 (by decide) ?_
      refine lr_istore_n (pc := 14) (ls' := [(2, .inl (0 : Int32)), (0, .inr (0, 0)), (1, .inl a1)]) C lr_d_X_tick_14 rfl (by decide) rfl ?_
      refine lr_sub (ls' := [(0, .inr (0, 0)), (1, .inl a1), (2, .inl (0 : Int32))]) C [1, 2, 0] rfl ?_
      obtain ⟨u10, hu11, h⟩ := lr_bd h
      refine lr_t_X_tick_15 C a1 600 (0 : Int32) t u10 hu11 ?_
      refine lr_iconst (pc := 61) (v := 1) C lr_d_X_tick_61 (by decide) ?_
      have e := Option.some.inj h
      subst e
      exact lr_iret C E lr_d_X_tick_62 (by decide)
    · have h := lr_ng hc2 h
      refine lr_iconst (pc := 11) (v := 0) C lr_d_X_tick_11 (by decide) ?_
      have e := Option.some.inj h
      subst e
      exact lr_iret C E lr_d_X_tick_12 (by decide)
def lr_G_X_collect (a1 : Int32) (t : lr_S) : Option (Int32 × lr_S) := (lr_G_X_acts a1 t).bind fun u1 => (if u1.1 = 0 then (some ((-1 : Int32), u1.2)) else (if lr_in a1 4 = true then ((lr_G_Node_emptyUnkeptSlots a1.toNatClampNeg u1.2).bind fun u5 => (some (u5.1, u5.2))) else none))
set_option maxHeartbeats 4000000 in
theorem lr_r_X_collect {a1 : Int32} {t : lr_S} {o : Int32 × lr_S} (h : lr_G_X_collect a1 t = some o) : lr_RI 0 20 lr_m_X_collect [.inr (0, 0), .inl a1] t o.1 o.2 := by
  refine lr_ofI (ty := .int) (own := lr_R6) (by decide) rfl rfl (Nat.le_of_ble_eq_true rfl) (fun X C E => ?_)
  show lr_T X 0 [(0, .inr (0, 0)), (1, .inl a1)] [] t
  have h := (show ((lr_G_X_acts a1 t).bind fun u1 => (if u1.1 = 0 then (some ((-1 : Int32), u1.2)) else (if lr_in a1 4 = true then ((lr_G_Node_emptyUnkeptSlots a1.toNatClampNeg u1.2).bind fun u5 => (some (u5.1, u5.2))) else none))) = some o from h)
  refine lr_aload_n (pc := 0) C lr_d_X_collect_0 rfl 0 rfl ?_
  refine lr_iload_n (pc := 1) C lr_d_X_collect_1 rfl 1 rfl ?_
  obtain ⟨u1, hu2, h⟩ := lr_bd h
  refine lr_callVi (pc := 2) (as := [.inl a1]) (st := []) (fs := fun ad => lr_fs6 t 0 ad) C (lr_r_X_acts hu2) lr_c6_39 lr_d_X_collect_2 rfl rfl (fun _ _ => rfl) (ci := 6) rfl rfl ⟨by decide, by decide⟩ (Nat.le_of_ble_eq_true rfl) ?_
  refine lr_if_eq (pc := 5) (tgt := 20) C lr_d_X_collect_5 (by decide) (fun hc3 => ?_) (fun hc3 => ?_)
  · have h := lr_ps hc3 h
    refine lr_iconst (pc := 20) (v := -1) C lr_d_X_collect_20 (by decide) ?_
    have e := Option.some.inj h
    subst e
    exact lr_iret C E lr_d_X_collect_21 rfl
  · have h := lr_ng hc3 h
    refine lr_aload_n (pc := 8) C lr_d_X_collect_8 rfl 0 rfl ?_
    refine lr_g6_18 (pc := 9) C lr_d_X_collect_9 ?_
    refine lr_iload_n (pc := 12) C lr_d_X_collect_12 rfl 1 rfl ?_
    obtain ⟨hb4, h⟩ := lr_gd h
    refine lr_a4 (pc := 13) C lr_d_X_collect_13 hb4 ?_
    obtain ⟨u5, hu6, h⟩ := lr_bd h
    refine lr_callVi (pc := 14) (as := []) (st := []) (fs := fun ad => lr_fs2 u1.2 a1.toNatClampNeg ad) C (lr_r_Node_emptyUnkeptSlots hu6) lr_c6_136 lr_d_X_collect_14 rfl rfl (fun _ _ => rfl) (ci := 2) rfl rfl ⟨by decide, by decide⟩ (Nat.le_of_ble_eq_true rfl) ?_
    refine lr_goto (pc := 17) (tgt := 21) C lr_d_X_collect_17 (by decide) ?_
    have e := Option.some.inj h
    subst e
    exact lr_iret C E lr_d_X_collect_21 rfl
def lr_G_X_crash (a1 : Int32) (t : lr_S) : Option (Int32 × lr_S) := (lr_G_X_acts a1 t).bind fun u1 => (if u1.1 = 0 then (some ((0 : Int32), u1.2)) else (if lr_in a1 4 = true then (some ((1 : Int32), (lr_wr u1.2 5 a1.toNatClampNeg 9 (1 : Int32)))) else none))
set_option maxHeartbeats 4000000 in
theorem lr_r_X_crash {a1 : Int32} {t : lr_S} {o : Int32 × lr_S} (h : lr_G_X_crash a1 t = some o) : lr_RI 0 20 lr_m_X_crash [.inr (0, 0), .inl a1] t o.1 o.2 := by
  refine lr_ofI (ty := .boolean) (own := lr_R6) (by decide) rfl rfl (Nat.le_of_ble_eq_true rfl) (fun X C E => ?_)
  show lr_T X 0 [(0, .inr (0, 0)), (1, .inl a1)] [] t
  have h := (show ((lr_G_X_acts a1 t).bind fun u1 => (if u1.1 = 0 then (some ((0 : Int32), u1.2)) else (if lr_in a1 4 = true then (some ((1 : Int32), (lr_wr u1.2 5 a1.toNatClampNeg 9 (1 : Int32)))) else none))) = some o from h)
  refine lr_aload_n (pc := 0) C lr_d_X_crash_0 rfl 0 rfl ?_
  refine lr_iload_n (pc := 1) C lr_d_X_crash_1 rfl 1 rfl ?_
  obtain ⟨u1, hu2, h⟩ := lr_bd h
  refine lr_callVi (pc := 2) (as := [.inl a1]) (st := []) (fs := fun ad => lr_fs6 t 0 ad) C (lr_r_X_acts hu2) lr_c6_39 lr_d_X_crash_2 rfl rfl (fun _ _ => rfl) (ci := 6) rfl rfl ⟨by decide, by decide⟩ (Nat.le_of_ble_eq_true rfl) ?_
  refine lr_if_ne (pc := 5) (tgt := 10) C lr_d_X_crash_5 (by decide) (fun hc3 => ?_) (fun hc3 => ?_)
  · have h := lr_ng hc3 h
    refine lr_aload_n (pc := 10) C lr_d_X_crash_10 rfl 0 rfl ?_
    refine lr_g6_18 (pc := 11) C lr_d_X_crash_11 ?_
    refine lr_iload_n (pc := 14) C lr_d_X_crash_14 rfl 1 rfl ?_
    obtain ⟨hb4, h⟩ := lr_gd h
    refine lr_a4 (pc := 15) C lr_d_X_crash_15 hb4 ?_
    refine lr_iconst (pc := 16) (v := 1) C lr_d_X_crash_16 (by decide) ?_
    refine lr_p6_139 (pc := 17) C lr_d_X_crash_17 (by decide) (by decide) ?_
    refine lr_iconst (pc := 20) (v := 1) C lr_d_X_crash_20 (by decide) ?_
    have e := Option.some.inj h
    subst e
    exact lr_iret C E lr_d_X_crash_21 (by decide)
  · have h := lr_ps hc3 h
    refine lr_iconst (pc := 8) (v := 0) C lr_d_X_crash_8 (by decide) ?_
    have e := Option.some.inj h
    subst e
    exact lr_iret C E lr_d_X_crash_9 (by decide)
def lr_G_X_flight (t : lr_S) : Option (Int32 × lr_S) := some ((lr_rd t 1 0 1), t)
set_option maxHeartbeats 4000000 in
theorem lr_r_X_flight {t : lr_S} {o : Int32 × lr_S} (h : lr_G_X_flight t = some o) : lr_RI 0 20 lr_m_X_flight [.inr (0, 0)] t o.1 o.2 := by
  refine lr_ofI (ty := .int) (own := lr_R6) (by decide) rfl rfl (Nat.le_of_ble_eq_true rfl) (fun X C E => ?_)
  show lr_T X 0 [(0, .inr (0, 0))] [] t
  have h := (show (some ((lr_rd t 1 0 1), t)) = some o from h)
  refine lr_aload_n (pc := 0) C lr_d_X_flight_0 rfl 0 rfl ?_
  refine lr_g6_10 (pc := 1) C lr_d_X_flight_1 ?_
  refine lr_g6_124 (pc := 4) C lr_d_X_flight_4 ?_
  have e := Option.some.inj h
  subst e
  exact lr_iret C E lr_d_X_flight_7 rfl
def lr_G_X_message (a1 : Int32) (a2 : Int32) (t : lr_S) : Option (Int32 × lr_S) := (lr_G_Network_hasPlace a1 t).bind fun u1 => (if u1.1 = 0 then (some ((-1 : Int32), u1.2)) else (if lr_in a1 32 = true then (if u1.2.2 a1.toNatClampNeg < 49 then ((lr_G_Message_part (u1.2.2 a1.toNatClampNeg) a2 u1.2).bind fun u6 => (some (u6.1, u6.2))) else none) else none))
set_option maxHeartbeats 4000000 in
theorem lr_r_X_message {a1 : Int32} {a2 : Int32} {t : lr_S} {o : Int32 × lr_S} (h : lr_G_X_message a1 a2 t = some o) : lr_RI 0 20 lr_m_X_message [.inr (0, 0), .inl a1, .inl a2] t o.1 o.2 := by
  refine lr_ofI (ty := .int) (own := lr_R6) (by decide) rfl rfl (Nat.le_of_ble_eq_true rfl) (fun X C E => ?_)
  show lr_T X 0 [(0, .inr (0, 0)), (1, .inl a1), (2, .inl a2)] [] t
  have h := (show ((lr_G_Network_hasPlace a1 t).bind fun u1 => (if u1.1 = 0 then (some ((-1 : Int32), u1.2)) else (if lr_in a1 32 = true then (if u1.2.2 a1.toNatClampNeg < 49 then ((lr_G_Message_part (u1.2.2 a1.toNatClampNeg) a2 u1.2).bind fun u6 => (some (u6.1, u6.2))) else none) else none))) = some o from h)
  refine lr_aload_n (pc := 0) C lr_d_X_message_0 rfl 0 rfl ?_
  refine lr_g6_10 (pc := 1) C lr_d_X_message_1 ?_
  refine lr_iload_n (pc := 4) C lr_d_X_message_4 rfl 1 rfl ?_
  obtain ⟨u1, hu2, h⟩ := lr_bd h
  refine lr_callVi (pc := 5) (as := [.inl a1]) (st := []) (fs := fun ad => lr_fs1 t 0 ad) C (lr_r_Network_hasPlace hu2) lr_c6_103 lr_d_X_message_5 rfl rfl (fun _ _ => rfl) (ci := 1) rfl rfl ⟨by decide, by decide⟩ (Nat.le_of_ble_eq_true rfl) ?_
  refine lr_if_eq (pc := 8) (tgt := 27) C lr_d_X_message_8 (by decide) (fun hc3 => ?_) (fun hc3 => ?_)
  · have h := lr_ps hc3 h
    refine lr_iconst (pc := 27) (v := -1) C lr_d_X_message_27 (by decide) ?_
    have e := Option.some.inj h
    subst e
    exact lr_iret C E lr_d_X_message_28 rfl
  · have h := lr_ng hc3 h
    refine lr_aload_n (pc := 11) C lr_d_X_message_11 rfl 0 rfl ?_
    refine lr_g6_10 (pc := 12) C lr_d_X_message_12 ?_
    refine lr_g6_106 (pc := 15) C lr_d_X_message_15 ?_
    refine lr_iload_n (pc := 18) C lr_d_X_message_18 rfl 1 rfl ?_
    obtain ⟨hb4, h⟩ := lr_gd h
    obtain ⟨hp5, h⟩ := lr_gd h
    refine lr_aaldp (pc := 19) C lr_d_X_message_19 hb4 ⟨rfl, rfl⟩ hp5 ?_
    refine lr_iload_n (pc := 20) C lr_d_X_message_20 rfl 2 rfl ?_
    obtain ⟨u6, hu7, h⟩ := lr_bd h
    refine lr_callVi (pc := 21) (as := [.inl a2]) (st := []) (fs := fun ad => lr_fs0 u1.2 (u1.2.2 a1.toNatClampNeg) ad) C (lr_r_Message_part hu7) lr_c6_143 lr_d_X_message_21 rfl rfl (fun _ _ => rfl) (ci := 0) rfl rfl ⟨by decide, by decide⟩ (Nat.le_of_ble_eq_true rfl) ?_
    refine lr_goto (pc := 24) (tgt := 28) C lr_d_X_message_24 (by decide) ?_
    have e := Option.some.inj h
    subst e
    exact lr_iret C E lr_d_X_message_28 rfl
def lr_G_X_root (a1 : Int32) (a2 : Int32) (t : lr_S) : Option (Int32 × lr_S) := (lr_G_X_isNode a1 t).bind fun u1 => (if u1.1 = 0 then (some ((-1 : Int32), u1.2)) else ((lr_G_X_isRoot a2 u1.2).bind fun u4 => (if u4.1 = 0 then (some ((-1 : Int32), u4.2)) else (if lr_in a1 4 = true then (if lr_in a2 3 = true then (some ((lr_rd u4.2 11 a1.toNatClampNeg a2.toNatClampNeg), u4.2)) else none) else none))))
set_option maxHeartbeats 4000000 in
theorem lr_r_X_root {a1 : Int32} {a2 : Int32} {t : lr_S} {o : Int32 × lr_S} (h : lr_G_X_root a1 a2 t = some o) : lr_RI 0 20 lr_m_X_root [.inr (0, 0), .inl a1, .inl a2] t o.1 o.2 := by
  refine lr_ofI (ty := .int) (own := lr_R6) (by decide) rfl rfl (Nat.le_of_ble_eq_true rfl) (fun X C E => ?_)
  show lr_T X 0 [(0, .inr (0, 0)), (1, .inl a1), (2, .inl a2)] [] t
  have h := (show ((lr_G_X_isNode a1 t).bind fun u1 => (if u1.1 = 0 then (some ((-1 : Int32), u1.2)) else ((lr_G_X_isRoot a2 u1.2).bind fun u4 => (if u4.1 = 0 then (some ((-1 : Int32), u4.2)) else (if lr_in a1 4 = true then (if lr_in a2 3 = true then (some ((lr_rd u4.2 11 a1.toNatClampNeg a2.toNatClampNeg), u4.2)) else none) else none))))) = some o from h)
  refine lr_iload_n (pc := 0) C lr_d_X_root_0 rfl 1 rfl ?_
  obtain ⟨u1, hu2, h⟩ := lr_bd h
  refine lr_callSi (pc := 1) (as := [.inl a1]) (st := []) C (lr_r_X_isNode hu2) lr_c6_74 lr_d_X_root_1 rfl rfl ⟨by decide, by decide⟩ (Nat.le_of_ble_eq_true rfl) ?_
  refine lr_if_eq (pc := 4) (tgt := 28) C lr_d_X_root_4 (by decide) (fun hc3 => ?_) (fun hc3 => ?_)
  · have h := lr_ps hc3 h
    refine lr_iconst (pc := 28) (v := -1) C lr_d_X_root_28 (by decide) ?_
    have e := Option.some.inj h
    subst e
    exact lr_iret C E lr_d_X_root_29 rfl
  · have h := lr_ng hc3 h
    refine lr_iload_n (pc := 7) C lr_d_X_root_7 rfl 2 rfl ?_
    obtain ⟨u4, hu5, h⟩ := lr_bd h
    refine lr_callSi (pc := 8) (as := [.inl a2]) (st := []) C (lr_r_X_isRoot hu5) lr_c6_43 lr_d_X_root_8 rfl rfl ⟨by decide, by decide⟩ (Nat.le_of_ble_eq_true rfl) ?_
    refine lr_if_eq (pc := 11) (tgt := 28) C lr_d_X_root_11 (by decide) (fun hc6 => ?_) (fun hc6 => ?_)
    · have h := lr_ps hc6 h
      refine lr_iconst (pc := 28) (v := -1) C lr_d_X_root_28 (by decide) ?_
      have e := Option.some.inj h
      subst e
      exact lr_iret C E lr_d_X_root_29 rfl
    · have h := lr_ng hc6 h
      refine lr_aload_n (pc := 14) C lr_d_X_root_14 rfl 0 rfl ?_
      refine lr_g6_18 (pc := 15) C lr_d_X_root_15 ?_
      refine lr_iload_n (pc := 18) C lr_d_X_root_18 rfl 1 rfl ?_
      obtain ⟨hb7, h⟩ := lr_gd h
      refine lr_a4 (pc := 19) C lr_d_X_root_19 hb7 ?_
      refine lr_g6_60 (pc := 20) C lr_d_X_root_20 ?_
      refine lr_iload_n (pc := 23) C lr_d_X_root_23 rfl 2 rfl ?_
      obtain ⟨hb8, h⟩ := lr_gd h
      refine lr_li11 (pc := 24) C lr_d_X_root_24 hb8 ?_
      refine lr_goto (pc := 25) (tgt := 29) C lr_d_X_root_25 (by decide) ?_
      have e := Option.some.inj h
      subst e
      exact lr_iret C E lr_d_X_root_29 rfl
def lr_G_X_isSlot (a0 : Int32) (t : lr_S) : Option (Int32 × lr_S) := if a0 < 0 then (some ((0 : Int32), t)) else (if (8 : Int32) ≤ a0 then (some ((0 : Int32), t)) else (some ((1 : Int32), t)))
set_option maxHeartbeats 4000000 in
theorem lr_r_X_isSlot {a0 : Int32} {t : lr_S} {o : Int32 × lr_S} (h : lr_G_X_isSlot a0 t = some o) : lr_RI 0 20 lr_m_X_isSlot [.inl a0] t o.1 o.2 := by
  refine lr_ofI (ty := .boolean) (own := lr_R6) (by decide) rfl rfl (Nat.le_of_ble_eq_true rfl) (fun X C E => ?_)
  show lr_T X 0 [(0, .inl a0)] [] t
  have h := (show (if a0 < 0 then (some ((0 : Int32), t)) else (if (8 : Int32) ≤ a0 then (some ((0 : Int32), t)) else (some ((1 : Int32), t)))) = some o from h)
  refine lr_iload_n (pc := 0) C lr_d_X_isSlot_0 rfl 0 rfl ?_
  refine lr_if_lt (pc := 1) (tgt := 14) C lr_d_X_isSlot_1 (by decide) (fun hc1 => ?_) (fun hc1 => ?_)
  · have h := lr_ps hc1 h
    refine lr_iconst (pc := 14) (v := 0) C lr_d_X_isSlot_14 (by decide) ?_
    have e := Option.some.inj h
    subst e
    exact lr_iret C E lr_d_X_isSlot_15 (by decide)
  · have h := lr_ng hc1 h
    refine lr_iload_n (pc := 4) C lr_d_X_isSlot_4 rfl 0 rfl ?_
    refine lr_bipush (pc := 5) (v := 8) C lr_d_X_isSlot_5 (by decide) ?_
    refine lr_icmp_ge (pc := 7) (tgt := 14) C lr_d_X_isSlot_7 (by decide) (fun hc2 => ?_) (fun hc2 => ?_)
    · have h := lr_ps hc2 h
      refine lr_iconst (pc := 14) (v := 0) C lr_d_X_isSlot_14 (by decide) ?_
      have e := Option.some.inj h
      subst e
      exact lr_iret C E lr_d_X_isSlot_15 (by decide)
    · have h := lr_ng hc2 h
      refine lr_iconst (pc := 10) (v := 1) C lr_d_X_isSlot_10 (by decide) ?_
      refine lr_goto (pc := 11) (tgt := 15) C lr_d_X_isSlot_11 (by decide) ?_
      have e := Option.some.inj h
      subst e
      exact lr_iret C E lr_d_X_isSlot_15 (by decide)
def lr_G_X_slot (a1 : Int32) (a2 : Int32) (a3 : Int32) (t : lr_S) : Option (Int32 × lr_S) := (lr_G_X_isNode a1 t).bind fun u1 => (if u1.1 = 0 then (some ((-1 : Int32), u1.2)) else ((lr_G_X_isSlot a2 u1.2).bind fun u4 => (if u4.1 = 0 then (some ((-1 : Int32), u4.2)) else (if lr_in a1 4 = true then (if lr_in a2 8 = true then ((lr_G_Slot_part (8 * a1.toNatClampNeg + a2.toNatClampNeg) a3 (lr_rd u4.2 1 0 0) u4.2).bind fun u9 => (some (u9.1, u9.2))) else none) else none))))
set_option maxHeartbeats 4000000 in
theorem lr_r_X_slot {a1 : Int32} {a2 : Int32} {a3 : Int32} {t : lr_S} {o : Int32 × lr_S} (h : lr_G_X_slot a1 a2 a3 t = some o) : lr_RI 0 20 lr_m_X_slot [.inr (0, 0), .inl a1, .inl a2, .inl a3] t o.1 o.2 := by
  refine lr_ofI (ty := .int) (own := lr_R6) (by decide) rfl rfl (Nat.le_of_ble_eq_true rfl) (fun X C E => ?_)
  show lr_T X 0 [(0, .inr (0, 0)), (1, .inl a1), (2, .inl a2), (3, .inl a3)] [] t
  have h := (show ((lr_G_X_isNode a1 t).bind fun u1 => (if u1.1 = 0 then (some ((-1 : Int32), u1.2)) else ((lr_G_X_isSlot a2 u1.2).bind fun u4 => (if u4.1 = 0 then (some ((-1 : Int32), u4.2)) else (if lr_in a1 4 = true then (if lr_in a2 8 = true then ((lr_G_Slot_part (8 * a1.toNatClampNeg + a2.toNatClampNeg) a3 (lr_rd u4.2 1 0 0) u4.2).bind fun u9 => (some (u9.1, u9.2))) else none) else none))))) = some o from h)
  refine lr_iload_n (pc := 0) C lr_d_X_slot_0 rfl 1 rfl ?_
  obtain ⟨u1, hu2, h⟩ := lr_bd h
  refine lr_callSi (pc := 1) (as := [.inl a1]) (st := []) C (lr_r_X_isNode hu2) lr_c6_74 lr_d_X_slot_1 rfl rfl ⟨by decide, by decide⟩ (Nat.le_of_ble_eq_true rfl) ?_
  refine lr_if_eq (pc := 4) (tgt := 39) C lr_d_X_slot_4 (by decide) (fun hc3 => ?_) (fun hc3 => ?_)
  · have h := lr_ps hc3 h
    refine lr_iconst (pc := 39) (v := -1) C lr_d_X_slot_39 (by decide) ?_
    have e := Option.some.inj h
    subst e
    exact lr_iret C E lr_d_X_slot_40 rfl
  · have h := lr_ng hc3 h
    refine lr_iload_n (pc := 7) C lr_d_X_slot_7 rfl 2 rfl ?_
    obtain ⟨u4, hu5, h⟩ := lr_bd h
    refine lr_callSi (pc := 8) (as := [.inl a2]) (st := []) C (lr_r_X_isSlot hu5) lr_c6_147 lr_d_X_slot_8 rfl rfl ⟨by decide, by decide⟩ (Nat.le_of_ble_eq_true rfl) ?_
    refine lr_if_eq (pc := 11) (tgt := 39) C lr_d_X_slot_11 (by decide) (fun hc6 => ?_) (fun hc6 => ?_)
    · have h := lr_ps hc6 h
      refine lr_iconst (pc := 39) (v := -1) C lr_d_X_slot_39 (by decide) ?_
      have e := Option.some.inj h
      subst e
      exact lr_iret C E lr_d_X_slot_40 rfl
    · have h := lr_ng hc6 h
      refine lr_aload_n (pc := 14) C lr_d_X_slot_14 rfl 0 rfl ?_
      refine lr_g6_18 (pc := 15) C lr_d_X_slot_15 ?_
      refine lr_iload_n (pc := 18) C lr_d_X_slot_18 rfl 1 rfl ?_
      obtain ⟨hb7, h⟩ := lr_gd h
      refine lr_a4 (pc := 19) C lr_d_X_slot_19 hb7 ?_
      refine lr_g6_50 (pc := 20) C lr_d_X_slot_20 ?_
      refine lr_iload_n (pc := 23) C lr_d_X_slot_23 rfl 2 rfl ?_
      obtain ⟨hb8, h⟩ := lr_gd h
      refine lr_a6 (pc := 24) C lr_d_X_slot_24 hb8 ?_
      refine lr_iload_n (pc := 25) C lr_d_X_slot_25 rfl 3 rfl ?_
      refine lr_aload_n (pc := 26) C lr_d_X_slot_26 rfl 0 rfl ?_
      refine lr_g6_10 (pc := 27) C lr_d_X_slot_27 ?_
      refine lr_g6_130 (pc := 30) C lr_d_X_slot_30 ?_
      obtain ⟨u9, hu10, h⟩ := lr_bd h
      refine lr_callVi (pc := 33) (as := [.inl a3, .inl (lr_rd u4.2 1 0 0)]) (st := []) (fs := fun ad => lr_fs5 u4.2 (8 * a1.toNatClampNeg + a2.toNatClampNeg) ad) C (lr_r_Slot_part hu10) lr_c6_150 lr_d_X_slot_33 rfl rfl (fun _ _ => rfl) (ci := 5) rfl rfl ⟨by decide, by decide⟩ (Nat.le_of_ble_eq_true rfl) ?_
      refine lr_goto (pc := 36) (tgt := 40) C lr_d_X_slot_36 (by decide) ?_
      have e := Option.some.inj h
      subst e
      exact lr_iret C E lr_d_X_slot_40 rfl
def lr_G_X_listing (a1 : Int32) (a2 : Int32) (a3 : Int32) (t : lr_S) : Option (Int32 × lr_S) := (lr_G_X_isNode a1 t).bind fun u1 => (if u1.1 = 0 then (some ((-1 : Int32), u1.2)) else ((lr_G_X_isSlot a2 u1.2).bind fun u4 => (if u4.1 = 0 then (some ((-1 : Int32), u4.2)) else ((lr_G_X_isNode a3 u4.2).bind fun u7 => (if u7.1 = 0 then (some ((-1 : Int32), u7.2)) else (if a3 = a1 then (some ((-1 : Int32), u7.2)) else (if lr_in a1 4 = true then (if lr_in a2 8 = true then (if (lr_rd u7.2 7 (8 * a1.toNatClampNeg + a2.toNatClampNeg) 0) = (1 : Int32) then (if lr_in a3 4 = true then (some ((if (0 : Int32) < ((lr_rd u7.2 10 (8 * a1.toNatClampNeg + a2.toNatClampNeg) a3.toNatClampNeg) - (lr_rd u7.2 1 0 0)) then ((lr_rd u7.2 10 (8 * a1.toNatClampNeg + a2.toNatClampNeg) a3.toNatClampNeg) - (lr_rd u7.2 1 0 0)) else (0 : Int32)), u7.2)) else none) else (some ((-1 : Int32), u7.2))) else none) else none)))))))
set_option maxHeartbeats 4000000 in
theorem lr_r_X_listing {a1 : Int32} {a2 : Int32} {a3 : Int32} {t : lr_S} {o : Int32 × lr_S} (h : lr_G_X_listing a1 a2 a3 t = some o) : lr_RI 0 20 lr_m_X_listing [.inr (0, 0), .inl a1, .inl a2, .inl a3] t o.1 o.2 := by
  refine lr_ofI (ty := .int) (own := lr_R6) (by decide) rfl rfl (Nat.le_of_ble_eq_true rfl) (fun X C E => ?_)
  show lr_T X 0 [(0, .inr (0, 0)), (1, .inl a1), (2, .inl a2), (3, .inl a3)] [] t
  have h := (show ((lr_G_X_isNode a1 t).bind fun u1 => (if u1.1 = 0 then (some ((-1 : Int32), u1.2)) else ((lr_G_X_isSlot a2 u1.2).bind fun u4 => (if u4.1 = 0 then (some ((-1 : Int32), u4.2)) else ((lr_G_X_isNode a3 u4.2).bind fun u7 => (if u7.1 = 0 then (some ((-1 : Int32), u7.2)) else (if a3 = a1 then (some ((-1 : Int32), u7.2)) else (if lr_in a1 4 = true then (if lr_in a2 8 = true then (if (lr_rd u7.2 7 (8 * a1.toNatClampNeg + a2.toNatClampNeg) 0) = (1 : Int32) then (if lr_in a3 4 = true then (some ((if (0 : Int32) < ((lr_rd u7.2 10 (8 * a1.toNatClampNeg + a2.toNatClampNeg) a3.toNatClampNeg) - (lr_rd u7.2 1 0 0)) then ((lr_rd u7.2 10 (8 * a1.toNatClampNeg + a2.toNatClampNeg) a3.toNatClampNeg) - (lr_rd u7.2 1 0 0)) else (0 : Int32)), u7.2)) else none) else (some ((-1 : Int32), u7.2))) else none) else none)))))))) = some o from h)
  refine lr_iload_n (pc := 0) C lr_d_X_listing_0 rfl 1 rfl ?_
  obtain ⟨u1, hu2, h⟩ := lr_bd h
  refine lr_callSi (pc := 1) (as := [.inl a1]) (st := []) C (lr_r_X_isNode hu2) lr_c6_74 lr_d_X_listing_1 rfl rfl ⟨by decide, by decide⟩ (Nat.le_of_ble_eq_true rfl) ?_
  refine lr_if_eq (pc := 4) (tgt := 26) C lr_d_X_listing_4 (by decide) (fun hc3 => ?_) (fun hc3 => ?_)
  · have h := lr_ps hc3 h
    refine lr_iconst (pc := 26) (v := -1) C lr_d_X_listing_26 (by decide) ?_
    have e := Option.some.inj h
    subst e
    exact lr_iret C E lr_d_X_listing_27 rfl
  · have h := lr_ng hc3 h
    refine lr_iload_n (pc := 7) C lr_d_X_listing_7 rfl 2 rfl ?_
    obtain ⟨u4, hu5, h⟩ := lr_bd h
    refine lr_callSi (pc := 8) (as := [.inl a2]) (st := []) C (lr_r_X_isSlot hu5) lr_c6_147 lr_d_X_listing_8 rfl rfl ⟨by decide, by decide⟩ (Nat.le_of_ble_eq_true rfl) ?_
    refine lr_if_eq (pc := 11) (tgt := 26) C lr_d_X_listing_11 (by decide) (fun hc6 => ?_) (fun hc6 => ?_)
    · have h := lr_ps hc6 h
      refine lr_iconst (pc := 26) (v := -1) C lr_d_X_listing_26 (by decide) ?_
      have e := Option.some.inj h
      subst e
      exact lr_iret C E lr_d_X_listing_27 rfl
    · have h := lr_ng hc6 h
      refine lr_iload_n (pc := 14) C lr_d_X_listing_14 rfl 3 rfl ?_
      obtain ⟨u7, hu8, h⟩ := lr_bd h
      refine lr_callSi (pc := 15) (as := [.inl a3]) (st := []) C (lr_r_X_isNode hu8) lr_c6_74 lr_d_X_listing_15 rfl rfl ⟨by decide, by decide⟩ (Nat.le_of_ble_eq_true rfl) ?_
      refine lr_if_eq (pc := 18) (tgt := 26) C lr_d_X_listing_18 (by decide) (fun hc9 => ?_) (fun hc9 => ?_)
      · have h := lr_ps hc9 h
        refine lr_iconst (pc := 26) (v := -1) C lr_d_X_listing_26 (by decide) ?_
        have e := Option.some.inj h
        subst e
        exact lr_iret C E lr_d_X_listing_27 rfl
      · have h := lr_ng hc9 h
        refine lr_iload_n (pc := 21) C lr_d_X_listing_21 rfl 3 rfl ?_
        refine lr_iload_n (pc := 22) C lr_d_X_listing_22 rfl 1 rfl ?_
        refine lr_icmp_ne (pc := 23) (tgt := 28) C lr_d_X_listing_23 (by decide) (fun hc10 => ?_) (fun hc10 => ?_)
        · have h := lr_ng hc10 h
          refine lr_aload_n (pc := 28) C lr_d_X_listing_28 rfl 0 rfl ?_
          refine lr_g6_18 (pc := 29) C lr_d_X_listing_29 ?_
          refine lr_iload_n (pc := 32) C lr_d_X_listing_32 rfl 1 rfl ?_
          obtain ⟨hb11, h⟩ := lr_gd h
          refine lr_a4 (pc := 33) C lr_d_X_listing_33 hb11 ?_
          refine lr_g6_50 (pc := 34) C lr_d_X_listing_34 ?_
          refine lr_iload_n (pc := 37) C lr_d_X_listing_37 rfl 2 rfl ?_
          obtain ⟨hb12, h⟩ := lr_gd h
          refine lr_a6 (pc := 38) C lr_d_X_listing_38 hb12 ?_
          refine lr_astore (pc := 39) (ls' := [(4, .inr (7, (8 * a1.toNatClampNeg + a2.toNatClampNeg))), (0, .inr (0, 0)), (1, .inl a1), (2, .inl a2), (3, .inl a3)]) C lr_d_X_listing_39 (by decide) rfl ?_
          refine lr_aload (pc := 41) C lr_d_X_listing_41 0 rfl ?_
          refine lr_g6_153 (pc := 43) C lr_d_X_listing_43 ?_
          refine lr_iconst (pc := 46) (v := 1) C lr_d_X_listing_46 (by decide) ?_
          refine lr_icmp_ne (pc := 47) (tgt := 72) C lr_d_X_listing_47 (by decide) (fun hc13 => ?_) (fun hc13 => ?_)
          · have h := lr_ng hc13 h
            refine lr_iconst (pc := 72) (v := -1) C lr_d_X_listing_72 (by decide) ?_
            have e := Option.some.inj h
            subst e
            exact lr_iret C E lr_d_X_listing_73 rfl
          · have h := lr_ps hc13 h
            refine lr_iconst (pc := 50) (v := 0) C lr_d_X_listing_50 (by decide) ?_
            refine lr_aload (pc := 51) C lr_d_X_listing_51 0 rfl ?_
            refine lr_g6_156 (pc := 53) C lr_d_X_listing_53 ?_
            refine lr_iload_n (pc := 56) C lr_d_X_listing_56 rfl 4 rfl ?_
            obtain ⟨hb14, h⟩ := lr_gd h
            refine lr_li10 (pc := 57) C lr_d_X_listing_57 hb14 ?_
            refine lr_aload_n (pc := 58) C lr_d_X_listing_58 rfl 1 rfl ?_
            refine lr_g6_10 (pc := 59) C lr_d_X_listing_59 ?_
            refine lr_g6_130 (pc := 62) C lr_d_X_listing_62 ?_
            refine lr_isub (pc := 65) C lr_d_X_listing_65 ?_
            refine lr_mx6_159 (pc := 66) C lr_d_X_listing_66 (by decide) (Nat.le_of_ble_eq_true rfl) ?_
            refine lr_goto (pc := 69) (tgt := 73) C lr_d_X_listing_69 (by decide) ?_
            have e := Option.some.inj h
            subst e
            exact lr_iret C E lr_d_X_listing_73 rfl
        · have h := lr_ps hc10 h
          refine lr_iconst (pc := 26) (v := -1) C lr_d_X_listing_26 (by decide) ?_
          have e := Option.some.inj h
          subst e
          exact lr_iret C E lr_d_X_listing_27 rfl
