def lr_L_Slot_isListed_4 (a0 : Nat) (a1 : Int32) : Nat → Int32 → Int32 → lr_S → Option (Int32 × Int32 × lr_S)
  | 0, _, _, _ => none
  | f + 1, x2, x3, t => if (4 : Int32) ≤ x3 then (some (x2, x3, t)) else (if x2 = 0 then (if lr_in x3 4 = true then (if (lr_rd t 10 a0 x3.toNatClampNeg) ≤ a1 then (lr_L_Slot_isListed_4 a0 a1 f (0 : Int32) (x3 + 1) t) else (lr_L_Slot_isListed_4 a0 a1 f (1 : Int32) (x3 + 1) t)) else none) else (lr_L_Slot_isListed_4 a0 a1 f (1 : Int32) (x3 + 1) t))
set_option maxHeartbeats 4000000 in
theorem lr_t_Slot_isListed_4 {X : lr_X} (C : lr_C X lr_m_Slot_isListed.2.1 lr_R5 lr_m_Slot_isListed.2.2.1 lr_m_Slot_isListed.2.2.2.2.1 lr_m_Slot_isListed.2.2.2.2.2 0 20) (a0 : Nat) (a1 : Int32) : ∀ (f : Nat) (x2 : Int32) (x3 : Int32) (t : lr_S) (o : Int32 × Int32 × lr_S), lr_L_Slot_isListed_4 a0 a1 f x2 x3 t = some o → (lr_T X 35 [(0, .inr (7, a0)), (1, .inl a1), (2, .inl o.1), (3, .inl o.2.1)] [] o.2.2) → lr_T X 4 [(0, .inr (7, a0)), (1, .inl a1), (2, .inl x2), (3, .inl x3)] [] t := by
  intro f
  induction f with
  | zero => intro x2 x3 t o h; cases h
  | succ f ih =>
    intro x2 x3 t o h kx
    have h := (show (if (4 : Int32) ≤ x3 then (some (x2, x3, t)) else (if x2 = 0 then (if lr_in x3 4 = true then (if (lr_rd t 10 a0 x3.toNatClampNeg) ≤ a1 then (lr_L_Slot_isListed_4 a0 a1 f (0 : Int32) (x3 + 1) t) else (lr_L_Slot_isListed_4 a0 a1 f (1 : Int32) (x3 + 1) t)) else none) else (lr_L_Slot_isListed_4 a0 a1 f (1 : Int32) (x3 + 1) t))) = some o from h)
    refine lr_iload_n (pc := 4) C lr_d_Slot_isListed_4 rfl 3 rfl ?_
    refine lr_iconst (pc := 5) (v := 4) C lr_d_Slot_isListed_5 (by decide) ?_
    refine lr_icmp_ge (pc := 6) (tgt := 35) C lr_d_Slot_isListed_6 (by decide) (fun hc1 => ?_) (fun hc1 => ?_)
    · have h := lr_ps hc1 h
      refine lr_sub (ls' := [(0, .inr (7, a0)), (1, .inl a1), (2, .inl x2), (3, .inl x3)]) C [0, 1, 2, 3] rfl ?_
      have e := Option.some.inj h
      subst e
      exact kx
    · have h := lr_ng hc1 h
      refine lr_iload_n (pc := 9) C lr_d_Slot_isListed_9 rfl 2 rfl ?_
      refine lr_if_ne (pc := 10) (tgt := 23) C lr_d_Slot_isListed_10 (by decide) (fun hc2 => ?_) (fun hc2 => ?_)
      · have h := lr_ng hc2 h
        refine lr_iconst (pc := 23) (v := 1) C lr_d_Slot_isListed_23 (by decide) ?_
        refine lr_goto (pc := 24) (tgt := 28) C lr_d_Slot_isListed_24 (by decide) ?_
        refine lr_istore_n (pc := 28) (ls' := [(2, .inl (1 : Int32)), (0, .inr (7, a0)), (1, .inl a1), (3, .inl x3)]) C lr_d_Slot_isListed_28 rfl (by decide) rfl ?_
        refine lr_iinc (pc := 29) (v := (x3 + 1)) (ls' := [(3, .inl (x3 + 1)), (2, .inl (1 : Int32)), (0, .inr (7, a0)), (1, .inl a1)]) C lr_d_Slot_isListed_29 3 rfl rfl (by decide) rfl ?_
        refine lr_goto (pc := 32) (tgt := 4) C lr_d_Slot_isListed_32 (by decide) ?_
        refine lr_sub (ls' := [(0, .inr (7, a0)), (1, .inl a1), (2, .inl (1 : Int32)), (3, .inl (x3 + 1))]) C [2, 3, 1, 0] rfl ?_
        exact ih (1 : Int32) (x3 + 1) t o h kx
      · have h := lr_ps hc2 h
        refine lr_iload_n (pc := 13) C lr_d_Slot_isListed_13 rfl 1 rfl ?_
        refine lr_aload_n (pc := 14) C lr_d_Slot_isListed_14 rfl 0 rfl ?_
        refine lr_g5_22 (pc := 15) C lr_d_Slot_isListed_15 ?_
        refine lr_iload_n (pc := 18) C lr_d_Slot_isListed_18 rfl 3 rfl ?_
        obtain ⟨hb3, h⟩ := lr_gd h
        refine lr_li10 (pc := 19) C lr_d_Slot_isListed_19 hb3 ?_
        refine lr_icmp_ge (pc := 20) (tgt := 27) C lr_d_Slot_isListed_20 (by decide) (fun hc4 => ?_) (fun hc4 => ?_)
        · have h := lr_ps hc4 h
          refine lr_iconst (pc := 27) (v := 0) C lr_d_Slot_isListed_27 (by decide) ?_
          refine lr_istore_n (pc := 28) (ls' := [(2, .inl (0 : Int32)), (0, .inr (7, a0)), (1, .inl a1), (3, .inl x3)]) C lr_d_Slot_isListed_28 rfl (by decide) rfl ?_
          refine lr_iinc (pc := 29) (v := (x3 + 1)) (ls' := [(3, .inl (x3 + 1)), (2, .inl (0 : Int32)), (0, .inr (7, a0)), (1, .inl a1)]) C lr_d_Slot_isListed_29 3 rfl rfl (by decide) rfl ?_
          refine lr_goto (pc := 32) (tgt := 4) C lr_d_Slot_isListed_32 (by decide) ?_
          refine lr_sub (ls' := [(0, .inr (7, a0)), (1, .inl a1), (2, .inl (0 : Int32)), (3, .inl (x3 + 1))]) C [2, 3, 1, 0] rfl ?_
          exact ih (0 : Int32) (x3 + 1) t o h kx
        · have h := lr_ng hc4 h
          refine lr_iconst (pc := 23) (v := 1) C lr_d_Slot_isListed_23 (by decide) ?_
          refine lr_goto (pc := 24) (tgt := 28) C lr_d_Slot_isListed_24 (by decide) ?_
          refine lr_istore_n (pc := 28) (ls' := [(2, .inl (1 : Int32)), (0, .inr (7, a0)), (1, .inl a1), (3, .inl x3)]) C lr_d_Slot_isListed_28 rfl (by decide) rfl ?_
          refine lr_iinc (pc := 29) (v := (x3 + 1)) (ls' := [(3, .inl (x3 + 1)), (2, .inl (1 : Int32)), (0, .inr (7, a0)), (1, .inl a1)]) C lr_d_Slot_isListed_29 3 rfl rfl (by decide) rfl ?_
          refine lr_goto (pc := 32) (tgt := 4) C lr_d_Slot_isListed_32 (by decide) ?_
          refine lr_sub (ls' := [(0, .inr (7, a0)), (1, .inl a1), (2, .inl (1 : Int32)), (3, .inl (x3 + 1))]) C [2, 3, 1, 0] rfl ?_
          exact ih (1 : Int32) (x3 + 1) t o h kx
def lr_G_Slot_isListed (n : Nat) (a1 : Int32) (t : lr_S) : Option (Int32 × lr_S) := (lr_L_Slot_isListed_4 n a1 600 (0 : Int32) (0 : Int32) t).bind fun u5 => (if (lr_rd u5.2.2 7 n 0) = (1 : Int32) then (if u5.1 = 0 then (some ((0 : Int32), u5.2.2)) else (some ((1 : Int32), u5.2.2))) else (some ((0 : Int32), u5.2.2)))
set_option maxHeartbeats 4000000 in
theorem lr_r_Slot_isListed {n : Nat} {a1 : Int32} {t : lr_S} {o : Int32 × lr_S} (h : lr_G_Slot_isListed n a1 t = some o) : lr_RI 0 20 lr_m_Slot_isListed [.inr (7, n), .inl a1] t o.1 o.2 := by
  refine lr_ofI (ty := .boolean) (own := lr_R5) (by decide) rfl rfl (Nat.le_of_ble_eq_true rfl) (fun X C E => ?_)
  show lr_T X 0 [(0, .inr (7, n)), (1, .inl a1)] [] t
  have h := (show ((lr_L_Slot_isListed_4 n a1 600 (0 : Int32) (0 : Int32) t).bind fun u5 => (if (lr_rd u5.2.2 7 n 0) = (1 : Int32) then (if u5.1 = 0 then (some ((0 : Int32), u5.2.2)) else (some ((1 : Int32), u5.2.2))) else (some ((0 : Int32), u5.2.2)))) = some o from h)
  refine lr_iconst (pc := 0) (v := 0) C lr_d_Slot_isListed_0 (by decide) ?_
  refine lr_istore_n (pc := 1) (ls' := [(2, .inl (0 : Int32)), (0, .inr (7, n)), (1, .inl a1)]) C lr_d_Slot_isListed_1 rfl (by decide) rfl ?_
  refine lr_iconst (pc := 2) (v := 0) C lr_d_Slot_isListed_2 (by decide) ?_
  refine lr_istore_n (pc := 3) (ls' := [(3, .inl (0 : Int32)), (2, .inl (0 : Int32)), (0, .inr (7, n)), (1, .inl a1)]) C lr_d_Slot_isListed_3 rfl (by decide) rfl ?_
  refine lr_sub (ls' := [(0, .inr (7, n)), (1, .inl a1), (2, .inl (0 : Int32)), (3, .inl (0 : Int32))]) C [2, 3, 1, 0] rfl ?_
  obtain ⟨u5, hu6, h⟩ := lr_bd h
  refine lr_t_Slot_isListed_4 C n a1 600 (0 : Int32) (0 : Int32) t u5 hu6 ?_
  refine lr_aload_n (pc := 35) C lr_d_Slot_isListed_35 rfl 0 rfl ?_
  refine lr_g5_9 (pc := 36) C lr_d_Slot_isListed_36 ?_
  refine lr_iconst (pc := 39) (v := 1) C lr_d_Slot_isListed_39 (by decide) ?_
  refine lr_icmp_ne (pc := 40) (tgt := 51) C lr_d_Slot_isListed_40 (by decide) (fun hc7 => ?_) (fun hc7 => ?_)
  · have h := lr_ng hc7 h
    refine lr_iconst (pc := 51) (v := 0) C lr_d_Slot_isListed_51 (by decide) ?_
    have e := Option.some.inj h
    subst e
    exact lr_iret C E lr_d_Slot_isListed_52 (by decide)
  · have h := lr_ps hc7 h
    refine lr_iload_n (pc := 43) C lr_d_Slot_isListed_43 rfl 2 rfl ?_
    refine lr_if_eq (pc := 44) (tgt := 51) C lr_d_Slot_isListed_44 (by decide) (fun hc8 => ?_) (fun hc8 => ?_)
    · have h := lr_ps hc8 h
      refine lr_iconst (pc := 51) (v := 0) C lr_d_Slot_isListed_51 (by decide) ?_
      have e := Option.some.inj h
      subst e
      exact lr_iret C E lr_d_Slot_isListed_52 (by decide)
    · have h := lr_ng hc8 h
      refine lr_iconst (pc := 47) (v := 1) C lr_d_Slot_isListed_47 (by decide) ?_
      refine lr_goto (pc := 48) (tgt := 52) C lr_d_Slot_isListed_48 (by decide) ?_
      have e := Option.some.inj h
      subst e
      exact lr_iret C E lr_d_Slot_isListed_52 (by decide)
def lr_G_Node_keep (n : Nat) (a1 : Int32) (t : lr_S) : Option (lr_S) := if a1 = (-1 : Int32) then (some t) else (if lr_in a1 8 = true then (some (lr_wr t 16 n a1.toNatClampNeg (vp_nar .boolean (1 : Int32)))) else none)
set_option maxHeartbeats 4000000 in
theorem lr_r_Node_keep {n : Nat} {a1 : Int32} {t o : lr_S} (h : lr_G_Node_keep n a1 t = some o) : lr_RV 0 20 lr_m_Node_keep [.inr (5, n), .inl a1] t o := by
  refine lr_ofV (own := lr_R2) (by decide) rfl rfl (Nat.le_of_ble_eq_true rfl) (fun X C E => ?_)
  show lr_T X 0 [(0, .inr (5, n)), (1, .inl a1)] [] t
  have h := (show (if a1 = (-1 : Int32) then (some t) else (if lr_in a1 8 = true then (some (lr_wr t 16 n a1.toNatClampNeg (vp_nar .boolean (1 : Int32)))) else none)) = some o from h)
  refine lr_iload_n (pc := 0) C lr_d_Node_keep_0 rfl 1 rfl ?_
  refine lr_iconst (pc := 1) (v := -1) C lr_d_Node_keep_1 (by decide) ?_
  refine lr_icmp_eq (pc := 2) (tgt := 12) C lr_d_Node_keep_2 (by decide) (fun hc1 => ?_) (fun hc1 => ?_)
  · have h := lr_ps hc1 h
    have e := Option.some.inj h
    subst e
    exact lr_vret C E lr_d_Node_keep_12
  · have h := lr_ng hc1 h
    refine lr_aload_n (pc := 5) C lr_d_Node_keep_5 rfl 0 rfl ?_
    refine lr_g2_54 (pc := 6) C lr_d_Node_keep_6 ?_
    refine lr_iload_n (pc := 9) C lr_d_Node_keep_9 rfl 1 rfl ?_
    refine lr_iconst (pc := 10) (v := 1) C lr_d_Node_keep_10 (by decide) ?_
    obtain ⟨hb2, h⟩ := lr_gd h
    refine lr_sz16 (pc := 11) C lr_d_Node_keep_11 hb2 ?_
    have e := Option.some.inj h
    subst e
    exact lr_vret C E lr_d_Node_keep_12
def lr_L_Node_keepWhatFieldsReferTo_32 (a0 : Nat) (a1 : Int32) : Nat → Int32 → lr_S → Option (Int32 × lr_S)
  | 0, _, _ => none
  | f + 1, x2, t => if (2 : Int32) ≤ x2 then (some (x2, t)) else (if lr_in a1 8 = true then (if lr_in x2 2 = true then ((lr_G_Node_keep a0 (lr_rd t 8 (8 * a0 + a1.toNatClampNeg) x2.toNatClampNeg) t).bind fun u8 => (lr_L_Node_keepWhatFieldsReferTo_32 a0 a1 f (x2 + 1) u8)) else none) else none)
set_option maxHeartbeats 4000000 in
theorem lr_t_Node_keepWhatFieldsReferTo_32 {X : lr_X} (C : lr_C X lr_m_Node_keepWhatFieldsReferTo.2.1 lr_R2 lr_m_Node_keepWhatFieldsReferTo.2.2.1 lr_m_Node_keepWhatFieldsReferTo.2.2.2.2.1 lr_m_Node_keepWhatFieldsReferTo.2.2.2.2.2 0 20) (a0 : Nat) (a1 : Int32) : ∀ (f : Nat) (x2 : Int32) (t : lr_S) (o : Int32 × lr_S), lr_L_Node_keepWhatFieldsReferTo_32 a0 a1 f x2 t = some o → (lr_T X 58 [(0, .inr (5, a0)), (1, .inl a1), (2, .inl o.1)] [] o.2) → lr_T X 32 [(0, .inr (5, a0)), (1, .inl a1), (2, .inl x2)] [] t := by
  intro f
  induction f with
  | zero => intro x2 t o h; cases h
  | succ f ih =>
    intro x2 t o h kx
    have h := (show (if (2 : Int32) ≤ x2 then (some (x2, t)) else (if lr_in a1 8 = true then (if lr_in x2 2 = true then ((lr_G_Node_keep a0 (lr_rd t 8 (8 * a0 + a1.toNatClampNeg) x2.toNatClampNeg) t).bind fun u8 => (lr_L_Node_keepWhatFieldsReferTo_32 a0 a1 f (x2 + 1) u8)) else none) else none)) = some o from h)
    refine lr_iload_n (pc := 32) C lr_d_Node_keepWhatFieldsReferTo_32 rfl 2 rfl ?_
    refine lr_iconst (pc := 33) (v := 2) C lr_d_Node_keepWhatFieldsReferTo_33 (by decide) ?_
    refine lr_icmp_ge (pc := 34) (tgt := 58) C lr_d_Node_keepWhatFieldsReferTo_34 (by decide) (fun hc5 => ?_) (fun hc5 => ?_)
    · have h := lr_ps hc5 h
      refine lr_sub (ls' := [(0, .inr (5, a0)), (1, .inl a1), (2, .inl x2)]) C [0, 1, 2] rfl ?_
      have e := Option.some.inj h
      subst e
      exact kx
    · have h := lr_ng hc5 h
      refine lr_aload_n (pc := 37) C lr_d_Node_keepWhatFieldsReferTo_37 rfl 0 rfl ?_
      refine lr_aload_n (pc := 38) C lr_d_Node_keepWhatFieldsReferTo_38 rfl 0 rfl ?_
      refine lr_g2_21 (pc := 39) C lr_d_Node_keepWhatFieldsReferTo_39 ?_
      refine lr_iload_n (pc := 42) C lr_d_Node_keepWhatFieldsReferTo_42 rfl 1 rfl ?_
      obtain ⟨hb6, h⟩ := lr_gd h
      refine lr_a6 (pc := 43) C lr_d_Node_keepWhatFieldsReferTo_43 hb6 ?_
      refine lr_g2_243 (pc := 44) C lr_d_Node_keepWhatFieldsReferTo_44 ?_
      refine lr_iload_n (pc := 47) C lr_d_Node_keepWhatFieldsReferTo_47 rfl 2 rfl ?_
      obtain ⟨hb7, h⟩ := lr_gd h
      refine lr_li8 (pc := 48) C lr_d_Node_keepWhatFieldsReferTo_48 hb7 ?_
      obtain ⟨u8, hu9, h⟩ := lr_bd h
      refine lr_callVv (pc := 49) (as := [.inl (lr_rd t 8 (8 * a0 + a1.toNatClampNeg) x2.toNatClampNeg)]) (st := []) (fs := fun ad => lr_fs2 t a0 ad) C (lr_r_Node_keep hu9) lr_c2_236 lr_d_Node_keepWhatFieldsReferTo_49 rfl rfl (fun _ _ => rfl) (ci := 2) rfl rfl ⟨by decide, by decide⟩ (Nat.le_of_ble_eq_true rfl) ?_
      refine lr_iinc (pc := 52) (v := (x2 + 1)) (ls' := [(2, .inl (x2 + 1)), (0, .inr (5, a0)), (1, .inl a1)]) C lr_d_Node_keepWhatFieldsReferTo_52 2 rfl rfl (by decide) rfl ?_
      refine lr_goto (pc := 55) (tgt := 32) C lr_d_Node_keepWhatFieldsReferTo_55 (by decide) ?_
      refine lr_sub (ls' := [(0, .inr (5, a0)), (1, .inl a1), (2, .inl (x2 + 1))]) C [1, 2, 0] rfl ?_
      exact ih (x2 + 1) u8 o h kx
def lr_L_Node_keepWhatFieldsReferTo_2 (a0 : Nat) : Nat → Int32 → lr_S → Option (Int32 × lr_S)
  | 0, _, _ => none
  | f + 1, x1, t => if (8 : Int32) ≤ x1 then (some (x1, t)) else (if lr_in x1 8 = true then (if (lr_rd t 16 a0 x1.toNatClampNeg) = 0 then (lr_L_Node_keepWhatFieldsReferTo_2 a0 f (x1 + 1) t) else (if (lr_rd t 7 (8 * a0 + x1.toNatClampNeg) 0) = (1 : Int32) then ((lr_L_Node_keepWhatFieldsReferTo_32 a0 x1 600 (0 : Int32) t).bind fun u10 => (lr_L_Node_keepWhatFieldsReferTo_2 a0 f (x1 + 1) u10.2)) else (lr_L_Node_keepWhatFieldsReferTo_2 a0 f (x1 + 1) t))) else none)
set_option maxHeartbeats 4000000 in
theorem lr_t_Node_keepWhatFieldsReferTo_2 {X : lr_X} (C : lr_C X lr_m_Node_keepWhatFieldsReferTo.2.1 lr_R2 lr_m_Node_keepWhatFieldsReferTo.2.2.1 lr_m_Node_keepWhatFieldsReferTo.2.2.2.2.1 lr_m_Node_keepWhatFieldsReferTo.2.2.2.2.2 0 20) (a0 : Nat) : ∀ (f : Nat) (x1 : Int32) (t : lr_S) (o : Int32 × lr_S), lr_L_Node_keepWhatFieldsReferTo_2 a0 f x1 t = some o → (lr_T X 64 [(0, .inr (5, a0)), (1, .inl o.1)] [] o.2) → lr_T X 2 [(0, .inr (5, a0)), (1, .inl x1)] [] t := by
  intro f
  induction f with
  | zero => intro x1 t o h; cases h
  | succ f ih =>
    intro x1 t o h kx
    have h := (show (if (8 : Int32) ≤ x1 then (some (x1, t)) else (if lr_in x1 8 = true then (if (lr_rd t 16 a0 x1.toNatClampNeg) = 0 then (lr_L_Node_keepWhatFieldsReferTo_2 a0 f (x1 + 1) t) else (if (lr_rd t 7 (8 * a0 + x1.toNatClampNeg) 0) = (1 : Int32) then ((lr_L_Node_keepWhatFieldsReferTo_32 a0 x1 600 (0 : Int32) t).bind fun u10 => (lr_L_Node_keepWhatFieldsReferTo_2 a0 f (x1 + 1) u10.2)) else (lr_L_Node_keepWhatFieldsReferTo_2 a0 f (x1 + 1) t))) else none)) = some o from h)
    refine lr_iload_n (pc := 2) C lr_d_Node_keepWhatFieldsReferTo_2 rfl 1 rfl ?_
    refine lr_bipush (pc := 3) (v := 8) C lr_d_Node_keepWhatFieldsReferTo_3 (by decide) ?_
    refine lr_icmp_ge (pc := 5) (tgt := 64) C lr_d_Node_keepWhatFieldsReferTo_5 (by decide) (fun hc1 => ?_) (fun hc1 => ?_)
    · have h := lr_ps hc1 h
      refine lr_sub (ls' := [(0, .inr (5, a0)), (1, .inl x1)]) C [0, 1] rfl ?_
      have e := Option.some.inj h
      subst e
      exact kx
    · have h := lr_ng hc1 h
      refine lr_aload_n (pc := 8) C lr_d_Node_keepWhatFieldsReferTo_8 rfl 0 rfl ?_
      refine lr_g2_54 (pc := 9) C lr_d_Node_keepWhatFieldsReferTo_9 ?_
      refine lr_iload_n (pc := 12) C lr_d_Node_keepWhatFieldsReferTo_12 rfl 1 rfl ?_
      obtain ⟨hb2, h⟩ := lr_gd h
      refine lr_lz16 (pc := 13) C lr_d_Node_keepWhatFieldsReferTo_13 hb2 ?_
      refine lr_if_eq (pc := 14) (tgt := 58) C lr_d_Node_keepWhatFieldsReferTo_14 (by decide) (fun hc3 => ?_) (fun hc3 => ?_)
      · have h := lr_ps hc3 h
        refine lr_iinc (pc := 58) (v := (x1 + 1)) (ls' := [(1, .inl (x1 + 1)), (0, .inr (5, a0))]) C lr_d_Node_keepWhatFieldsReferTo_58 1 rfl rfl (by decide) rfl ?_
        refine lr_goto (pc := 61) (tgt := 2) C lr_d_Node_keepWhatFieldsReferTo_61 (by decide) ?_
        refine lr_sub (ls' := [(0, .inr (5, a0)), (1, .inl (x1 + 1))]) C [1, 0] rfl ?_
        exact ih (x1 + 1) t o h kx
      · have h := lr_ng hc3 h
        refine lr_aload_n (pc := 17) C lr_d_Node_keepWhatFieldsReferTo_17 rfl 0 rfl ?_
        refine lr_g2_21 (pc := 18) C lr_d_Node_keepWhatFieldsReferTo_18 ?_
        refine lr_iload_n (pc := 21) C lr_d_Node_keepWhatFieldsReferTo_21 rfl 1 rfl ?_
        refine lr_a6 (pc := 22) C lr_d_Node_keepWhatFieldsReferTo_22 hb2 ?_
        refine lr_g2_65 (pc := 23) C lr_d_Node_keepWhatFieldsReferTo_23 ?_
        refine lr_iconst (pc := 26) (v := 1) C lr_d_Node_keepWhatFieldsReferTo_26 (by decide) ?_
        refine lr_icmp_ne (pc := 27) (tgt := 58) C lr_d_Node_keepWhatFieldsReferTo_27 (by decide) (fun hc4 => ?_) (fun hc4 => ?_)
        · have h := lr_ng hc4 h
          refine lr_iinc (pc := 58) (v := (x1 + 1)) (ls' := [(1, .inl (x1 + 1)), (0, .inr (5, a0))]) C lr_d_Node_keepWhatFieldsReferTo_58 1 rfl rfl (by decide) rfl ?_
          refine lr_goto (pc := 61) (tgt := 2) C lr_d_Node_keepWhatFieldsReferTo_61 (by decide) ?_
          refine lr_sub (ls' := [(0, .inr (5, a0)), (1, .inl (x1 + 1))]) C [1, 0] rfl ?_
          exact ih (x1 + 1) t o h kx
        · have h := lr_ps hc4 h
          refine lr_iconst (pc := 30) (v := 0) C lr_d_Node_keepWhatFieldsReferTo_30 (by decide) ?_
          refine lr_istore_n (pc := 31) (ls' := [(2, .inl (0 : Int32)), (0, .inr (5, a0)), (1, .inl x1)]) C lr_d_Node_keepWhatFieldsReferTo_31 rfl (by decide) rfl ?_
          refine lr_sub (ls' := [(0, .inr (5, a0)), (1, .inl x1), (2, .inl (0 : Int32))]) C [1, 2, 0] rfl ?_
          obtain ⟨u10, hu11, h⟩ := lr_bd h
          refine lr_t_Node_keepWhatFieldsReferTo_32 C a0 x1 600 (0 : Int32) t u10 hu11 ?_
          refine lr_iinc (pc := 58) (v := (x1 + 1)) (ls' := [(1, .inl (x1 + 1)), (0, .inr (5, a0)), (2, .inl u10.1)]) C lr_d_Node_keepWhatFieldsReferTo_58 1 rfl rfl (by decide) rfl ?_
          refine lr_goto (pc := 61) (tgt := 2) C lr_d_Node_keepWhatFieldsReferTo_61 (by decide) ?_
          refine lr_sub (ls' := [(0, .inr (5, a0)), (1, .inl (x1 + 1))]) C [1, 0] rfl ?_
          exact ih (x1 + 1) u10.2 o h kx
def lr_G_Node_keepWhatFieldsReferTo (n : Nat) (t : lr_S) : Option (lr_S) := (lr_L_Node_keepWhatFieldsReferTo_2 n 600 (0 : Int32) t).bind fun u12 => (some u12.2)
set_option maxHeartbeats 4000000 in
theorem lr_r_Node_keepWhatFieldsReferTo {n : Nat} {t o : lr_S} (h : lr_G_Node_keepWhatFieldsReferTo n t = some o) : lr_RV 0 20 lr_m_Node_keepWhatFieldsReferTo [.inr (5, n)] t o := by
  refine lr_ofV (own := lr_R2) (by decide) rfl rfl (Nat.le_of_ble_eq_true rfl) (fun X C E => ?_)
  show lr_T X 0 [(0, .inr (5, n))] [] t
  have h := (show ((lr_L_Node_keepWhatFieldsReferTo_2 n 600 (0 : Int32) t).bind fun u12 => (some u12.2)) = some o from h)
  refine lr_iconst (pc := 0) (v := 0) C lr_d_Node_keepWhatFieldsReferTo_0 (by decide) ?_
  refine lr_istore_n (pc := 1) (ls' := [(1, .inl (0 : Int32)), (0, .inr (5, n))]) C lr_d_Node_keepWhatFieldsReferTo_1 rfl (by decide) rfl ?_
  refine lr_sub (ls' := [(0, .inr (5, n)), (1, .inl (0 : Int32))]) C [1, 0] rfl ?_
  obtain ⟨u12, hu13, h⟩ := lr_bd h
  refine lr_t_Node_keepWhatFieldsReferTo_2 C n 600 (0 : Int32) t u12 hu13 ?_
  have e := Option.some.inj h
  subst e
  exact lr_vret C E lr_d_Node_keepWhatFieldsReferTo_64
