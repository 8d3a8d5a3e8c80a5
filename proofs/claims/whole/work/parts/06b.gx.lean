def lr_L_Node_slotWith_2 (a0 : Nat) (a1 : Int32) : Nat → Int32 → lr_S → Option ((Int32 × lr_S) ⊕ (Int32 × lr_S))
  | 0, _, _ => none
  | f + 1, x2, t => if (8 : Int32) ≤ x2 then (some (.inr (x2, t))) else (if lr_in x2 8 = true then (if (lr_rd t 7 (8 * a0 + x2.toNatClampNeg) 0) = 0 then (lr_L_Node_slotWith_2 a0 a1 f (x2 + 1) t) else (if (lr_rd t 7 (8 * a0 + x2.toNatClampNeg) 1) = a1 then (some (.inl (x2, t))) else (lr_L_Node_slotWith_2 a0 a1 f (x2 + 1) t))) else none)
set_option maxHeartbeats 4000000 in
theorem lr_t_Node_slotWith_2 {X : lr_X} (C : lr_C X lr_m_Node_slotWith.2.1 lr_R2 lr_m_Node_slotWith.2.2.1 lr_m_Node_slotWith.2.2.2.2.1 lr_m_Node_slotWith.2.2.2.2.2 0 20) (a0 : Nat) (a1 : Int32) : ∀ (f : Nat) (x2 : Int32) (t : lr_S) (o : (Int32 × lr_S) ⊕ (Int32 × lr_S)), lr_L_Node_slotWith_2 a0 a1 f x2 t = some o → (∀ u, o = .inl u → lr_EI X .int u.1 u.2) → (∀ u, o = .inr u → lr_T X 41 [(0, .inr (5, a0)), (1, .inl a1), (2, .inl u.1)] [] u.2) → lr_T X 2 [(0, .inr (5, a0)), (1, .inl a1), (2, .inl x2)] [] t := by
  intro f
  induction f with
  | zero => intro x2 t o h; cases h
  | succ f ih =>
    intro x2 t o h kr kx
    have h := (show (if (8 : Int32) ≤ x2 then (some (.inr (x2, t))) else (if lr_in x2 8 = true then (if (lr_rd t 7 (8 * a0 + x2.toNatClampNeg) 0) = 0 then (lr_L_Node_slotWith_2 a0 a1 f (x2 + 1) t) else (if (lr_rd t 7 (8 * a0 + x2.toNatClampNeg) 1) = a1 then (some (.inl (x2, t))) else (lr_L_Node_slotWith_2 a0 a1 f (x2 + 1) t))) else none)) = some o from h)
    refine lr_iload_n (pc := 2) C lr_d_Node_slotWith_2 rfl 2 rfl ?_
    refine lr_bipush (pc := 3) (v := 8) C lr_d_Node_slotWith_3 (by decide) ?_
    refine lr_icmp_ge (pc := 5) (tgt := 41) C lr_d_Node_slotWith_5 (by decide) (fun hc1 => ?_) (fun hc1 => ?_)
    · have h := lr_ps hc1 h
      refine lr_sub (ls' := [(0, .inr (5, a0)), (1, .inl a1), (2, .inl x2)]) C [0, 1, 2] rfl ?_
      have e := Option.some.inj h
      subst e
      exact kx _ rfl
    · have h := lr_ng hc1 h
      refine lr_aload_n (pc := 8) C lr_d_Node_slotWith_8 rfl 0 rfl ?_
      refine lr_g2_21 (pc := 9) C lr_d_Node_slotWith_9 ?_
      refine lr_iload_n (pc := 12) C lr_d_Node_slotWith_12 rfl 2 rfl ?_
      obtain ⟨hb2, h⟩ := lr_gd h
      refine lr_a6 (pc := 13) C lr_d_Node_slotWith_13 hb2 ?_
      refine lr_g2_65 (pc := 14) C lr_d_Node_slotWith_14 ?_
      refine lr_if_eq (pc := 17) (tgt := 35) C lr_d_Node_slotWith_17 (by decide) (fun hc3 => ?_) (fun hc3 => ?_)
      · have h := lr_ps hc3 h
        refine lr_iinc (pc := 35) (v := (x2 + 1)) (ls' := [(2, .inl (x2 + 1)), (0, .inr (5, a0)), (1, .inl a1)]) C lr_d_Node_slotWith_35 2 rfl rfl (by decide) rfl ?_
        refine lr_goto (pc := 38) (tgt := 2) C lr_d_Node_slotWith_38 (by decide) ?_
        refine lr_sub (ls' := [(0, .inr (5, a0)), (1, .inl a1), (2, .inl (x2 + 1))]) C [1, 2, 0] rfl ?_
        exact ih (x2 + 1) t o h kr kx
      · have h := lr_ng hc3 h
        refine lr_aload_n (pc := 20) C lr_d_Node_slotWith_20 rfl 0 rfl ?_
        refine lr_g2_21 (pc := 21) C lr_d_Node_slotWith_21 ?_
        refine lr_iload_n (pc := 24) C lr_d_Node_slotWith_24 rfl 2 rfl ?_
        refine lr_a6 (pc := 25) C lr_d_Node_slotWith_25 hb2 ?_
        refine lr_g2_68 (pc := 26) C lr_d_Node_slotWith_26 ?_
        refine lr_iload_n (pc := 29) C lr_d_Node_slotWith_29 rfl 1 rfl ?_
        refine lr_icmp_ne (pc := 30) (tgt := 35) C lr_d_Node_slotWith_30 (by decide) (fun hc4 => ?_) (fun hc4 => ?_)
        · have h := lr_ng hc4 h
          refine lr_iinc (pc := 35) (v := (x2 + 1)) (ls' := [(2, .inl (x2 + 1)), (0, .inr (5, a0)), (1, .inl a1)]) C lr_d_Node_slotWith_35 2 rfl rfl (by decide) rfl ?_
          refine lr_goto (pc := 38) (tgt := 2) C lr_d_Node_slotWith_38 (by decide) ?_
          refine lr_sub (ls' := [(0, .inr (5, a0)), (1, .inl a1), (2, .inl (x2 + 1))]) C [1, 2, 0] rfl ?_
          exact ih (x2 + 1) t o h kr kx
        · have h := lr_ps hc4 h
          refine lr_iload_n (pc := 33) C lr_d_Node_slotWith_33 rfl 2 rfl ?_
          have e := Option.some.inj h
          subst e
          exact lr_iret C (kr _ rfl) lr_d_Node_slotWith_34 rfl
def lr_G_Node_slotWith (n : Nat) (a1 : Int32) (t : lr_S) : Option (Int32 × lr_S) := (lr_L_Node_slotWith_2 n a1 600 (0 : Int32) t).bind fun u5 => Sum.elim (fun v7 => some v7) (fun v7 => some ((-1 : Int32), v7.2)) u5
set_option maxHeartbeats 4000000 in
theorem lr_r_Node_slotWith {n : Nat} {a1 : Int32} {t : lr_S} {o : Int32 × lr_S} (h : lr_G_Node_slotWith n a1 t = some o) : lr_RI 0 20 lr_m_Node_slotWith [.inr (5, n), .inl a1] t o.1 o.2 := by
  refine lr_ofI (ty := .int) (own := lr_R2) (by decide) rfl rfl (Nat.le_of_ble_eq_true rfl) (fun X C E => ?_)
  show lr_T X 0 [(0, .inr (5, n)), (1, .inl a1)] [] t
  have h := (show ((lr_L_Node_slotWith_2 n a1 600 (0 : Int32) t).bind fun u5 => Sum.elim (fun v7 => some v7) (fun v7 => some ((-1 : Int32), v7.2)) u5) = some o from h)
  refine lr_iconst (pc := 0) (v := 0) C lr_d_Node_slotWith_0 (by decide) ?_
  refine lr_istore_n (pc := 1) (ls' := [(2, .inl (0 : Int32)), (0, .inr (5, n)), (1, .inl a1)]) C lr_d_Node_slotWith_1 rfl (by decide) rfl ?_
  refine lr_sub (ls' := [(0, .inr (5, n)), (1, .inl a1), (2, .inl (0 : Int32))]) C [1, 2, 0] rfl ?_
  obtain ⟨u5, hu6, h⟩ := lr_bd h
  refine lr_t_Node_slotWith_2 C n a1 600 (0 : Int32) t u5 hu6 (fun v7 e8 => ?_) (fun v7 e8 => ?_)
  · subst e8
    have e := Option.some.inj h
    subst e
    exact E
  · subst e8
    have h := (show (some ((-1 : Int32), v7.2)) = some o from h)
    refine lr_iconst (pc := 41) (v := -1) C lr_d_Node_slotWith_41 (by decide) ?_
    have e := Option.some.inj h
    subst e
    exact lr_iret C E lr_d_Node_slotWith_42 rfl
def lr_G_Node_rootHolds (n : Nat) (a1 : Int32) (a2 : Int32) (t : lr_S) : Option (Int32 × lr_S) := if lr_in a1 3 = true then (if (lr_rd t 11 n a1.toNatClampNeg) = (-1 : Int32) then (if (0 : Int32) = a2 then (some ((1 : Int32), t)) else (some ((0 : Int32), t))) else (if lr_in (lr_rd t 11 n a1.toNatClampNeg) 8 = true then (if (lr_rd t 7 (8 * n + (lr_rd t 11 n a1.toNatClampNeg).toNatClampNeg) 0) = a2 then (some ((1 : Int32), t)) else (some ((0 : Int32), t))) else none)) else none
set_option maxHeartbeats 4000000 in
theorem lr_r_Node_rootHolds {n : Nat} {a1 : Int32} {a2 : Int32} {t : lr_S} {o : Int32 × lr_S} (h : lr_G_Node_rootHolds n a1 a2 t = some o) : lr_RI 0 20 lr_m_Node_rootHolds [.inr (5, n), .inl a1, .inl a2] t o.1 o.2 := by
  refine lr_ofI (ty := .boolean) (own := lr_R2) (by decide) rfl rfl (Nat.le_of_ble_eq_true rfl) (fun X C E => ?_)
  show lr_T X 0 [(0, .inr (5, n)), (1, .inl a1), (2, .inl a2)] [] t
  have h := (show (if lr_in a1 3 = true then (if (lr_rd t 11 n a1.toNatClampNeg) = (-1 : Int32) then (if (0 : Int32) = a2 then (some ((1 : Int32), t)) else (some ((0 : Int32), t))) else (if lr_in (lr_rd t 11 n a1.toNatClampNeg) 8 = true then (if (lr_rd t 7 (8 * n + (lr_rd t 11 n a1.toNatClampNeg).toNatClampNeg) 0) = a2 then (some ((1 : Int32), t)) else (some ((0 : Int32), t))) else none)) else none) = some o from h)
  refine lr_aload_n (pc := 0) C lr_d_Node_rootHolds_0 rfl 0 rfl ?_
  refine lr_g2_26 (pc := 1) C lr_d_Node_rootHolds_1 ?_
  refine lr_iload_n (pc := 4) C lr_d_Node_rootHolds_4 rfl 1 rfl ?_
  obtain ⟨hb1, h⟩ := lr_gd h
  refine lr_li11 (pc := 5) C lr_d_Node_rootHolds_5 hb1 ?_
  refine lr_istore_n (pc := 6) (ls' := [(3, .inl (lr_rd t 11 n a1.toNatClampNeg)), (0, .inr (5, n)), (1, .inl a1), (2, .inl a2)]) C lr_d_Node_rootHolds_6 rfl (by decide) rfl ?_
  refine lr_iload_n (pc := 7) C lr_d_Node_rootHolds_7 rfl 0 rfl ?_
  refine lr_iconst (pc := 8) (v := -1) C lr_d_Node_rootHolds_8 (by decide) ?_
  refine lr_icmp_ne (pc := 9) (tgt := 16) C lr_d_Node_rootHolds_9 (by decide) (fun hc2 => ?_) (fun hc2 => ?_)
  · have h := lr_ng hc2 h
    refine lr_aload_n (pc := 16) C lr_d_Node_rootHolds_16 rfl 1 rfl ?_
    refine lr_g2_21 (pc := 17) C lr_d_Node_rootHolds_17 ?_
    refine lr_iload_n (pc := 20) C lr_d_Node_rootHolds_20 rfl 0 rfl ?_
    obtain ⟨hb3, h⟩ := lr_gd h
    refine lr_a6 (pc := 21) C lr_d_Node_rootHolds_21 hb3 ?_
    refine lr_g2_65 (pc := 22) C lr_d_Node_rootHolds_22 ?_
    refine lr_iload_n (pc := 25) C lr_d_Node_rootHolds_25 rfl 3 rfl ?_
    refine lr_icmp_ne (pc := 26) (tgt := 33) C lr_d_Node_rootHolds_26 (by decide) (fun hc4 => ?_) (fun hc4 => ?_)
    · have h := lr_ng hc4 h
      refine lr_iconst (pc := 33) (v := 0) C lr_d_Node_rootHolds_33 (by decide) ?_
      have e := Option.some.inj h
      subst e
      exact lr_iret C E lr_d_Node_rootHolds_34 (by decide)
    · have h := lr_ps hc4 h
      refine lr_iconst (pc := 29) (v := 1) C lr_d_Node_rootHolds_29 (by decide) ?_
      refine lr_goto (pc := 30) (tgt := 34) C lr_d_Node_rootHolds_30 (by decide) ?_
      have e := Option.some.inj h
      subst e
      exact lr_iret C E lr_d_Node_rootHolds_34 (by decide)
  · have h := lr_ps hc2 h
    refine lr_iconst (pc := 12) (v := 0) C lr_d_Node_rootHolds_12 (by decide) ?_
    refine lr_goto (pc := 13) (tgt := 25) C lr_d_Node_rootHolds_13 (by decide) ?_
    refine lr_iload_n (pc := 25) C lr_d_Node_rootHolds_25 rfl 3 rfl ?_
    refine lr_icmp_ne (pc := 26) (tgt := 33) C lr_d_Node_rootHolds_26 (by decide) (fun hc5 => ?_) (fun hc5 => ?_)
    · have h := lr_ng hc5 h
      refine lr_iconst (pc := 33) (v := 0) C lr_d_Node_rootHolds_33 (by decide) ?_
      have e := Option.some.inj h
      subst e
      exact lr_iret C E lr_d_Node_rootHolds_34 (by decide)
    · have h := lr_ps hc5 h
      refine lr_iconst (pc := 29) (v := 1) C lr_d_Node_rootHolds_29 (by decide) ?_
      refine lr_goto (pc := 30) (tgt := 34) C lr_d_Node_rootHolds_30 (by decide) ?_
      have e := Option.some.inj h
      subst e
      exact lr_iret C E lr_d_Node_rootHolds_34 (by decide)
def lr_G_Slot_state (n : Nat) (a1 : Int32) (t : lr_S) : Option (Int32 × lr_S) := if a1 < (lr_rd t 7 n 9) then (if (lr_rd t 7 n 10) = 0 then (some ((0 : Int32), t)) else (some ((1 : Int32), t))) else (some ((2 : Int32), t))
set_option maxHeartbeats 4000000 in
theorem lr_r_Slot_state {n : Nat} {a1 : Int32} {t : lr_S} {o : Int32 × lr_S} (h : lr_G_Slot_state n a1 t = some o) : lr_RI 0 20 lr_m_Slot_state [.inr (7, n), .inl a1] t o.1 o.2 := by
  refine lr_ofI (ty := .int) (own := lr_R5) (by decide) rfl rfl (Nat.le_of_ble_eq_true rfl) (fun X C E => ?_)
  show lr_T X 0 [(0, .inr (7, n)), (1, .inl a1)] [] t
  have h := (show (if a1 < (lr_rd t 7 n 9) then (if (lr_rd t 7 n 10) = 0 then (some ((0 : Int32), t)) else (some ((1 : Int32), t))) else (some ((2 : Int32), t))) = some o from h)
  refine lr_iload_n (pc := 0) C lr_d_Slot_state_0 rfl 1 rfl ?_
  refine lr_aload_n (pc := 1) C lr_d_Slot_state_1 rfl 0 rfl ?_
  refine lr_g5_34 (pc := 2) C lr_d_Slot_state_2 ?_
  refine lr_icmp_lt (pc := 5) (tgt := 10) C lr_d_Slot_state_5 (by decide) (fun hc1 => ?_) (fun hc1 => ?_)
  · have h := lr_ps hc1 h
    refine lr_aload_n (pc := 10) C lr_d_Slot_state_10 rfl 0 rfl ?_
    refine lr_g5_37 (pc := 11) C lr_d_Slot_state_11 ?_
    refine lr_if_eq (pc := 14) (tgt := 21) C lr_d_Slot_state_14 (by decide) (fun hc2 => ?_) (fun hc2 => ?_)
    · have h := lr_ps hc2 h
      refine lr_iconst (pc := 21) (v := 0) C lr_d_Slot_state_21 (by decide) ?_
      have e := Option.some.inj h
      subst e
      exact lr_iret C E lr_d_Slot_state_22 rfl
    · have h := lr_ng hc2 h
      refine lr_iconst (pc := 17) (v := 1) C lr_d_Slot_state_17 (by decide) ?_
      refine lr_goto (pc := 18) (tgt := 22) C lr_d_Slot_state_18 (by decide) ?_
      have e := Option.some.inj h
      subst e
      exact lr_iret C E lr_d_Slot_state_22 rfl
  · have h := lr_ng hc1 h
    refine lr_iconst (pc := 8) (v := 2) C lr_d_Slot_state_8 (by decide) ?_
    have e := Option.some.inj h
    subst e
    exact lr_iret C E lr_d_Slot_state_9 rfl
def lr_G_Node_rootIsGood (n : Nat) (a1 : Int32) (t : lr_S) : Option (Int32 × lr_S) := if lr_in a1 3 = true then (if (lr_rd t 11 n a1.toNatClampNeg) = (-1 : Int32) then (some ((0 : Int32), t)) else (if lr_in (lr_rd t 11 n a1.toNatClampNeg) 8 = true then (if (lr_rd t 7 (8 * n + (lr_rd t 11 n a1.toNatClampNeg).toNatClampNeg) 0) = (2 : Int32) then ((lr_G_Slot_state (8 * n + (lr_rd t 11 n a1.toNatClampNeg).toNatClampNeg) (lr_rd t 1 0 0) t).bind fun u5 => (if u5.1 = (1 : Int32) then (some ((1 : Int32), u5.2)) else (some ((0 : Int32), u5.2)))) else (some ((0 : Int32), t))) else none)) else none
set_option maxHeartbeats 4000000 in
theorem lr_r_Node_rootIsGood {n : Nat} {a1 : Int32} {t : lr_S} {o : Int32 × lr_S} (h : lr_G_Node_rootIsGood n a1 t = some o) : lr_RI 0 20 lr_m_Node_rootIsGood [.inr (5, n), .inl a1] t o.1 o.2 := by
  refine lr_ofI (ty := .boolean) (own := lr_R2) (by decide) rfl rfl (Nat.le_of_ble_eq_true rfl) (fun X C E => ?_)
  show lr_T X 0 [(0, .inr (5, n)), (1, .inl a1)] [] t
  have h := (show (if lr_in a1 3 = true then (if (lr_rd t 11 n a1.toNatClampNeg) = (-1 : Int32) then (some ((0 : Int32), t)) else (if lr_in (lr_rd t 11 n a1.toNatClampNeg) 8 = true then (if (lr_rd t 7 (8 * n + (lr_rd t 11 n a1.toNatClampNeg).toNatClampNeg) 0) = (2 : Int32) then ((lr_G_Slot_state (8 * n + (lr_rd t 11 n a1.toNatClampNeg).toNatClampNeg) (lr_rd t 1 0 0) t).bind fun u5 => (if u5.1 = (1 : Int32) then (some ((1 : Int32), u5.2)) else (some ((0 : Int32), u5.2)))) else (some ((0 : Int32), t))) else none)) else none) = some o from h)
  refine lr_aload_n (pc := 0) C lr_d_Node_rootIsGood_0 rfl 0 rfl ?_
  refine lr_g2_26 (pc := 1) C lr_d_Node_rootIsGood_1 ?_
  refine lr_iload_n (pc := 4) C lr_d_Node_rootIsGood_4 rfl 1 rfl ?_
  obtain ⟨hb1, h⟩ := lr_gd h
  refine lr_li11 (pc := 5) C lr_d_Node_rootIsGood_5 hb1 ?_
  refine lr_istore_n (pc := 6) (ls' := [(2, .inl (lr_rd t 11 n a1.toNatClampNeg)), (0, .inr (5, n)), (1, .inl a1)]) C lr_d_Node_rootIsGood_6 rfl (by decide) rfl ?_
  refine lr_iload_n (pc := 7) C lr_d_Node_rootIsGood_7 rfl 0 rfl ?_
  refine lr_iconst (pc := 8) (v := -1) C lr_d_Node_rootIsGood_8 (by decide) ?_
  refine lr_icmp_eq (pc := 9) (tgt := 49) C lr_d_Node_rootIsGood_9 (by decide) (fun hc2 => ?_) (fun hc2 => ?_)
  · have h := lr_ps hc2 h
    refine lr_iconst (pc := 49) (v := 0) C lr_d_Node_rootIsGood_49 (by decide) ?_
    have e := Option.some.inj h
    subst e
    exact lr_iret C E lr_d_Node_rootIsGood_50 (by decide)
  · have h := lr_ng hc2 h
    refine lr_aload_n (pc := 12) C lr_d_Node_rootIsGood_12 rfl 1 rfl ?_
    refine lr_g2_21 (pc := 13) C lr_d_Node_rootIsGood_13 ?_
    refine lr_iload_n (pc := 16) C lr_d_Node_rootIsGood_16 rfl 0 rfl ?_
    obtain ⟨hb3, h⟩ := lr_gd h
    refine lr_a6 (pc := 17) C lr_d_Node_rootIsGood_17 hb3 ?_
    refine lr_g2_65 (pc := 18) C lr_d_Node_rootIsGood_18 ?_
    refine lr_iconst (pc := 21) (v := 2) C lr_d_Node_rootIsGood_21 (by decide) ?_
    refine lr_icmp_ne (pc := 22) (tgt := 49) C lr_d_Node_rootIsGood_22 (by decide) (fun hc4 => ?_) (fun hc4 => ?_)
    · have h := lr_ng hc4 h
      refine lr_iconst (pc := 49) (v := 0) C lr_d_Node_rootIsGood_49 (by decide) ?_
      have e := Option.some.inj h
      subst e
      exact lr_iret C E lr_d_Node_rootIsGood_50 (by decide)
    · have h := lr_ps hc4 h
      refine lr_aload_n (pc := 25) C lr_d_Node_rootIsGood_25 rfl 1 rfl ?_
      refine lr_g2_21 (pc := 26) C lr_d_Node_rootIsGood_26 ?_
      refine lr_iload_n (pc := 29) C lr_d_Node_rootIsGood_29 rfl 0 rfl ?_
      refine lr_a6 (pc := 30) C lr_d_Node_rootIsGood_30 hb3 ?_
      refine lr_aload_n (pc := 31) C lr_d_Node_rootIsGood_31 rfl 1 rfl ?_
      refine lr_g2_15 (pc := 32) C lr_d_Node_rootIsGood_32 ?_
      refine lr_g2_71 (pc := 35) C lr_d_Node_rootIsGood_35 ?_
      obtain ⟨u5, hu6, h⟩ := lr_bd h
      refine lr_callVi (pc := 38) (as := [.inl (lr_rd t 1 0 0)]) (st := []) (fs := fun ad => lr_fs5 t (8 * n + (lr_rd t 11 n a1.toNatClampNeg).toNatClampNeg) ad) C (lr_r_Slot_state hu6) lr_c2_76 lr_d_Node_rootIsGood_38 rfl rfl (fun _ _ => rfl) (ci := 5) rfl rfl ⟨by decide, by decide⟩ (Nat.le_of_ble_eq_true rfl) ?_
      refine lr_iconst (pc := 41) (v := 1) C lr_d_Node_rootIsGood_41 (by decide) ?_
      refine lr_icmp_ne (pc := 42) (tgt := 49) C lr_d_Node_rootIsGood_42 (by decide) (fun hc7 => ?_) (fun hc7 => ?_)
      · have h := lr_ng hc7 h
        refine lr_iconst (pc := 49) (v := 0) C lr_d_Node_rootIsGood_49 (by decide) ?_
        have e := Option.some.inj h
        subst e
        exact lr_iret C E lr_d_Node_rootIsGood_50 (by decide)
      · have h := lr_ps hc7 h
        refine lr_iconst (pc := 45) (v := 1) C lr_d_Node_rootIsGood_45 (by decide) ?_
        refine lr_goto (pc := 46) (tgt := 50) C lr_d_Node_rootIsGood_46 (by decide) ?_
        have e := Option.some.inj h
        subst e
        exact lr_iret C E lr_d_Node_rootIsGood_50 (by decide)
def lr_G_Node_isLive (n : Nat) (a1 : Nat) (t : lr_S) : Option (Int32 × lr_S) := if (lr_rd t 13 a1 2) ≤ (lr_rd t 1 0 0) then (some ((0 : Int32), t)) else (some ((1 : Int32), t))
set_option maxHeartbeats 4000000 in
theorem lr_r_Node_isLive {n : Nat} {a1 : Nat} {t : lr_S} {o : Int32 × lr_S} (h : lr_G_Node_isLive n a1 t = some o) : lr_RI 0 20 lr_m_Node_isLive [.inr (5, n), .inr (13, a1)] t o.1 o.2 := by
  refine lr_ofI (ty := .boolean) (own := lr_R2) (by decide) rfl rfl (Nat.le_of_ble_eq_true rfl) (fun X C E => ?_)
  show lr_T X 0 [(0, .inr (5, n)), (1, .inr (13, a1))] [] t
  have h := (show (if (lr_rd t 13 a1 2) ≤ (lr_rd t 1 0 0) then (some ((0 : Int32), t)) else (some ((1 : Int32), t))) = some o from h)
  refine lr_aload_n (pc := 0) C lr_d_Node_isLive_0 rfl 0 rfl ?_
  refine lr_g2_15 (pc := 1) C lr_d_Node_isLive_1 ?_
  refine lr_g2_71 (pc := 4) C lr_d_Node_isLive_4 ?_
  refine lr_aload_n (pc := 7) C lr_d_Node_isLive_7 rfl 1 rfl ?_
  refine lr_g2_79 (pc := 8) C lr_d_Node_isLive_8 ?_
  refine lr_icmp_ge (pc := 11) (tgt := 18) C lr_d_Node_isLive_11 (by decide) (fun hc1 => ?_) (fun hc1 => ?_)
  · have h := lr_ps hc1 h
    refine lr_iconst (pc := 18) (v := 0) C lr_d_Node_isLive_18 (by decide) ?_
    have e := Option.some.inj h
    subst e
    exact lr_iret C E lr_d_Node_isLive_19 (by decide)
  · have h := lr_ng hc1 h
    refine lr_iconst (pc := 14) (v := 1) C lr_d_Node_isLive_14 (by decide) ?_
    refine lr_goto (pc := 15) (tgt := 19) C lr_d_Node_isLive_15 (by decide) ?_
    have e := Option.some.inj h
    subst e
    exact lr_iret C E lr_d_Node_isLive_19 (by decide)
def lr_L_Node_livePins_4 (a0 : Nat) : Nat → Int32 → Int32 → lr_S → Option (Int32 × Int32 × lr_S)
  | 0, _, _, _ => none
  | f + 1, x1, x2, t => if (6 : Int32) ≤ x2 then (some (x1, x2, t)) else (if lr_in x2 6 = true then ((lr_G_Node_isLive a0 (6 * a0 + x2.toNatClampNeg) t).bind fun u3 => (if u3.1 = 0 then (lr_L_Node_livePins_4 a0 f x1 (x2 + 1) u3.2) else (lr_L_Node_livePins_4 a0 f (x1 + 1) (x2 + 1) u3.2))) else none)
set_option maxHeartbeats 4000000 in
theorem lr_t_Node_livePins_4 {X : lr_X} (C : lr_C X lr_m_Node_livePins.2.1 lr_R2 lr_m_Node_livePins.2.2.1 lr_m_Node_livePins.2.2.2.2.1 lr_m_Node_livePins.2.2.2.2.2 0 20) (a0 : Nat) : ∀ (f : Nat) (x1 : Int32) (x2 : Int32) (t : lr_S) (o : Int32 × Int32 × lr_S), lr_L_Node_livePins_4 a0 f x1 x2 t = some o → (lr_T X 32 [(0, .inr (5, a0)), (1, .inl o.1), (2, .inl o.2.1)] [] o.2.2) → lr_T X 4 [(0, .inr (5, a0)), (1, .inl x1), (2, .inl x2)] [] t := by
  intro f
  induction f with
  | zero => intro x1 x2 t o h; cases h
  | succ f ih =>
    intro x1 x2 t o h kx
    have h := (show (if (6 : Int32) ≤ x2 then (some (x1, x2, t)) else (if lr_in x2 6 = true then ((lr_G_Node_isLive a0 (6 * a0 + x2.toNatClampNeg) t).bind fun u3 => (if u3.1 = 0 then (lr_L_Node_livePins_4 a0 f x1 (x2 + 1) u3.2) else (lr_L_Node_livePins_4 a0 f (x1 + 1) (x2 + 1) u3.2))) else none)) = some o from h)
    refine lr_iload_n (pc := 4) C lr_d_Node_livePins_4 rfl 2 rfl ?_
    refine lr_bipush (pc := 5) (v := 6) C lr_d_Node_livePins_5 (by decide) ?_
    refine lr_icmp_ge (pc := 7) (tgt := 32) C lr_d_Node_livePins_7 (by decide) (fun hc1 => ?_) (fun hc1 => ?_)
    · have h := lr_ps hc1 h
      refine lr_sub (ls' := [(0, .inr (5, a0)), (1, .inl x1), (2, .inl x2)]) C [0, 1, 2] rfl ?_
      have e := Option.some.inj h
      subst e
      exact kx
    · have h := lr_ng hc1 h
      refine lr_aload_n (pc := 10) C lr_d_Node_livePins_10 rfl 0 rfl ?_
      refine lr_aload_n (pc := 11) C lr_d_Node_livePins_11 rfl 0 rfl ?_
      refine lr_g2_32 (pc := 12) C lr_d_Node_livePins_12 ?_
      refine lr_iload_n (pc := 15) C lr_d_Node_livePins_15 rfl 2 rfl ?_
      obtain ⟨hb2, h⟩ := lr_gd h
      refine lr_a12 (pc := 16) C lr_d_Node_livePins_16 hb2 ?_
      obtain ⟨u3, hu4, h⟩ := lr_bd h
      refine lr_callVi (pc := 17) (as := [.inr (13, (6 * a0 + x2.toNatClampNeg))]) (st := []) (fs := fun ad => lr_fs2 t a0 ad) C (lr_r_Node_isLive hu4) lr_c2_82 lr_d_Node_livePins_17 rfl rfl (fun _ _ => rfl) (ci := 2) rfl rfl ⟨by decide, by decide⟩ (Nat.le_of_ble_eq_true rfl) ?_
      refine lr_if_eq (pc := 20) (tgt := 26) C lr_d_Node_livePins_20 (by decide) (fun hc5 => ?_) (fun hc5 => ?_)
      · have h := lr_ps hc5 h
        refine lr_iinc (pc := 26) (v := (x2 + 1)) (ls' := [(2, .inl (x2 + 1)), (0, .inr (5, a0)), (1, .inl x1)]) C lr_d_Node_livePins_26 2 rfl rfl (by decide) rfl ?_
        refine lr_goto (pc := 29) (tgt := 4) C lr_d_Node_livePins_29 (by decide) ?_
        refine lr_sub (ls' := [(0, .inr (5, a0)), (1, .inl x1), (2, .inl (x2 + 1))]) C [1, 2, 0] rfl ?_
        exact ih x1 (x2 + 1) u3.2 o h kx
      · have h := lr_ng hc5 h
        refine lr_iinc (pc := 23) (v := (x1 + 1)) (ls' := [(1, .inl (x1 + 1)), (0, .inr (5, a0)), (2, .inl x2)]) C lr_d_Node_livePins_23 1 rfl rfl (by decide) rfl ?_
        refine lr_iinc (pc := 26) (v := (x2 + 1)) (ls' := [(2, .inl (x2 + 1)), (1, .inl (x1 + 1)), (0, .inr (5, a0))]) C lr_d_Node_livePins_26 2 rfl rfl (by decide) rfl ?_
        refine lr_goto (pc := 29) (tgt := 4) C lr_d_Node_livePins_29 (by decide) ?_
        refine lr_sub (ls' := [(0, .inr (5, a0)), (1, .inl (x1 + 1)), (2, .inl (x2 + 1))]) C [2, 1, 0] rfl ?_
        exact ih (x1 + 1) (x2 + 1) u3.2 o h kx
def lr_G_Node_livePins (n : Nat) (t : lr_S) : Option (Int32 × lr_S) := (lr_L_Node_livePins_4 n 600 (0 : Int32) (0 : Int32) t).bind fun u6 => (some (u6.1, u6.2.2))
set_option maxHeartbeats 4000000 in
theorem lr_r_Node_livePins {n : Nat} {t : lr_S} {o : Int32 × lr_S} (h : lr_G_Node_livePins n t = some o) : lr_RI 0 20 lr_m_Node_livePins [.inr (5, n)] t o.1 o.2 := by
  refine lr_ofI (ty := .int) (own := lr_R2) (by decide) rfl rfl (Nat.le_of_ble_eq_true rfl) (fun X C E => ?_)
  show lr_T X 0 [(0, .inr (5, n))] [] t
  have h := (show ((lr_L_Node_livePins_4 n 600 (0 : Int32) (0 : Int32) t).bind fun u6 => (some (u6.1, u6.2.2))) = some o from h)
  refine lr_iconst (pc := 0) (v := 0) C lr_d_Node_livePins_0 (by decide) ?_
  refine lr_istore_n (pc := 1) (ls' := [(1, .inl (0 : Int32)), (0, .inr (5, n))]) C lr_d_Node_livePins_1 rfl (by decide) rfl ?_
  refine lr_iconst (pc := 2) (v := 0) C lr_d_Node_livePins_2 (by decide) ?_
  refine lr_istore_n (pc := 3) (ls' := [(2, .inl (0 : Int32)), (1, .inl (0 : Int32)), (0, .inr (5, n))]) C lr_d_Node_livePins_3 rfl (by decide) rfl ?_
  refine lr_sub (ls' := [(0, .inr (5, n)), (1, .inl (0 : Int32)), (2, .inl (0 : Int32))]) C [2, 1, 0] rfl ?_
  obtain ⟨u6, hu7, h⟩ := lr_bd h
  refine lr_t_Node_livePins_4 C n 600 (0 : Int32) (0 : Int32) t u6 hu7 ?_
  refine lr_iload_n (pc := 32) C lr_d_Node_livePins_32 rfl 1 rfl ?_
  have e := Option.some.inj h
  subst e
  exact lr_iret C E lr_d_Node_livePins_33 rfl
def lr_L_Node_pinDown_2 (a0 : Nat) (a1 : Int32) (a2 : Int32) : Nat → Int32 → lr_S → Option ((lr_S) ⊕ (Int32 × lr_S))
  | 0, _, _ => none
  | f + 1, x3, t => if (6 : Int32) ≤ x3 then (some (.inr (x3, t))) else (if lr_in x3 6 = true then ((lr_G_Node_isLive a0 (6 * a0 + x3.toNatClampNeg) t).bind fun u3 => (if u3.1 = 0 then ((some (lr_wr (lr_wr u3.2 13 (6 * a0 + x3.toNatClampNeg) 0 a2) 13 (6 * a0 + x3.toNatClampNeg) 1 a1)).bind fun t6 => (some (.inl (lr_wr t6 13 (6 * a0 + x3.toNatClampNeg) 2 ((lr_rd t6 1 0 0) + (24 : Int32)))))) else (lr_L_Node_pinDown_2 a0 a1 a2 f (x3 + 1) u3.2))) else none)
set_option maxHeartbeats 4000000 in
theorem lr_t_Node_pinDown_2 {X : lr_X} (C : lr_C X lr_m_Node_pinDown.2.1 lr_R2 lr_m_Node_pinDown.2.2.1 lr_m_Node_pinDown.2.2.2.2.1 lr_m_Node_pinDown.2.2.2.2.2 0 20) (a0 : Nat) (a1 : Int32) (a2 : Int32) : ∀ (f : Nat) (x3 : Int32) (t : lr_S) (o : (lr_S) ⊕ (Int32 × lr_S)), lr_L_Node_pinDown_2 a0 a1 a2 f x3 t = some o → (∀ u, o = .inl u → lr_EV X u) → (∀ u, o = .inr u → lr_T X 59 [(0, .inr (5, a0)), (1, .inl a1), (2, .inl a2), (3, .inl u.1)] [] u.2) → lr_T X 2 [(0, .inr (5, a0)), (1, .inl a1), (2, .inl a2), (3, .inl x3)] [] t := by
  intro f
  induction f with
  | zero => intro x3 t o h; cases h
  | succ f ih =>
    intro x3 t o h kr kx
    have h := (show (if (6 : Int32) ≤ x3 then (some (.inr (x3, t))) else (if lr_in x3 6 = true then ((lr_G_Node_isLive a0 (6 * a0 + x3.toNatClampNeg) t).bind fun u3 => (if u3.1 = 0 then ((some (lr_wr (lr_wr u3.2 13 (6 * a0 + x3.toNatClampNeg) 0 a2) 13 (6 * a0 + x3.toNatClampNeg) 1 a1)).bind fun t6 => (some (.inl (lr_wr t6 13 (6 * a0 + x3.toNatClampNeg) 2 ((lr_rd t6 1 0 0) + (24 : Int32)))))) else (lr_L_Node_pinDown_2 a0 a1 a2 f (x3 + 1) u3.2))) else none)) = some o from h)
    refine lr_iload_n (pc := 2) C lr_d_Node_pinDown_2 rfl 3 rfl ?_
    refine lr_bipush (pc := 3) (v := 6) C lr_d_Node_pinDown_3 (by decide) ?_
    refine lr_icmp_ge (pc := 5) (tgt := 59) C lr_d_Node_pinDown_5 (by decide) (fun hc1 => ?_) (fun hc1 => ?_)
    · have h := lr_ps hc1 h
      refine lr_sub (ls' := [(0, .inr (5, a0)), (1, .inl a1), (2, .inl a2), (3, .inl x3)]) C [0, 1, 2, 3] rfl ?_
      have e := Option.some.inj h
      subst e
      exact kx _ rfl
    · have h := lr_ng hc1 h
      refine lr_aload_n (pc := 8) C lr_d_Node_pinDown_8 rfl 0 rfl ?_
      refine lr_g2_32 (pc := 9) C lr_d_Node_pinDown_9 ?_
      refine lr_iload_n (pc := 12) C lr_d_Node_pinDown_12 rfl 3 rfl ?_
      obtain ⟨hb2, h⟩ := lr_gd h
      refine lr_a12 (pc := 13) C lr_d_Node_pinDown_13 hb2 ?_
      refine lr_astore (pc := 14) (ls' := [(4, .inr (13, (6 * a0 + x3.toNatClampNeg))), (0, .inr (5, a0)), (1, .inl a1), (2, .inl a2), (3, .inl x3)]) C lr_d_Node_pinDown_14 (by decide) rfl ?_
      refine lr_aload_n (pc := 16) C lr_d_Node_pinDown_16 rfl 1 rfl ?_
      refine lr_aload (pc := 17) C lr_d_Node_pinDown_17 0 rfl ?_
      obtain ⟨u3, hu4, h⟩ := lr_bd h
      refine lr_callVi (pc := 19) (as := [.inr (13, (6 * a0 + x3.toNatClampNeg))]) (st := []) (fs := fun ad => lr_fs2 t a0 ad) C (lr_r_Node_isLive hu4) lr_c2_82 lr_d_Node_pinDown_19 rfl rfl (fun _ _ => rfl) (ci := 2) rfl rfl ⟨by decide, by decide⟩ (Nat.le_of_ble_eq_true rfl) ?_
      refine lr_if_ne (pc := 22) (tgt := 53) C lr_d_Node_pinDown_22 (by decide) (fun hc5 => ?_) (fun hc5 => ?_)
      · have h := lr_ng hc5 h
        refine lr_iinc (pc := 53) (v := (x3 + 1)) (ls' := [(3, .inl (x3 + 1)), (4, .inr (13, (6 * a0 + x3.toNatClampNeg))), (0, .inr (5, a0)), (1, .inl a1), (2, .inl a2)]) C lr_d_Node_pinDown_53 4 rfl rfl (by decide) rfl ?_
        refine lr_goto (pc := 56) (tgt := 2) C lr_d_Node_pinDown_56 (by decide) ?_
        refine lr_sub (ls' := [(0, .inr (5, a0)), (1, .inl a1), (2, .inl a2), (3, .inl (x3 + 1))]) C [2, 3, 4, 0] rfl ?_
        exact ih (x3 + 1) u3.2 o h kr kx
      · have h := lr_ps hc5 h
        refine lr_aload (pc := 25) C lr_d_Node_pinDown_25 0 rfl ?_
        refine lr_iload_n (pc := 27) C lr_d_Node_pinDown_27 rfl 3 rfl ?_
        refine lr_p2_97 (pc := 28) C lr_d_Node_pinDown_28 ?_
        refine lr_aload (pc := 31) C lr_d_Node_pinDown_31 0 rfl ?_
        refine lr_iload_n (pc := 33) C lr_d_Node_pinDown_33 rfl 2 rfl ?_
        refine lr_p2_98 (pc := 34) C lr_d_Node_pinDown_34 ?_
        obtain ⟨t6, ht7, h⟩ := lr_bd h
        rw [Option.some.inj ht7]
        refine lr_aload (pc := 37) C lr_d_Node_pinDown_37 0 rfl ?_
        refine lr_aload_n (pc := 39) C lr_d_Node_pinDown_39 rfl 1 rfl ?_
        refine lr_g2_15 (pc := 40) C lr_d_Node_pinDown_40 ?_
        refine lr_g2_71 (pc := 43) C lr_d_Node_pinDown_43 ?_
        refine lr_bipush (pc := 46) (v := 24) C lr_d_Node_pinDown_46 (by decide) ?_
        refine lr_iadd (pc := 48) C lr_d_Node_pinDown_48 ?_
        refine lr_p2_79 (pc := 49) C lr_d_Node_pinDown_49 ?_
        have e := Option.some.inj h
        subst e
        exact lr_vret C (kr _ rfl) lr_d_Node_pinDown_52
def lr_G_Node_pinDown (n : Nat) (a1 : Int32) (a2 : Int32) (t : lr_S) : Option (lr_S) := (lr_L_Node_pinDown_2 n a1 a2 600 (0 : Int32) t).bind fun u8 => Sum.elim (fun v10 => some v10) (fun v10 => some v10.2) u8
set_option maxHeartbeats 4000000 in
theorem lr_r_Node_pinDown {n : Nat} {a1 : Int32} {a2 : Int32} {t o : lr_S} (h : lr_G_Node_pinDown n a1 a2 t = some o) : lr_RV 0 20 lr_m_Node_pinDown [.inr (5, n), .inl a1, .inl a2] t o := by
  refine lr_ofV (own := lr_R2) (by decide) rfl rfl (Nat.le_of_ble_eq_true rfl) (fun X C E => ?_)
  show lr_T X 0 [(0, .inr (5, n)), (1, .inl a1), (2, .inl a2)] [] t
  have h := (show ((lr_L_Node_pinDown_2 n a1 a2 600 (0 : Int32) t).bind fun u8 => Sum.elim (fun v10 => some v10) (fun v10 => some v10.2) u8) = some o from h)
  refine lr_iconst (pc := 0) (v := 0) C lr_d_Node_pinDown_0 (by decide) ?_
  refine lr_istore_n (pc := 1) (ls' := [(3, .inl (0 : Int32)), (0, .inr (5, n)), (1, .inl a1), (2, .inl a2)]) C lr_d_Node_pinDown_1 rfl (by decide) rfl ?_
  refine lr_sub (ls' := [(0, .inr (5, n)), (1, .inl a1), (2, .inl a2), (3, .inl (0 : Int32))]) C [1, 2, 3, 0] rfl ?_
  obtain ⟨u8, hu9, h⟩ := lr_bd h
  refine lr_t_Node_pinDown_2 C n a1 a2 600 (0 : Int32) t u8 hu9 (fun v10 e11 => ?_) (fun v10 e11 => ?_)
  · subst e11
    have e := Option.some.inj h
    subst e
    exact E
  · subst e11
    have h := (show (some v10.2) = some o from h)
    have e := Option.some.inj h
    subst e
    exact lr_vret C E lr_d_Node_pinDown_59
