def lr_L_Node_sendWhatIsDue_10 (a0 : Nat) : Nat → Int32 → lr_S → Option (Int32 × lr_S)
  | 0, _, _ => none
  | f + 1, x1, t => if (8 : Int32) ≤ x1 then (some (x1, t)) else (if lr_in x1 8 = true then ((lr_G_Slot_isFreshSurrogate (8 * a0 + x1.toNatClampNeg) (lr_rd t 1 0 0) t).bind fun u4 => (if u4.1 = 0 then (lr_L_Node_sendWhatIsDue_10 a0 f (x1 + 1) u4.2) else (if ((lr_rd u4.2 1 0 0) - (lr_rd u4.2 7 (8 * a0 + x1.toNatClampNeg) 8)) < (6 : Int32) then (lr_L_Node_sendWhatIsDue_10 a0 f (x1 + 1) u4.2) else ((lr_G_Node_sendDirty a0 (8 * a0 + x1.toNatClampNeg) u4.2).bind fun u8 => (lr_L_Node_sendWhatIsDue_10 a0 f (x1 + 1) u8))))) else none)
set_option maxHeartbeats 4000000 in
theorem lr_t_Node_sendWhatIsDue_10 {X : lr_X} (C : lr_C X lr_m_Node_sendWhatIsDue.2.1 lr_R2 lr_m_Node_sendWhatIsDue.2.2.1 lr_m_Node_sendWhatIsDue.2.2.2.2.1 lr_m_Node_sendWhatIsDue.2.2.2.2.2 0 20) (a0 : Nat) : ∀ (f : Nat) (x1 : Int32) (t : lr_S) (o : Int32 × lr_S), lr_L_Node_sendWhatIsDue_10 a0 f x1 t = some o → (lr_T X 65 [(0, .inr (5, a0)), (1, .inl o.1)] [] o.2) → lr_T X 10 [(0, .inr (5, a0)), (1, .inl x1)] [] t := by
  intro f
  induction f with
  | zero => intro x1 t o h; cases h
  | succ f ih =>
    intro x1 t o h kx
    have h := (show (if (8 : Int32) ≤ x1 then (some (x1, t)) else (if lr_in x1 8 = true then ((lr_G_Slot_isFreshSurrogate (8 * a0 + x1.toNatClampNeg) (lr_rd t 1 0 0) t).bind fun u4 => (if u4.1 = 0 then (lr_L_Node_sendWhatIsDue_10 a0 f (x1 + 1) u4.2) else (if ((lr_rd u4.2 1 0 0) - (lr_rd u4.2 7 (8 * a0 + x1.toNatClampNeg) 8)) < (6 : Int32) then (lr_L_Node_sendWhatIsDue_10 a0 f (x1 + 1) u4.2) else ((lr_G_Node_sendDirty a0 (8 * a0 + x1.toNatClampNeg) u4.2).bind fun u8 => (lr_L_Node_sendWhatIsDue_10 a0 f (x1 + 1) u8))))) else none)) = some o from h)
    refine lr_iload_n (pc := 10) C lr_d_Node_sendWhatIsDue_10 rfl 1 rfl ?_
    refine lr_bipush (pc := 11) (v := 8) C lr_d_Node_sendWhatIsDue_11 (by decide) ?_
    refine lr_icmp_ge (pc := 13) (tgt := 65) C lr_d_Node_sendWhatIsDue_13 (by decide) (fun hc2 => ?_) (fun hc2 => ?_)
    · have h := lr_ps hc2 h
      refine lr_sub (ls' := [(0, .inr (5, a0)), (1, .inl x1)]) C [0, 1] rfl ?_
      have e := Option.some.inj h
      subst e
      exact kx
    · have h := lr_ng hc2 h
      refine lr_aload_n (pc := 16) C lr_d_Node_sendWhatIsDue_16 rfl 0 rfl ?_
      refine lr_g2_21 (pc := 17) C lr_d_Node_sendWhatIsDue_17 ?_
      refine lr_iload_n (pc := 20) C lr_d_Node_sendWhatIsDue_20 rfl 1 rfl ?_
      obtain ⟨hb3, h⟩ := lr_gd h
      refine lr_a6 (pc := 21) C lr_d_Node_sendWhatIsDue_21 hb3 ?_
      refine lr_astore_n (pc := 22) (ls' := [(2, .inr (7, (8 * a0 + x1.toNatClampNeg))), (0, .inr (5, a0)), (1, .inl x1)]) C lr_d_Node_sendWhatIsDue_22 rfl (by decide) rfl ?_
      refine lr_aload_n (pc := 23) C lr_d_Node_sendWhatIsDue_23 rfl 0 rfl ?_
      refine lr_aload_n (pc := 24) C lr_d_Node_sendWhatIsDue_24 rfl 1 rfl ?_
      refine lr_g2_15 (pc := 25) C lr_d_Node_sendWhatIsDue_25 ?_
      refine lr_g2_71 (pc := 28) C lr_d_Node_sendWhatIsDue_28 ?_
      obtain ⟨u4, hu5, h⟩ := lr_bd h
      refine lr_callVi (pc := 31) (as := [.inl (lr_rd t 1 0 0)]) (st := []) (fs := fun ad => lr_fs5 t (8 * a0 + x1.toNatClampNeg) ad) C (lr_r_Slot_isFreshSurrogate hu5) lr_c2_132 lr_d_Node_sendWhatIsDue_31 rfl rfl (fun _ _ => rfl) (ci := 5) rfl rfl ⟨by decide, by decide⟩ (Nat.le_of_ble_eq_true rfl) ?_
      refine lr_if_eq (pc := 34) (tgt := 59) C lr_d_Node_sendWhatIsDue_34 (by decide) (fun hc6 => ?_) (fun hc6 => ?_)
      · have h := lr_ps hc6 h
        refine lr_iinc (pc := 59) (v := (x1 + 1)) (ls' := [(1, .inl (x1 + 1)), (2, .inr (7, (8 * a0 + x1.toNatClampNeg))), (0, .inr (5, a0))]) C lr_d_Node_sendWhatIsDue_59 2 rfl rfl (by decide) rfl ?_
        refine lr_goto (pc := 62) (tgt := 10) C lr_d_Node_sendWhatIsDue_62 (by decide) ?_
        refine lr_sub (ls' := [(0, .inr (5, a0)), (1, .inl (x1 + 1))]) C [2, 0] rfl ?_
        exact ih (x1 + 1) u4.2 o h kx
      · have h := lr_ng hc6 h
        refine lr_aload_n (pc := 37) C lr_d_Node_sendWhatIsDue_37 rfl 1 rfl ?_
        refine lr_g2_15 (pc := 38) C lr_d_Node_sendWhatIsDue_38 ?_
        refine lr_g2_71 (pc := 41) C lr_d_Node_sendWhatIsDue_41 ?_
        refine lr_aload_n (pc := 44) C lr_d_Node_sendWhatIsDue_44 rfl 0 rfl ?_
        refine lr_g2_114 (pc := 45) C lr_d_Node_sendWhatIsDue_45 ?_
        refine lr_isub (pc := 48) C lr_d_Node_sendWhatIsDue_48 ?_
        refine lr_bipush (pc := 49) (v := 6) C lr_d_Node_sendWhatIsDue_49 (by decide) ?_
        refine lr_icmp_lt (pc := 51) (tgt := 59) C lr_d_Node_sendWhatIsDue_51 (by decide) (fun hc7 => ?_) (fun hc7 => ?_)
        · have h := lr_ps hc7 h
          refine lr_iinc (pc := 59) (v := (x1 + 1)) (ls' := [(1, .inl (x1 + 1)), (2, .inr (7, (8 * a0 + x1.toNatClampNeg))), (0, .inr (5, a0))]) C lr_d_Node_sendWhatIsDue_59 2 rfl rfl (by decide) rfl ?_
          refine lr_goto (pc := 62) (tgt := 10) C lr_d_Node_sendWhatIsDue_62 (by decide) ?_
          refine lr_sub (ls' := [(0, .inr (5, a0)), (1, .inl (x1 + 1))]) C [2, 0] rfl ?_
          exact ih (x1 + 1) u4.2 o h kx
        · have h := lr_ng hc7 h
          refine lr_aload_n (pc := 54) C lr_d_Node_sendWhatIsDue_54 rfl 1 rfl ?_
          refine lr_aload_n (pc := 55) C lr_d_Node_sendWhatIsDue_55 rfl 0 rfl ?_
          obtain ⟨u8, hu9, h⟩ := lr_bd h
          refine lr_callVv (pc := 56) (as := [.inr (7, (8 * a0 + x1.toNatClampNeg))]) (st := []) (fs := fun ad => lr_fs2 u4.2 a0 ad) C (lr_r_Node_sendDirty hu9) lr_c2_121 lr_d_Node_sendWhatIsDue_56 rfl rfl (fun _ _ => rfl) (ci := 2) rfl rfl ⟨by decide, by decide⟩ (Nat.le_of_ble_eq_true rfl) ?_
          refine lr_iinc (pc := 59) (v := (x1 + 1)) (ls' := [(1, .inl (x1 + 1)), (2, .inr (7, (8 * a0 + x1.toNatClampNeg))), (0, .inr (5, a0))]) C lr_d_Node_sendWhatIsDue_59 2 rfl rfl (by decide) rfl ?_
          refine lr_goto (pc := 62) (tgt := 10) C lr_d_Node_sendWhatIsDue_62 (by decide) ?_
          refine lr_sub (ls' := [(0, .inr (5, a0)), (1, .inl (x1 + 1))]) C [2, 0] rfl ?_
          exact ih (x1 + 1) u8 o h kx
def lr_G_Node_sendWhatIsDue (n : Nat) (t : lr_S) : Option (lr_S) := if (lr_rd t 5 n 9) = 0 then ((lr_L_Node_sendWhatIsDue_10 n 600 (0 : Int32) t).bind fun u10 => (if (lr_rd u10.2 14 n 0) = (1 : Int32) then (if ((lr_rd u10.2 1 0 0) - (lr_rd u10.2 14 n 4)) < (3 : Int32) then (some u10.2) else ((lr_G_Node_repeatRequest n u10.2).bind fun u14 => (some u14))) else (some u10.2))) else (some t)
set_option maxHeartbeats 4000000 in
theorem lr_r_Node_sendWhatIsDue {n : Nat} {t o : lr_S} (h : lr_G_Node_sendWhatIsDue n t = some o) : lr_RV 0 20 lr_m_Node_sendWhatIsDue [.inr (5, n)] t o := by
  refine lr_ofV (own := lr_R2) (by decide) rfl rfl (Nat.le_of_ble_eq_true rfl) (fun X C E => ?_)
  show lr_T X 0 [(0, .inr (5, n))] [] t
  have h := (show (if (lr_rd t 5 n 9) = 0 then ((lr_L_Node_sendWhatIsDue_10 n 600 (0 : Int32) t).bind fun u10 => (if (lr_rd u10.2 14 n 0) = (1 : Int32) then (if ((lr_rd u10.2 1 0 0) - (lr_rd u10.2 14 n 4)) < (3 : Int32) then (some u10.2) else ((lr_G_Node_repeatRequest n u10.2).bind fun u14 => (some u14))) else (some u10.2))) else (some t)) = some o from h)
  refine lr_aload_n (pc := 0) C lr_d_Node_sendWhatIsDue_0 rfl 0 rfl ?_
  refine lr_g2_61 (pc := 1) C lr_d_Node_sendWhatIsDue_1 ?_
  refine lr_if_eq (pc := 4) (tgt := 8) C lr_d_Node_sendWhatIsDue_4 (by decide) (fun hc1 => ?_) (fun hc1 => ?_)
  · have h := lr_ps hc1 h
    refine lr_iconst (pc := 8) (v := 0) C lr_d_Node_sendWhatIsDue_8 (by decide) ?_
    refine lr_istore_n (pc := 9) (ls' := [(1, .inl (0 : Int32)), (0, .inr (5, n))]) C lr_d_Node_sendWhatIsDue_9 rfl (by decide) rfl ?_
    refine lr_sub (ls' := [(0, .inr (5, n)), (1, .inl (0 : Int32))]) C [1, 0] rfl ?_
    obtain ⟨u10, hu11, h⟩ := lr_bd h
    refine lr_t_Node_sendWhatIsDue_10 C n 600 (0 : Int32) t u10 hu11 ?_
    refine lr_aload_n (pc := 65) C lr_d_Node_sendWhatIsDue_65 rfl 0 rfl ?_
    refine lr_g2_40 (pc := 66) C lr_d_Node_sendWhatIsDue_66 ?_
    refine lr_g2_44 (pc := 69) C lr_d_Node_sendWhatIsDue_69 ?_
    refine lr_iconst (pc := 72) (v := 1) C lr_d_Node_sendWhatIsDue_72 (by decide) ?_
    refine lr_icmp_ne (pc := 73) (tgt := 99) C lr_d_Node_sendWhatIsDue_73 (by decide) (fun hc12 => ?_) (fun hc12 => ?_)
    · have h := lr_ng hc12 h
      have e := Option.some.inj h
      subst e
      exact lr_vret C E lr_d_Node_sendWhatIsDue_99
    · have h := lr_ps hc12 h
      refine lr_aload_n (pc := 76) C lr_d_Node_sendWhatIsDue_76 rfl 0 rfl ?_
      refine lr_g2_15 (pc := 77) C lr_d_Node_sendWhatIsDue_77 ?_
      refine lr_g2_71 (pc := 80) C lr_d_Node_sendWhatIsDue_80 ?_
      refine lr_aload_n (pc := 83) C lr_d_Node_sendWhatIsDue_83 rfl 0 rfl ?_
      refine lr_g2_40 (pc := 84) C lr_d_Node_sendWhatIsDue_84 ?_
      refine lr_g2_111 (pc := 87) C lr_d_Node_sendWhatIsDue_87 ?_
      refine lr_isub (pc := 90) C lr_d_Node_sendWhatIsDue_90 ?_
      refine lr_iconst (pc := 91) (v := 3) C lr_d_Node_sendWhatIsDue_91 (by decide) ?_
      refine lr_icmp_lt (pc := 92) (tgt := 99) C lr_d_Node_sendWhatIsDue_92 (by decide) (fun hc13 => ?_) (fun hc13 => ?_)
      · have h := lr_ps hc13 h
        have e := Option.some.inj h
        subst e
        exact lr_vret C E lr_d_Node_sendWhatIsDue_99
      · have h := lr_ng hc13 h
        refine lr_aload_n (pc := 95) C lr_d_Node_sendWhatIsDue_95 rfl 0 rfl ?_
        obtain ⟨u14, hu15, h⟩ := lr_bd h
        refine lr_callVv (pc := 96) (as := []) (st := []) (fs := fun ad => lr_fs2 u10.2 n ad) C (lr_r_Node_repeatRequest hu15) lr_c2_136 lr_d_Node_sendWhatIsDue_96 rfl rfl (fun _ _ => rfl) (ci := 2) rfl rfl ⟨by decide, by decide⟩ (Nat.le_of_ble_eq_true rfl) ?_
        have e := Option.some.inj h
        subst e
        exact lr_vret C E lr_d_Node_sendWhatIsDue_99
  · have h := lr_ng hc1 h
    have e := Option.some.inj h
    subst e
    exact lr_vret C E lr_d_Node_sendWhatIsDue_7
def lr_G_Slot_holdNewSurrogate (n : Nat) (a1 : Int32) (a2 : Int32) (t : lr_S) : Option (lr_S) := some (lr_wr (lr_wr (lr_wr (lr_wr t 7 n 0 (2 : Int32)) 7 n 1 a1) 7 n 6 a2) 7 n 9 (0 : Int32))
set_option maxHeartbeats 4000000 in
theorem lr_r_Slot_holdNewSurrogate {n : Nat} {a1 : Int32} {a2 : Int32} {t o : lr_S} (h : lr_G_Slot_holdNewSurrogate n a1 a2 t = some o) : lr_RV 0 20 lr_m_Slot_holdNewSurrogate [.inr (7, n), .inl a1, .inl a2] t o := by
  refine lr_ofV (own := lr_R5) (by decide) rfl rfl (Nat.le_of_ble_eq_true rfl) (fun X C E => ?_)
  show lr_T X 0 [(0, .inr (7, n)), (1, .inl a1), (2, .inl a2)] [] t
  have h := (show (some (lr_wr (lr_wr (lr_wr (lr_wr t 7 n 0 (2 : Int32)) 7 n 1 a1) 7 n 6 a2) 7 n 9 (0 : Int32))) = some o from h)
  refine lr_aload_n (pc := 0) C lr_d_Slot_holdNewSurrogate_0 rfl 0 rfl ?_
  refine lr_iconst (pc := 1) (v := 2) C lr_d_Slot_holdNewSurrogate_1 (by decide) ?_
  refine lr_p5_9 (pc := 2) C lr_d_Slot_holdNewSurrogate_2 ?_
  refine lr_aload_n (pc := 5) C lr_d_Slot_holdNewSurrogate_5 rfl 0 rfl ?_
  refine lr_iload_n (pc := 6) C lr_d_Slot_holdNewSurrogate_6 rfl 1 rfl ?_
  refine lr_p5_25 (pc := 7) C lr_d_Slot_holdNewSurrogate_7 ?_
  refine lr_aload_n (pc := 10) C lr_d_Slot_holdNewSurrogate_10 rfl 0 rfl ?_
  refine lr_iload_n (pc := 11) C lr_d_Slot_holdNewSurrogate_11 rfl 2 rfl ?_
  refine lr_p5_31 (pc := 12) C lr_d_Slot_holdNewSurrogate_12 ?_
  refine lr_aload_n (pc := 15) C lr_d_Slot_holdNewSurrogate_15 rfl 0 rfl ?_
  refine lr_iconst (pc := 16) (v := 0) C lr_d_Slot_holdNewSurrogate_16 (by decide) ?_
  refine lr_p5_34 (pc := 17) C lr_d_Slot_holdNewSurrogate_17 ?_
  have e := Option.some.inj h
  subst e
  exact lr_vret C E lr_d_Slot_holdNewSurrogate_20
def lr_G_Node_receivePass (n : Nat) (a1 : Nat) (t : lr_S) : Option (Int32 × lr_S) := (lr_G_Node_slotWith n (lr_rd t 3 a1 3) t).bind fun u1 => (if u1.1 = (-1 : Int32) then ((lr_G_Node_leastEmptySlot n u1.2).bind fun u19 => (if ((lr_rd u1.2 3 a1 5) - (lr_rd u1.2 3 a1 5) / (4 : Int32) * (4 : Int32)) = (lr_rd u19.2 5 n 0) then (some ((0 : Int32), u19.2)) else (if u19.1 = (-1 : Int32) then (some ((0 : Int32), u19.2)) else (if lr_in u19.1 8 = true then ((lr_G_Slot_holdNewSurrogate (8 * n + u19.1.toNatClampNeg) (lr_rd u19.2 3 a1 3) ((lr_rd u1.2 3 a1 5) - (lr_rd u1.2 3 a1 5) / (4 : Int32) * (4 : Int32)) u19.2).bind fun u24 => (if lr_in ((lr_rd u24 3 a1 5) / (4 : Int32)) 3 = true then (if (lr_rd (lr_wr u24 11 n ((lr_rd u24 3 a1 5) / (4 : Int32)).toNatClampNeg u19.1) 7 (8 * n + u19.1.toNatClampNeg) 0) = (1 : Int32) then ((lr_G_Network_send (1 : Int32) (lr_rd (lr_wr u24 11 n ((lr_rd u24 3 a1 5) / (4 : Int32)).toNatClampNeg u19.1) 5 n 0) (lr_rd (lr_wr u24 11 n ((lr_rd u24 3 a1 5) / (4 : Int32)).toNatClampNeg u19.1) 3 a1 1) (lr_rd (lr_wr u24 11 n ((lr_rd u24 3 a1 5) / (4 : Int32)).toNatClampNeg u19.1) 3 a1 3) (lr_rd (lr_wr u24 11 n ((lr_rd u24 3 a1 5) / (4 : Int32)).toNatClampNeg u19.1) 3 a1 4) (0 : Int32) (lr_wr u24 11 n ((lr_rd u24 3 a1 5) / (4 : Int32)).toNatClampNeg u19.1)).bind fun u38 => (some ((1 : Int32), u38))) else ((lr_G_Slot_state (8 * n + u19.1.toNatClampNeg) (lr_rd (lr_wr u24 11 n ((lr_rd u24 3 a1 5) / (4 : Int32)).toNatClampNeg u19.1) 1 0 0) (lr_wr u24 11 n ((lr_rd u24 3 a1 5) / (4 : Int32)).toNatClampNeg u19.1)).bind fun u28 => (if u28.1 = (1 : Int32) then ((lr_G_Network_send (1 : Int32) (lr_rd u28.2 5 n 0) (lr_rd u28.2 3 a1 1) (lr_rd u28.2 3 a1 3) (lr_rd u28.2 3 a1 4) (0 : Int32) u28.2).bind fun u36 => (some ((1 : Int32), u36))) else (if u28.1 = 0 then ((lr_G_Slot_owe (8 * n + u19.1.toNatClampNeg) a1 u28.2).bind fun u34 => (some ((1 : Int32), u34))) else ((lr_G_Node_becomePending n (8 * n + u19.1.toNatClampNeg) a1 u28.2).bind fun u32 => (some ((1 : Int32), u32))))))) else none)) else none)))) else (if lr_in ((lr_rd u1.2 3 a1 5) / (4 : Int32)) 3 = true then (if lr_in u1.1 8 = true then (if (lr_rd (lr_wr u1.2 11 n ((lr_rd u1.2 3 a1 5) / (4 : Int32)).toNatClampNeg u1.1) 7 (8 * n + u1.1.toNatClampNeg) 0) = (1 : Int32) then ((lr_G_Network_send (1 : Int32) (lr_rd (lr_wr u1.2 11 n ((lr_rd u1.2 3 a1 5) / (4 : Int32)).toNatClampNeg u1.1) 5 n 0) (lr_rd (lr_wr u1.2 11 n ((lr_rd u1.2 3 a1 5) / (4 : Int32)).toNatClampNeg u1.1) 3 a1 1) (lr_rd (lr_wr u1.2 11 n ((lr_rd u1.2 3 a1 5) / (4 : Int32)).toNatClampNeg u1.1) 3 a1 3) (lr_rd (lr_wr u1.2 11 n ((lr_rd u1.2 3 a1 5) / (4 : Int32)).toNatClampNeg u1.1) 3 a1 4) (0 : Int32) (lr_wr u1.2 11 n ((lr_rd u1.2 3 a1 5) / (4 : Int32)).toNatClampNeg u1.1)).bind fun u17 => (some ((1 : Int32), u17))) else ((lr_G_Slot_state (8 * n + u1.1.toNatClampNeg) (lr_rd (lr_wr u1.2 11 n ((lr_rd u1.2 3 a1 5) / (4 : Int32)).toNatClampNeg u1.1) 1 0 0) (lr_wr u1.2 11 n ((lr_rd u1.2 3 a1 5) / (4 : Int32)).toNatClampNeg u1.1)).bind fun u7 => (if u7.1 = (1 : Int32) then ((lr_G_Network_send (1 : Int32) (lr_rd u7.2 5 n 0) (lr_rd u7.2 3 a1 1) (lr_rd u7.2 3 a1 3) (lr_rd u7.2 3 a1 4) (0 : Int32) u7.2).bind fun u15 => (some ((1 : Int32), u15))) else (if u7.1 = 0 then ((lr_G_Slot_owe (8 * n + u1.1.toNatClampNeg) a1 u7.2).bind fun u13 => (some ((1 : Int32), u13))) else ((lr_G_Node_becomePending n (8 * n + u1.1.toNatClampNeg) a1 u7.2).bind fun u11 => (some ((1 : Int32), u11))))))) else none) else none))
set_option maxHeartbeats 4000000 in
theorem lr_r_Node_receivePass {n : Nat} {a1 : Nat} {t : lr_S} {o : Int32 × lr_S} (h : lr_G_Node_receivePass n a1 t = some o) : lr_RI 0 20 lr_m_Node_receivePass [.inr (5, n), .inr (3, a1)] t o.1 o.2 := by
  refine lr_ofI (ty := .boolean) (own := lr_R2) (by decide) rfl rfl (Nat.le_of_ble_eq_true rfl) (fun X C E => ?_)
  show lr_T X 0 [(0, .inr (5, n)), (1, .inr (3, a1))] [] t
  have h := (show ((lr_G_Node_slotWith n (lr_rd t 3 a1 3) t).bind fun u1 => (if u1.1 = (-1 : Int32) then ((lr_G_Node_leastEmptySlot n u1.2).bind fun u19 => (if ((lr_rd u1.2 3 a1 5) - (lr_rd u1.2 3 a1 5) / (4 : Int32) * (4 : Int32)) = (lr_rd u19.2 5 n 0) then (some ((0 : Int32), u19.2)) else (if u19.1 = (-1 : Int32) then (some ((0 : Int32), u19.2)) else (if lr_in u19.1 8 = true then ((lr_G_Slot_holdNewSurrogate (8 * n + u19.1.toNatClampNeg) (lr_rd u19.2 3 a1 3) ((lr_rd u1.2 3 a1 5) - (lr_rd u1.2 3 a1 5) / (4 : Int32) * (4 : Int32)) u19.2).bind fun u24 => (if lr_in ((lr_rd u24 3 a1 5) / (4 : Int32)) 3 = true then (if (lr_rd (lr_wr u24 11 n ((lr_rd u24 3 a1 5) / (4 : Int32)).toNatClampNeg u19.1) 7 (8 * n + u19.1.toNatClampNeg) 0) = (1 : Int32) then ((lr_G_Network_send (1 : Int32) (lr_rd (lr_wr u24 11 n ((lr_rd u24 3 a1 5) / (4 : Int32)).toNatClampNeg u19.1) 5 n 0) (lr_rd (lr_wr u24 11 n ((lr_rd u24 3 a1 5) / (4 : Int32)).toNatClampNeg u19.1) 3 a1 1) (lr_rd (lr_wr u24 11 n ((lr_rd u24 3 a1 5) / (4 : Int32)).toNatClampNeg u19.1) 3 a1 3) (lr_rd (lr_wr u24 11 n ((lr_rd u24 3 a1 5) / (4 : Int32)).toNatClampNeg u19.1) 3 a1 4) (0 : Int32) (lr_wr u24 11 n ((lr_rd u24 3 a1 5) / (4 : Int32)).toNatClampNeg u19.1)).bind fun u38 => (some ((1 : Int32), u38))) else ((lr_G_Slot_state (8 * n + u19.1.toNatClampNeg) (lr_rd (lr_wr u24 11 n ((lr_rd u24 3 a1 5) / (4 : Int32)).toNatClampNeg u19.1) 1 0 0) (lr_wr u24 11 n ((lr_rd u24 3 a1 5) / (4 : Int32)).toNatClampNeg u19.1)).bind fun u28 => (if u28.1 = (1 : Int32) then ((lr_G_Network_send (1 : Int32) (lr_rd u28.2 5 n 0) (lr_rd u28.2 3 a1 1) (lr_rd u28.2 3 a1 3) (lr_rd u28.2 3 a1 4) (0 : Int32) u28.2).bind fun u36 => (some ((1 : Int32), u36))) else (if u28.1 = 0 then ((lr_G_Slot_owe (8 * n + u19.1.toNatClampNeg) a1 u28.2).bind fun u34 => (some ((1 : Int32), u34))) else ((lr_G_Node_becomePending n (8 * n + u19.1.toNatClampNeg) a1 u28.2).bind fun u32 => (some ((1 : Int32), u32))))))) else none)) else none)))) else (if lr_in ((lr_rd u1.2 3 a1 5) / (4 : Int32)) 3 = true then (if lr_in u1.1 8 = true then (if (lr_rd (lr_wr u1.2 11 n ((lr_rd u1.2 3 a1 5) / (4 : Int32)).toNatClampNeg u1.1) 7 (8 * n + u1.1.toNatClampNeg) 0) = (1 : Int32) then ((lr_G_Network_send (1 : Int32) (lr_rd (lr_wr u1.2 11 n ((lr_rd u1.2 3 a1 5) / (4 : Int32)).toNatClampNeg u1.1) 5 n 0) (lr_rd (lr_wr u1.2 11 n ((lr_rd u1.2 3 a1 5) / (4 : Int32)).toNatClampNeg u1.1) 3 a1 1) (lr_rd (lr_wr u1.2 11 n ((lr_rd u1.2 3 a1 5) / (4 : Int32)).toNatClampNeg u1.1) 3 a1 3) (lr_rd (lr_wr u1.2 11 n ((lr_rd u1.2 3 a1 5) / (4 : Int32)).toNatClampNeg u1.1) 3 a1 4) (0 : Int32) (lr_wr u1.2 11 n ((lr_rd u1.2 3 a1 5) / (4 : Int32)).toNatClampNeg u1.1)).bind fun u17 => (some ((1 : Int32), u17))) else ((lr_G_Slot_state (8 * n + u1.1.toNatClampNeg) (lr_rd (lr_wr u1.2 11 n ((lr_rd u1.2 3 a1 5) / (4 : Int32)).toNatClampNeg u1.1) 1 0 0) (lr_wr u1.2 11 n ((lr_rd u1.2 3 a1 5) / (4 : Int32)).toNatClampNeg u1.1)).bind fun u7 => (if u7.1 = (1 : Int32) then ((lr_G_Network_send (1 : Int32) (lr_rd u7.2 5 n 0) (lr_rd u7.2 3 a1 1) (lr_rd u7.2 3 a1 3) (lr_rd u7.2 3 a1 4) (0 : Int32) u7.2).bind fun u15 => (some ((1 : Int32), u15))) else (if u7.1 = 0 then ((lr_G_Slot_owe (8 * n + u1.1.toNatClampNeg) a1 u7.2).bind fun u13 => (some ((1 : Int32), u13))) else ((lr_G_Node_becomePending n (8 * n + u1.1.toNatClampNeg) a1 u7.2).bind fun u11 => (some ((1 : Int32), u11))))))) else none) else none))) = some o from h)
  refine lr_aload_n (pc := 0) C lr_d_Node_receivePass_0 rfl 0 rfl ?_
  refine lr_aload_n (pc := 1) C lr_d_Node_receivePass_1 rfl 1 rfl ?_
  refine lr_g2_167 (pc := 2) C lr_d_Node_receivePass_2 ?_
  obtain ⟨u1, hu2, h⟩ := lr_bd h
  refine lr_callVi (pc := 5) (as := [.inl (lr_rd t 3 a1 3)]) (st := []) (fs := fun ad => lr_fs2 t n ad) C (lr_r_Node_slotWith hu2) lr_c2_168 lr_d_Node_receivePass_5 rfl rfl (fun _ _ => rfl) (ci := 2) rfl rfl ⟨by decide, by decide⟩ (Nat.le_of_ble_eq_true rfl) ?_
  refine lr_istore_n (pc := 8) (ls' := [(2, .inl u1.1), (0, .inr (5, n)), (1, .inr (3, a1))]) C lr_d_Node_receivePass_8 rfl (by decide) rfl ?_
  refine lr_iload_n (pc := 9) C lr_d_Node_receivePass_9 rfl 0 rfl ?_
  refine lr_iconst (pc := 10) (v := -1) C lr_d_Node_receivePass_10 (by decide) ?_
  refine lr_icmp_ne (pc := 11) (tgt := 55) C lr_d_Node_receivePass_11 (by decide) (fun hc3 => ?_) (fun hc3 => ?_)
  · have h := lr_ng hc3 h
    refine lr_aload_n (pc := 55) C lr_d_Node_receivePass_55 rfl 1 rfl ?_
    refine lr_g2_26 (pc := 56) C lr_d_Node_receivePass_56 ?_
    refine lr_aload_n (pc := 59) C lr_d_Node_receivePass_59 rfl 2 rfl ?_
    refine lr_g2_171 (pc := 60) C lr_d_Node_receivePass_60 ?_
    refine lr_iconst (pc := 63) (v := 4) C lr_d_Node_receivePass_63 (by decide) ?_
    refine lr_idiv (pc := 64) C lr_d_Node_receivePass_64 (by decide) ?_
    refine lr_iload_n (pc := 65) C lr_d_Node_receivePass_65 rfl 0 rfl ?_
    obtain ⟨hb4, h⟩ := lr_gd h
    refine lr_si11 (pc := 66) C lr_d_Node_receivePass_66 hb4 ?_
    refine lr_aload_n (pc := 67) C lr_d_Node_receivePass_67 rfl 1 rfl ?_
    refine lr_g2_21 (pc := 68) C lr_d_Node_receivePass_68 ?_
    refine lr_iload_n (pc := 71) C lr_d_Node_receivePass_71 rfl 0 rfl ?_
    obtain ⟨hb5, h⟩ := lr_gd h
    refine lr_a6 (pc := 72) C lr_d_Node_receivePass_72 hb5 ?_
    refine lr_astore_n (pc := 73) (ls' := [(3, .inr (7, (8 * n + u1.1.toNatClampNeg))), (2, .inl u1.1), (0, .inr (5, n)), (1, .inr (3, a1))]) C lr_d_Node_receivePass_73 rfl (by decide) rfl ?_
    refine lr_aload_n (pc := 74) C lr_d_Node_receivePass_74 rfl 0 rfl ?_
    refine lr_g2_65 (pc := 75) C lr_d_Node_receivePass_75 ?_
    refine lr_iconst (pc := 78) (v := 1) C lr_d_Node_receivePass_78 (by decide) ?_
    refine lr_icmp_ne (pc := 79) (tgt := 86) C lr_d_Node_receivePass_79 (by decide) (fun hc6 => ?_) (fun hc6 => ?_)
    · have h := lr_ng hc6 h
      refine lr_aload_n (pc := 86) C lr_d_Node_receivePass_86 rfl 0 rfl ?_
      refine lr_aload_n (pc := 87) C lr_d_Node_receivePass_87 rfl 2 rfl ?_
      refine lr_g2_15 (pc := 88) C lr_d_Node_receivePass_88 ?_
      refine lr_g2_71 (pc := 91) C lr_d_Node_receivePass_91 ?_
      obtain ⟨u7, hu8, h⟩ := lr_bd h
      refine lr_callVi (pc := 94) (as := [.inl (lr_rd (lr_wr u1.2 11 n ((lr_rd u1.2 3 a1 5) / (4 : Int32)).toNatClampNeg u1.1) 1 0 0)]) (st := []) (fs := fun ad => lr_fs5 (lr_wr u1.2 11 n ((lr_rd u1.2 3 a1 5) / (4 : Int32)).toNatClampNeg u1.1) (8 * n + u1.1.toNatClampNeg) ad) C (lr_r_Slot_state hu8) lr_c2_76 lr_d_Node_receivePass_94 rfl rfl (fun _ _ => rfl) (ci := 5) rfl rfl ⟨by decide, by decide⟩ (Nat.le_of_ble_eq_true rfl) ?_
      refine lr_istore (pc := 97) (ls' := [(4, .inl u7.1), (3, .inr (7, (8 * n + u1.1.toNatClampNeg))), (2, .inl u1.1), (0, .inr (5, n)), (1, .inr (3, a1))]) C lr_d_Node_receivePass_97 (by decide) rfl ?_
      refine lr_iload (pc := 99) C lr_d_Node_receivePass_99 0 rfl ?_
      refine lr_iconst (pc := 101) (v := 1) C lr_d_Node_receivePass_101 (by decide) ?_
      refine lr_icmp_ne (pc := 102) (tgt := 133) C lr_d_Node_receivePass_102 (by decide) (fun hc9 => ?_) (fun hc9 => ?_)
      · have h := lr_ng hc9 h
        refine lr_iload (pc := 133) C lr_d_Node_receivePass_133 0 rfl ?_
        refine lr_if_ne (pc := 135) (tgt := 146) C lr_d_Node_receivePass_135 (by decide) (fun hc10 => ?_) (fun hc10 => ?_)
        · have h := lr_ng hc10 h
          refine lr_aload_n (pc := 146) C lr_d_Node_receivePass_146 rfl 3 rfl ?_
          refine lr_aload_n (pc := 147) C lr_d_Node_receivePass_147 rfl 1 rfl ?_
          refine lr_aload_n (pc := 148) C lr_d_Node_receivePass_148 rfl 4 rfl ?_
          obtain ⟨u11, hu12, h⟩ := lr_bd h
          refine lr_callVv (pc := 149) (as := [.inr (7, (8 * n + u1.1.toNatClampNeg)), .inr (3, a1)]) (st := []) (fs := fun ad => lr_fs2 u7.2 n ad) C (lr_r_Node_becomePending hu12) lr_c2_185 lr_d_Node_receivePass_149 rfl rfl (fun _ _ => rfl) (ci := 2) rfl rfl ⟨by decide, by decide⟩ (Nat.le_of_ble_eq_true rfl) ?_
          refine lr_iconst (pc := 152) (v := 1) C lr_d_Node_receivePass_152 (by decide) ?_
          have e := Option.some.inj h
          subst e
          exact lr_iret C E lr_d_Node_receivePass_153 (by decide)
        · have h := lr_ps hc10 h
          refine lr_aload_n (pc := 138) C lr_d_Node_receivePass_138 rfl 1 rfl ?_
          refine lr_aload_n (pc := 139) C lr_d_Node_receivePass_139 rfl 4 rfl ?_
          obtain ⟨u13, hu14, h⟩ := lr_bd h
          refine lr_callVv (pc := 140) (as := [.inr (3, a1)]) (st := []) (fs := fun ad => lr_fs5 u7.2 (8 * n + u1.1.toNatClampNeg) ad) C (lr_r_Slot_owe hu14) lr_c2_128 lr_d_Node_receivePass_140 rfl rfl (fun _ _ => rfl) (ci := 5) rfl rfl ⟨by decide, by decide⟩ (Nat.le_of_ble_eq_true rfl) ?_
          refine lr_goto (pc := 143) (tgt := 152) C lr_d_Node_receivePass_143 (by decide) ?_
          refine lr_iconst (pc := 152) (v := 1) C lr_d_Node_receivePass_152 (by decide) ?_
          have e := Option.some.inj h
          subst e
          exact lr_iret C E lr_d_Node_receivePass_153 (by decide)
      · have h := lr_ps hc9 h
        refine lr_aload_n (pc := 105) C lr_d_Node_receivePass_105 rfl 3 rfl ?_
        refine lr_g2_15 (pc := 106) C lr_d_Node_receivePass_106 ?_
        refine lr_iconst (pc := 109) (v := 1) C lr_d_Node_receivePass_109 (by decide) ?_
        refine lr_aload_n (pc := 110) C lr_d_Node_receivePass_110 rfl 3 rfl ?_
        refine lr_g2_9 (pc := 111) C lr_d_Node_receivePass_111 ?_
        refine lr_aload_n (pc := 114) C lr_d_Node_receivePass_114 rfl 4 rfl ?_
        refine lr_g2_181 (pc := 115) C lr_d_Node_receivePass_115 ?_
        refine lr_aload_n (pc := 118) C lr_d_Node_receivePass_118 rfl 4 rfl ?_
        refine lr_g2_167 (pc := 119) C lr_d_Node_receivePass_119 ?_
        refine lr_aload_n (pc := 122) C lr_d_Node_receivePass_122 rfl 4 rfl ?_
        refine lr_g2_184 (pc := 123) C lr_d_Node_receivePass_123 ?_
        refine lr_iconst (pc := 126) (v := 0) C lr_d_Node_receivePass_126 (by decide) ?_
        obtain ⟨u15, hu16, h⟩ := lr_bd h
        refine lr_callVv (pc := 127) (as := [.inl (1 : Int32), .inl (lr_rd u7.2 5 n 0), .inl (lr_rd u7.2 3 a1 1), .inl (lr_rd u7.2 3 a1 3), .inl (lr_rd u7.2 3 a1 4), .inl (0 : Int32)]) (st := []) (fs := fun ad => lr_fs1 u7.2 0 ad) C (lr_r_Network_send hu16) lr_c2_93 lr_d_Node_receivePass_127 rfl rfl (fun _ _ => rfl) (ci := 1) rfl rfl ⟨by decide, by decide⟩ (Nat.le_of_ble_eq_true rfl) ?_
        refine lr_goto (pc := 130) (tgt := 152) C lr_d_Node_receivePass_130 (by decide) ?_
        refine lr_iconst (pc := 152) (v := 1) C lr_d_Node_receivePass_152 (by decide) ?_
        have e := Option.some.inj h
        subst e
        exact lr_iret C E lr_d_Node_receivePass_153 (by decide)
    · have h := lr_ps hc6 h
      refine lr_iconst (pc := 82) (v := 1) C lr_d_Node_receivePass_82 (by decide) ?_
      refine lr_goto (pc := 83) (tgt := 97) C lr_d_Node_receivePass_83 (by decide) ?_
      refine lr_istore (pc := 97) (ls' := [(4, .inl (1 : Int32)), (3, .inr (7, (8 * n + u1.1.toNatClampNeg))), (2, .inl u1.1), (0, .inr (5, n)), (1, .inr (3, a1))]) C lr_d_Node_receivePass_97 (by decide) rfl ?_
      refine lr_iload (pc := 99) C lr_d_Node_receivePass_99 0 rfl ?_
      refine lr_iconst (pc := 101) (v := 1) C lr_d_Node_receivePass_101 (by decide) ?_
      refine lr_icmp_ne (pc := 102) (tgt := 133) C lr_d_Node_receivePass_102 (by decide) (fun hc => absurd hc (by decide)) (fun _ => ?_)
      refine lr_aload_n (pc := 105) C lr_d_Node_receivePass_105 rfl 3 rfl ?_
      refine lr_g2_15 (pc := 106) C lr_d_Node_receivePass_106 ?_
      refine lr_iconst (pc := 109) (v := 1) C lr_d_Node_receivePass_109 (by decide) ?_
      refine lr_aload_n (pc := 110) C lr_d_Node_receivePass_110 rfl 3 rfl ?_
      refine lr_g2_9 (pc := 111) C lr_d_Node_receivePass_111 ?_
      refine lr_aload_n (pc := 114) C lr_d_Node_receivePass_114 rfl 4 rfl ?_
      refine lr_g2_181 (pc := 115) C lr_d_Node_receivePass_115 ?_
      refine lr_aload_n (pc := 118) C lr_d_Node_receivePass_118 rfl 4 rfl ?_
      refine lr_g2_167 (pc := 119) C lr_d_Node_receivePass_119 ?_
      refine lr_aload_n (pc := 122) C lr_d_Node_receivePass_122 rfl 4 rfl ?_
      refine lr_g2_184 (pc := 123) C lr_d_Node_receivePass_123 ?_
      refine lr_iconst (pc := 126) (v := 0) C lr_d_Node_receivePass_126 (by decide) ?_
      obtain ⟨u17, hu18, h⟩ := lr_bd h
      refine lr_callVv (pc := 127) (as := [.inl (1 : Int32), .inl (lr_rd (lr_wr u1.2 11 n ((lr_rd u1.2 3 a1 5) / (4 : Int32)).toNatClampNeg u1.1) 5 n 0), .inl (lr_rd (lr_wr u1.2 11 n ((lr_rd u1.2 3 a1 5) / (4 : Int32)).toNatClampNeg u1.1) 3 a1 1), .inl (lr_rd (lr_wr u1.2 11 n ((lr_rd u1.2 3 a1 5) / (4 : Int32)).toNatClampNeg u1.1) 3 a1 3), .inl (lr_rd (lr_wr u1.2 11 n ((lr_rd u1.2 3 a1 5) / (4 : Int32)).toNatClampNeg u1.1) 3 a1 4), .inl (0 : Int32)]) (st := []) (fs := fun ad => lr_fs1 (lr_wr u1.2 11 n ((lr_rd u1.2 3 a1 5) / (4 : Int32)).toNatClampNeg u1.1) 0 ad) C (lr_r_Network_send hu18) lr_c2_93 lr_d_Node_receivePass_127 rfl rfl (fun _ _ => rfl) (ci := 1) rfl rfl ⟨by decide, by decide⟩ (Nat.le_of_ble_eq_true rfl) ?_
      refine lr_goto (pc := 130) (tgt := 152) C lr_d_Node_receivePass_130 (by decide) ?_
      refine lr_iconst (pc := 152) (v := 1) C lr_d_Node_receivePass_152 (by decide) ?_
      have e := Option.some.inj h
      subst e
      exact lr_iret C E lr_d_Node_receivePass_153 (by decide)
  · have h := lr_ps hc3 h
    refine lr_aload_n (pc := 14) C lr_d_Node_receivePass_14 rfl 2 rfl ?_
    refine lr_g2_171 (pc := 15) C lr_d_Node_receivePass_15 ?_
    refine lr_iconst (pc := 18) (v := 4) C lr_d_Node_receivePass_18 (by decide) ?_
    refine lr_irem (pc := 19) C lr_d_Node_receivePass_19 (by decide) ?_
    refine lr_istore_n (pc := 20) (ls' := [(3, .inl ((lr_rd u1.2 3 a1 5) - (lr_rd u1.2 3 a1 5) / (4 : Int32) * (4 : Int32))), (2, .inl u1.1), (0, .inr (5, n)), (1, .inr (3, a1))]) C lr_d_Node_receivePass_20 rfl (by decide) rfl ?_
    refine lr_aload_n (pc := 21) C lr_d_Node_receivePass_21 rfl 2 rfl ?_
    obtain ⟨u19, hu20, h⟩ := lr_bd h
    refine lr_callVi (pc := 22) (as := []) (st := []) (fs := fun ad => lr_fs2 u1.2 n ad) C (lr_r_Node_leastEmptySlot hu20) lr_c2_174 lr_d_Node_receivePass_22 rfl rfl (fun _ _ => rfl) (ci := 2) rfl rfl ⟨by decide, by decide⟩ (Nat.le_of_ble_eq_true rfl) ?_
    refine lr_istore_n (pc := 25) (ls' := [(2, .inl u19.1), (3, .inl ((lr_rd u1.2 3 a1 5) - (lr_rd u1.2 3 a1 5) / (4 : Int32) * (4 : Int32))), (0, .inr (5, n)), (1, .inr (3, a1))]) C lr_d_Node_receivePass_25 rfl (by decide) rfl ?_
    refine lr_iload_n (pc := 26) C lr_d_Node_receivePass_26 rfl 1 rfl ?_
    refine lr_aload_n (pc := 27) C lr_d_Node_receivePass_27 rfl 2 rfl ?_
    refine lr_g2_9 (pc := 28) C lr_d_Node_receivePass_28 ?_
    refine lr_icmp_eq (pc := 31) (tgt := 39) C lr_d_Node_receivePass_31 (by decide) (fun hc21 => ?_) (fun hc21 => ?_)
    · have h := lr_ps hc21 h
      refine lr_iconst (pc := 39) (v := 0) C lr_d_Node_receivePass_39 (by decide) ?_
      have e := Option.some.inj h
      subst e
      exact lr_iret C E lr_d_Node_receivePass_40 (by decide)
    · have h := lr_ng hc21 h
      refine lr_iload_n (pc := 34) C lr_d_Node_receivePass_34 rfl 0 rfl ?_
      refine lr_iconst (pc := 35) (v := -1) C lr_d_Node_receivePass_35 (by decide) ?_
      refine lr_icmp_ne (pc := 36) (tgt := 41) C lr_d_Node_receivePass_36 (by decide) (fun hc22 => ?_) (fun hc22 => ?_)
      · have h := lr_ng hc22 h
        refine lr_aload_n (pc := 41) C lr_d_Node_receivePass_41 rfl 2 rfl ?_
        refine lr_g2_21 (pc := 42) C lr_d_Node_receivePass_42 ?_
        refine lr_iload_n (pc := 45) C lr_d_Node_receivePass_45 rfl 0 rfl ?_
        obtain ⟨hb23, h⟩ := lr_gd h
        refine lr_a6 (pc := 46) C lr_d_Node_receivePass_46 hb23 ?_
        refine lr_aload_n (pc := 47) C lr_d_Node_receivePass_47 rfl 3 rfl ?_
        refine lr_g2_167 (pc := 48) C lr_d_Node_receivePass_48 ?_
        refine lr_iload_n (pc := 51) C lr_d_Node_receivePass_51 rfl 1 rfl ?_
        obtain ⟨u24, hu25, h⟩ := lr_bd h
        refine lr_callVv (pc := 52) (as := [.inl (lr_rd u19.2 3 a1 3), .inl ((lr_rd u1.2 3 a1 5) - (lr_rd u1.2 3 a1 5) / (4 : Int32) * (4 : Int32))]) (st := []) (fs := fun ad => lr_fs5 u19.2 (8 * n + u19.1.toNatClampNeg) ad) C (lr_r_Slot_holdNewSurrogate hu25) lr_c2_178 lr_d_Node_receivePass_52 rfl rfl (fun _ _ => rfl) (ci := 5) rfl rfl ⟨by decide, by decide⟩ (Nat.le_of_ble_eq_true rfl) ?_
        refine lr_aload_n (pc := 55) C lr_d_Node_receivePass_55 rfl 2 rfl ?_
        refine lr_g2_26 (pc := 56) C lr_d_Node_receivePass_56 ?_
        refine lr_aload_n (pc := 59) C lr_d_Node_receivePass_59 rfl 3 rfl ?_
        refine lr_g2_171 (pc := 60) C lr_d_Node_receivePass_60 ?_
        refine lr_iconst (pc := 63) (v := 4) C lr_d_Node_receivePass_63 (by decide) ?_
        refine lr_idiv (pc := 64) C lr_d_Node_receivePass_64 (by decide) ?_
        refine lr_iload_n (pc := 65) C lr_d_Node_receivePass_65 rfl 0 rfl ?_
        obtain ⟨hb26, h⟩ := lr_gd h
        refine lr_si11 (pc := 66) C lr_d_Node_receivePass_66 hb26 ?_
        refine lr_aload_n (pc := 67) C lr_d_Node_receivePass_67 rfl 2 rfl ?_
        refine lr_g2_21 (pc := 68) C lr_d_Node_receivePass_68 ?_
        refine lr_iload_n (pc := 71) C lr_d_Node_receivePass_71 rfl 0 rfl ?_
        refine lr_a6 (pc := 72) C lr_d_Node_receivePass_72 hb23 ?_
        refine lr_astore_n (pc := 73) (ls' := [(3, .inr (7, (8 * n + u19.1.toNatClampNeg))), (2, .inl u19.1), (0, .inr (5, n)), (1, .inr (3, a1))]) C lr_d_Node_receivePass_73 rfl (by decide) rfl ?_
        refine lr_aload_n (pc := 74) C lr_d_Node_receivePass_74 rfl 0 rfl ?_
        refine lr_g2_65 (pc := 75) C lr_d_Node_receivePass_75 ?_
        refine lr_iconst (pc := 78) (v := 1) C lr_d_Node_receivePass_78 (by decide) ?_
        refine lr_icmp_ne (pc := 79) (tgt := 86) C lr_d_Node_receivePass_79 (by decide) (fun hc27 => ?_) (fun hc27 => ?_)
        · have h := lr_ng hc27 h
          refine lr_aload_n (pc := 86) C lr_d_Node_receivePass_86 rfl 0 rfl ?_
          refine lr_aload_n (pc := 87) C lr_d_Node_receivePass_87 rfl 2 rfl ?_
          refine lr_g2_15 (pc := 88) C lr_d_Node_receivePass_88 ?_
          refine lr_g2_71 (pc := 91) C lr_d_Node_receivePass_91 ?_
          obtain ⟨u28, hu29, h⟩ := lr_bd h
          refine lr_callVi (pc := 94) (as := [.inl (lr_rd (lr_wr u24 11 n ((lr_rd u24 3 a1 5) / (4 : Int32)).toNatClampNeg u19.1) 1 0 0)]) (st := []) (fs := fun ad => lr_fs5 (lr_wr u24 11 n ((lr_rd u24 3 a1 5) / (4 : Int32)).toNatClampNeg u19.1) (8 * n + u19.1.toNatClampNeg) ad) C (lr_r_Slot_state hu29) lr_c2_76 lr_d_Node_receivePass_94 rfl rfl (fun _ _ => rfl) (ci := 5) rfl rfl ⟨by decide, by decide⟩ (Nat.le_of_ble_eq_true rfl) ?_
          refine lr_istore (pc := 97) (ls' := [(4, .inl u28.1), (3, .inr (7, (8 * n + u19.1.toNatClampNeg))), (2, .inl u19.1), (0, .inr (5, n)), (1, .inr (3, a1))]) C lr_d_Node_receivePass_97 (by decide) rfl ?_
          refine lr_iload (pc := 99) C lr_d_Node_receivePass_99 0 rfl ?_
          refine lr_iconst (pc := 101) (v := 1) C lr_d_Node_receivePass_101 (by decide) ?_
          refine lr_icmp_ne (pc := 102) (tgt := 133) C lr_d_Node_receivePass_102 (by decide) (fun hc30 => ?_) (fun hc30 => ?_)
          · have h := lr_ng hc30 h
            refine lr_iload (pc := 133) C lr_d_Node_receivePass_133 0 rfl ?_
            refine lr_if_ne (pc := 135) (tgt := 146) C lr_d_Node_receivePass_135 (by decide) (fun hc31 => ?_) (fun hc31 => ?_)
            · have h := lr_ng hc31 h
              refine lr_aload_n (pc := 146) C lr_d_Node_receivePass_146 rfl 3 rfl ?_
              refine lr_aload_n (pc := 147) C lr_d_Node_receivePass_147 rfl 1 rfl ?_
              refine lr_aload_n (pc := 148) C lr_d_Node_receivePass_148 rfl 4 rfl ?_
              obtain ⟨u32, hu33, h⟩ := lr_bd h
              refine lr_callVv (pc := 149) (as := [.inr (7, (8 * n + u19.1.toNatClampNeg)), .inr (3, a1)]) (st := []) (fs := fun ad => lr_fs2 u28.2 n ad) C (lr_r_Node_becomePending hu33) lr_c2_185 lr_d_Node_receivePass_149 rfl rfl (fun _ _ => rfl) (ci := 2) rfl rfl ⟨by decide, by decide⟩ (Nat.le_of_ble_eq_true rfl) ?_
              refine lr_iconst (pc := 152) (v := 1) C lr_d_Node_receivePass_152 (by decide) ?_
              have e := Option.some.inj h
              subst e
              exact lr_iret C E lr_d_Node_receivePass_153 (by decide)
            · have h := lr_ps hc31 h
              refine lr_aload_n (pc := 138) C lr_d_Node_receivePass_138 rfl 1 rfl ?_
              refine lr_aload_n (pc := 139) C lr_d_Node_receivePass_139 rfl 4 rfl ?_
              obtain ⟨u34, hu35, h⟩ := lr_bd h
              refine lr_callVv (pc := 140) (as := [.inr (3, a1)]) (st := []) (fs := fun ad => lr_fs5 u28.2 (8 * n + u19.1.toNatClampNeg) ad) C (lr_r_Slot_owe hu35) lr_c2_128 lr_d_Node_receivePass_140 rfl rfl (fun _ _ => rfl) (ci := 5) rfl rfl ⟨by decide, by decide⟩ (Nat.le_of_ble_eq_true rfl) ?_
              refine lr_goto (pc := 143) (tgt := 152) C lr_d_Node_receivePass_143 (by decide) ?_
              refine lr_iconst (pc := 152) (v := 1) C lr_d_Node_receivePass_152 (by decide) ?_
              have e := Option.some.inj h
              subst e
              exact lr_iret C E lr_d_Node_receivePass_153 (by decide)
          · have h := lr_ps hc30 h
            refine lr_aload_n (pc := 105) C lr_d_Node_receivePass_105 rfl 3 rfl ?_
            refine lr_g2_15 (pc := 106) C lr_d_Node_receivePass_106 ?_
            refine lr_iconst (pc := 109) (v := 1) C lr_d_Node_receivePass_109 (by decide) ?_
            refine lr_aload_n (pc := 110) C lr_d_Node_receivePass_110 rfl 3 rfl ?_
            refine lr_g2_9 (pc := 111) C lr_d_Node_receivePass_111 ?_
            refine lr_aload_n (pc := 114) C lr_d_Node_receivePass_114 rfl 4 rfl ?_
            refine lr_g2_181 (pc := 115) C lr_d_Node_receivePass_115 ?_
            refine lr_aload_n (pc := 118) C lr_d_Node_receivePass_118 rfl 4 rfl ?_
            refine lr_g2_167 (pc := 119) C lr_d_Node_receivePass_119 ?_
            refine lr_aload_n (pc := 122) C lr_d_Node_receivePass_122 rfl 4 rfl ?_
            refine lr_g2_184 (pc := 123) C lr_d_Node_receivePass_123 ?_
            refine lr_iconst (pc := 126) (v := 0) C lr_d_Node_receivePass_126 (by decide) ?_
            obtain ⟨u36, hu37, h⟩ := lr_bd h
            refine lr_callVv (pc := 127) (as := [.inl (1 : Int32), .inl (lr_rd u28.2 5 n 0), .inl (lr_rd u28.2 3 a1 1), .inl (lr_rd u28.2 3 a1 3), .inl (lr_rd u28.2 3 a1 4), .inl (0 : Int32)]) (st := []) (fs := fun ad => lr_fs1 u28.2 0 ad) C (lr_r_Network_send hu37) lr_c2_93 lr_d_Node_receivePass_127 rfl rfl (fun _ _ => rfl) (ci := 1) rfl rfl ⟨by decide, by decide⟩ (Nat.le_of_ble_eq_true rfl) ?_
            refine lr_goto (pc := 130) (tgt := 152) C lr_d_Node_receivePass_130 (by decide) ?_
            refine lr_iconst (pc := 152) (v := 1) C lr_d_Node_receivePass_152 (by decide) ?_
            have e := Option.some.inj h
            subst e
            exact lr_iret C E lr_d_Node_receivePass_153 (by decide)
        · have h := lr_ps hc27 h
          refine lr_iconst (pc := 82) (v := 1) C lr_d_Node_receivePass_82 (by decide) ?_
          refine lr_goto (pc := 83) (tgt := 97) C lr_d_Node_receivePass_83 (by decide) ?_
          refine lr_istore (pc := 97) (ls' := [(4, .inl (1 : Int32)), (3, .inr (7, (8 * n + u19.1.toNatClampNeg))), (2, .inl u19.1), (0, .inr (5, n)), (1, .inr (3, a1))]) C lr_d_Node_receivePass_97 (by decide) rfl ?_
          refine lr_iload (pc := 99) C lr_d_Node_receivePass_99 0 rfl ?_
          refine lr_iconst (pc := 101) (v := 1) C lr_d_Node_receivePass_101 (by decide) ?_
          refine lr_icmp_ne (pc := 102) (tgt := 133) C lr_d_Node_receivePass_102 (by decide) (fun hc => absurd hc (by decide)) (fun _ => ?_)
          refine lr_aload_n (pc := 105) C lr_d_Node_receivePass_105 rfl 3 rfl ?_
          refine lr_g2_15 (pc := 106) C lr_d_Node_receivePass_106 ?_
          refine lr_iconst (pc := 109) (v := 1) C lr_d_Node_receivePass_109 (by decide) ?_
          refine lr_aload_n (pc := 110) C lr_d_Node_receivePass_110 rfl 3 rfl ?_
          refine lr_g2_9 (pc := 111) C lr_d_Node_receivePass_111 ?_
          refine lr_aload_n (pc := 114) C lr_d_Node_receivePass_114 rfl 4 rfl ?_
          refine lr_g2_181 (pc := 115) C lr_d_Node_receivePass_115 ?_
          refine lr_aload_n (pc := 118) C lr_d_Node_receivePass_118 rfl 4 rfl ?_
          refine lr_g2_167 (pc := 119) C lr_d_Node_receivePass_119 ?_
          refine lr_aload_n (pc := 122) C lr_d_Node_receivePass_122 rfl 4 rfl ?_
          refine lr_g2_184 (pc := 123) C lr_d_Node_receivePass_123 ?_
          refine lr_iconst (pc := 126) (v := 0) C lr_d_Node_receivePass_126 (by decide) ?_
          obtain ⟨u38, hu39, h⟩ := lr_bd h
          refine lr_callVv (pc := 127) (as := [.inl (1 : Int32), .inl (lr_rd (lr_wr u24 11 n ((lr_rd u24 3 a1 5) / (4 : Int32)).toNatClampNeg u19.1) 5 n 0), .inl (lr_rd (lr_wr u24 11 n ((lr_rd u24 3 a1 5) / (4 : Int32)).toNatClampNeg u19.1) 3 a1 1), .inl (lr_rd (lr_wr u24 11 n ((lr_rd u24 3 a1 5) / (4 : Int32)).toNatClampNeg u19.1) 3 a1 3), .inl (lr_rd (lr_wr u24 11 n ((lr_rd u24 3 a1 5) / (4 : Int32)).toNatClampNeg u19.1) 3 a1 4), .inl (0 : Int32)]) (st := []) (fs := fun ad => lr_fs1 (lr_wr u24 11 n ((lr_rd u24 3 a1 5) / (4 : Int32)).toNatClampNeg u19.1) 0 ad) C (lr_r_Network_send hu39) lr_c2_93 lr_d_Node_receivePass_127 rfl rfl (fun _ _ => rfl) (ci := 1) rfl rfl ⟨by decide, by decide⟩ (Nat.le_of_ble_eq_true rfl) ?_
          refine lr_goto (pc := 130) (tgt := 152) C lr_d_Node_receivePass_130 (by decide) ?_
          refine lr_iconst (pc := 152) (v := 1) C lr_d_Node_receivePass_152 (by decide) ?_
          have e := Option.some.inj h
          subst e
          exact lr_iret C E lr_d_Node_receivePass_153 (by decide)
      · have h := lr_ps hc22 h
        refine lr_iconst (pc := 39) (v := 0) C lr_d_Node_receivePass_39 (by decide) ?_
        have e := Option.some.inj h
        subst e
        exact lr_iret C E lr_d_Node_receivePass_40 (by decide)
