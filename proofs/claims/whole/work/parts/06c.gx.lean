def lr_G_Node_sendPass (n : Nat) (a1 : Int32) (a2 : Int32) (a3 : Int32) (a4 : Int32) (t : lr_S) : Option (lr_S) := if lr_in a1 3 = true then (if lr_in (lr_rd t 11 n a1.toNatClampNeg) 8 = true then ((lr_G_Node_pinDown n (lr_rd t 11 n a1.toNatClampNeg) a4 t).bind fun u3 => (if (lr_rd u3 7 (8 * n + (lr_rd t 11 n a1.toNatClampNeg).toNatClampNeg) 0) = (1 : Int32) then ((lr_G_Network_send (0 : Int32) (lr_rd u3 5 n 0) a2 (lr_rd u3 7 (8 * n + (lr_rd t 11 n a1.toNatClampNeg).toNatClampNeg) 1) a4 (((4 : Int32) * a3) + (lr_rd u3 5 n 0)) u3).bind fun u8 => (some u8)) else ((lr_G_Network_send (0 : Int32) (lr_rd u3 5 n 0) a2 (lr_rd u3 7 (8 * n + (lr_rd t 11 n a1.toNatClampNeg).toNatClampNeg) 1) a4 (((4 : Int32) * a3) + (lr_rd u3 7 (8 * n + (lr_rd t 11 n a1.toNatClampNeg).toNatClampNeg) 6)) u3).bind fun u6 => (some u6)))) else none) else none
set_option maxHeartbeats 4000000 in
theorem lr_r_Node_sendPass {n : Nat} {a1 : Int32} {a2 : Int32} {a3 : Int32} {a4 : Int32} {t o : lr_S} (h : lr_G_Node_sendPass n a1 a2 a3 a4 t = some o) : lr_RV 0 20 lr_m_Node_sendPass [.inr (5, n), .inl a1, .inl a2, .inl a3, .inl a4] t o := by
  refine lr_ofV (own := lr_R2) (by decide) rfl rfl (Nat.le_of_ble_eq_true rfl) (fun X C E => ?_)
  show lr_T X 0 [(0, .inr (5, n)), (1, .inl a1), (2, .inl a2), (3, .inl a3), (4, .inl a4)] [] t
  have h := (show (if lr_in a1 3 = true then (if lr_in (lr_rd t 11 n a1.toNatClampNeg) 8 = true then ((lr_G_Node_pinDown n (lr_rd t 11 n a1.toNatClampNeg) a4 t).bind fun u3 => (if (lr_rd u3 7 (8 * n + (lr_rd t 11 n a1.toNatClampNeg).toNatClampNeg) 0) = (1 : Int32) then ((lr_G_Network_send (0 : Int32) (lr_rd u3 5 n 0) a2 (lr_rd u3 7 (8 * n + (lr_rd t 11 n a1.toNatClampNeg).toNatClampNeg) 1) a4 (((4 : Int32) * a3) + (lr_rd u3 5 n 0)) u3).bind fun u8 => (some u8)) else ((lr_G_Network_send (0 : Int32) (lr_rd u3 5 n 0) a2 (lr_rd u3 7 (8 * n + (lr_rd t 11 n a1.toNatClampNeg).toNatClampNeg) 1) a4 (((4 : Int32) * a3) + (lr_rd u3 7 (8 * n + (lr_rd t 11 n a1.toNatClampNeg).toNatClampNeg) 6)) u3).bind fun u6 => (some u6)))) else none) else none) = some o from h)
  refine lr_aload_n (pc := 0) C lr_d_Node_sendPass_0 rfl 0 rfl ?_
  refine lr_g2_26 (pc := 1) C lr_d_Node_sendPass_1 ?_
  refine lr_iload_n (pc := 4) C lr_d_Node_sendPass_4 rfl 1 rfl ?_
  obtain ⟨hb1, h⟩ := lr_gd h
  refine lr_li11 (pc := 5) C lr_d_Node_sendPass_5 hb1 ?_
  refine lr_istore (pc := 6) (ls' := [(5, .inl (lr_rd t 11 n a1.toNatClampNeg)), (0, .inr (5, n)), (1, .inl a1), (2, .inl a2), (3, .inl a3), (4, .inl a4)]) C lr_d_Node_sendPass_6 (by decide) rfl ?_
  refine lr_aload_n (pc := 8) C lr_d_Node_sendPass_8 rfl 1 rfl ?_
  refine lr_g2_21 (pc := 9) C lr_d_Node_sendPass_9 ?_
  refine lr_iload (pc := 12) C lr_d_Node_sendPass_12 0 rfl ?_
  obtain ⟨hb2, h⟩ := lr_gd h
  refine lr_a6 (pc := 14) C lr_d_Node_sendPass_14 hb2 ?_
  refine lr_astore (pc := 15) (ls' := [(6, .inr (7, (8 * n + (lr_rd t 11 n a1.toNatClampNeg).toNatClampNeg))), (5, .inl (lr_rd t 11 n a1.toNatClampNeg)), (0, .inr (5, n)), (1, .inl a1), (2, .inl a2), (3, .inl a3), (4, .inl a4)]) C lr_d_Node_sendPass_15 (by decide) rfl ?_
  refine lr_aload_n (pc := 17) C lr_d_Node_sendPass_17 rfl 2 rfl ?_
  refine lr_iload (pc := 18) C lr_d_Node_sendPass_18 1 rfl ?_
  refine lr_iload (pc := 20) C lr_d_Node_sendPass_20 6 rfl ?_
  obtain ⟨u3, hu4, h⟩ := lr_bd h
  refine lr_callVv (pc := 22) (as := [.inl (lr_rd t 11 n a1.toNatClampNeg), .inl a4]) (st := []) (fs := fun ad => lr_fs2 t n ad) C (lr_r_Node_pinDown hu4) lr_c2_86 lr_d_Node_sendPass_22 rfl rfl (fun _ _ => rfl) (ci := 2) rfl rfl ⟨by decide, by decide⟩ (Nat.le_of_ble_eq_true rfl) ?_
  refine lr_aload (pc := 25) C lr_d_Node_sendPass_25 0 rfl ?_
  refine lr_g2_65 (pc := 27) C lr_d_Node_sendPass_27 ?_
  refine lr_iconst (pc := 30) (v := 1) C lr_d_Node_sendPass_30 (by decide) ?_
  refine lr_icmp_ne (pc := 31) (tgt := 41) C lr_d_Node_sendPass_31 (by decide) (fun hc5 => ?_) (fun hc5 => ?_)
  · have h := lr_ng hc5 h
    refine lr_aload (pc := 41) C lr_d_Node_sendPass_41 0 rfl ?_
    refine lr_g2_90 (pc := 43) C lr_d_Node_sendPass_43 ?_
    refine lr_istore (pc := 46) (ls' := [(7, .inl (lr_rd u3 7 (8 * n + (lr_rd t 11 n a1.toNatClampNeg).toNatClampNeg) 6)), (6, .inr (7, (8 * n + (lr_rd t 11 n a1.toNatClampNeg).toNatClampNeg))), (5, .inl (lr_rd t 11 n a1.toNatClampNeg)), (0, .inr (5, n)), (1, .inl a1), (2, .inl a2), (3, .inl a3), (4, .inl a4)]) C lr_d_Node_sendPass_46 (by decide) rfl ?_
    refine lr_aload_n (pc := 48) C lr_d_Node_sendPass_48 rfl 3 rfl ?_
    refine lr_g2_15 (pc := 49) C lr_d_Node_sendPass_49 ?_
    refine lr_iconst (pc := 52) (v := 0) C lr_d_Node_sendPass_52 (by decide) ?_
    refine lr_aload_n (pc := 53) C lr_d_Node_sendPass_53 rfl 3 rfl ?_
    refine lr_g2_9 (pc := 54) C lr_d_Node_sendPass_54 ?_
    refine lr_iload_n (pc := 57) C lr_d_Node_sendPass_57 rfl 5 rfl ?_
    refine lr_aload (pc := 58) C lr_d_Node_sendPass_58 1 rfl ?_
    refine lr_g2_68 (pc := 60) C lr_d_Node_sendPass_60 ?_
    refine lr_iload (pc := 63) C lr_d_Node_sendPass_63 7 rfl ?_
    refine lr_iconst (pc := 65) (v := 4) C lr_d_Node_sendPass_65 (by decide) ?_
    refine lr_iload_n (pc := 66) C lr_d_Node_sendPass_66 rfl 6 rfl ?_
    refine lr_imul (pc := 67) C lr_d_Node_sendPass_67 ?_
    refine lr_iload (pc := 68) C lr_d_Node_sendPass_68 0 rfl ?_
    refine lr_iadd (pc := 70) C lr_d_Node_sendPass_70 ?_
    obtain ⟨u6, hu7, h⟩ := lr_bd h
    refine lr_callVv (pc := 71) (as := [.inl (0 : Int32), .inl (lr_rd u3 5 n 0), .inl a2, .inl (lr_rd u3 7 (8 * n + (lr_rd t 11 n a1.toNatClampNeg).toNatClampNeg) 1), .inl a4, .inl (((4 : Int32) * a3) + (lr_rd u3 7 (8 * n + (lr_rd t 11 n a1.toNatClampNeg).toNatClampNeg) 6))]) (st := []) (fs := fun ad => lr_fs1 u3 0 ad) C (lr_r_Network_send hu7) lr_c2_93 lr_d_Node_sendPass_71 rfl rfl (fun _ _ => rfl) (ci := 1) rfl rfl ⟨by decide, by decide⟩ (Nat.le_of_ble_eq_true rfl) ?_
    have e := Option.some.inj h
    subst e
    exact lr_vret C E lr_d_Node_sendPass_74
  · have h := lr_ps hc5 h
    refine lr_aload_n (pc := 34) C lr_d_Node_sendPass_34 rfl 2 rfl ?_
    refine lr_g2_9 (pc := 35) C lr_d_Node_sendPass_35 ?_
    refine lr_goto (pc := 38) (tgt := 46) C lr_d_Node_sendPass_38 (by decide) ?_
    refine lr_istore (pc := 46) (ls' := [(7, .inl (lr_rd u3 5 n 0)), (6, .inr (7, (8 * n + (lr_rd t 11 n a1.toNatClampNeg).toNatClampNeg))), (5, .inl (lr_rd t 11 n a1.toNatClampNeg)), (0, .inr (5, n)), (1, .inl a1), (2, .inl a2), (3, .inl a3), (4, .inl a4)]) C lr_d_Node_sendPass_46 (by decide) rfl ?_
    refine lr_aload_n (pc := 48) C lr_d_Node_sendPass_48 rfl 3 rfl ?_
    refine lr_g2_15 (pc := 49) C lr_d_Node_sendPass_49 ?_
    refine lr_iconst (pc := 52) (v := 0) C lr_d_Node_sendPass_52 (by decide) ?_
    refine lr_aload_n (pc := 53) C lr_d_Node_sendPass_53 rfl 3 rfl ?_
    refine lr_g2_9 (pc := 54) C lr_d_Node_sendPass_54 ?_
    refine lr_iload_n (pc := 57) C lr_d_Node_sendPass_57 rfl 5 rfl ?_
    refine lr_aload (pc := 58) C lr_d_Node_sendPass_58 1 rfl ?_
    refine lr_g2_68 (pc := 60) C lr_d_Node_sendPass_60 ?_
    refine lr_iload (pc := 63) C lr_d_Node_sendPass_63 7 rfl ?_
    refine lr_iconst (pc := 65) (v := 4) C lr_d_Node_sendPass_65 (by decide) ?_
    refine lr_iload_n (pc := 66) C lr_d_Node_sendPass_66 rfl 6 rfl ?_
    refine lr_imul (pc := 67) C lr_d_Node_sendPass_67 ?_
    refine lr_iload (pc := 68) C lr_d_Node_sendPass_68 0 rfl ?_
    refine lr_iadd (pc := 70) C lr_d_Node_sendPass_70 ?_
    obtain ⟨u8, hu9, h⟩ := lr_bd h
    refine lr_callVv (pc := 71) (as := [.inl (0 : Int32), .inl (lr_rd u3 5 n 0), .inl a2, .inl (lr_rd u3 7 (8 * n + (lr_rd t 11 n a1.toNatClampNeg).toNatClampNeg) 1), .inl a4, .inl (((4 : Int32) * a3) + (lr_rd u3 5 n 0))]) (st := []) (fs := fun ad => lr_fs1 u3 0 ad) C (lr_r_Network_send hu9) lr_c2_93 lr_d_Node_sendPass_71 rfl rfl (fun _ _ => rfl) (ci := 1) rfl rfl ⟨by decide, by decide⟩ (Nat.le_of_ble_eq_true rfl) ?_
    have e := Option.some.inj h
    subst e
    exact lr_vret C E lr_d_Node_sendPass_74
def lr_G_Node_sendRequest (n : Nat) (t : lr_S) : Option (lr_S) := if lr_in (lr_rd t 14 n 2) 8 = true then ((lr_G_Network_send (6 : Int32) (lr_rd (lr_wr t 14 n 4 (lr_rd t 1 0 0)) 5 n 0) (lr_rd (lr_wr t 14 n 4 (lr_rd t 1 0 0)) 7 (8 * n + (lr_rd t 14 n 2).toNatClampNeg) 6) (lr_rd (lr_wr t 14 n 4 (lr_rd t 1 0 0)) 7 (8 * n + (lr_rd t 14 n 2).toNatClampNeg) 1) (lr_rd (lr_wr t 14 n 4 (lr_rd t 1 0 0)) 14 n 1) (lr_rd (lr_wr t 14 n 4 (lr_rd t 1 0 0)) 14 n 3) (lr_wr t 14 n 4 (lr_rd t 1 0 0))).bind fun u2 => (some u2)) else none
set_option maxHeartbeats 4000000 in
theorem lr_r_Node_sendRequest {n : Nat} {t o : lr_S} (h : lr_G_Node_sendRequest n t = some o) : lr_RV 0 20 lr_m_Node_sendRequest [.inr (5, n)] t o := by
  refine lr_ofV (own := lr_R2) (by decide) rfl rfl (Nat.le_of_ble_eq_true rfl) (fun X C E => ?_)
  show lr_T X 0 [(0, .inr (5, n))] [] t
  have h := (show (if lr_in (lr_rd t 14 n 2) 8 = true then ((lr_G_Network_send (6 : Int32) (lr_rd (lr_wr t 14 n 4 (lr_rd t 1 0 0)) 5 n 0) (lr_rd (lr_wr t 14 n 4 (lr_rd t 1 0 0)) 7 (8 * n + (lr_rd t 14 n 2).toNatClampNeg) 6) (lr_rd (lr_wr t 14 n 4 (lr_rd t 1 0 0)) 7 (8 * n + (lr_rd t 14 n 2).toNatClampNeg) 1) (lr_rd (lr_wr t 14 n 4 (lr_rd t 1 0 0)) 14 n 1) (lr_rd (lr_wr t 14 n 4 (lr_rd t 1 0 0)) 14 n 3) (lr_wr t 14 n 4 (lr_rd t 1 0 0))).bind fun u2 => (some u2)) else none) = some o from h)
  refine lr_aload_n (pc := 0) C lr_d_Node_sendRequest_0 rfl 0 rfl ?_
  refine lr_g2_21 (pc := 1) C lr_d_Node_sendRequest_1 ?_
  refine lr_aload_n (pc := 4) C lr_d_Node_sendRequest_4 rfl 0 rfl ?_
  refine lr_g2_40 (pc := 5) C lr_d_Node_sendRequest_5 ?_
  refine lr_g2_104 (pc := 8) C lr_d_Node_sendRequest_8 ?_
  obtain ⟨hb1, h⟩ := lr_gd h
  refine lr_a6 (pc := 11) C lr_d_Node_sendRequest_11 hb1 ?_
  refine lr_astore_n (pc := 12) (ls' := [(1, .inr (7, (8 * n + (lr_rd t 14 n 2).toNatClampNeg))), (0, .inr (5, n))]) C lr_d_Node_sendRequest_12 rfl (by decide) rfl ?_
  refine lr_aload_n (pc := 13) C lr_d_Node_sendRequest_13 rfl 1 rfl ?_
  refine lr_g2_40 (pc := 14) C lr_d_Node_sendRequest_14 ?_
  refine lr_aload_n (pc := 17) C lr_d_Node_sendRequest_17 rfl 1 rfl ?_
  refine lr_g2_15 (pc := 18) C lr_d_Node_sendRequest_18 ?_
  refine lr_g2_71 (pc := 21) C lr_d_Node_sendRequest_21 ?_
  refine lr_p2_111 (pc := 24) C lr_d_Node_sendRequest_24 ?_
  refine lr_aload_n (pc := 27) C lr_d_Node_sendRequest_27 rfl 1 rfl ?_
  refine lr_g2_15 (pc := 28) C lr_d_Node_sendRequest_28 ?_
  refine lr_bipush (pc := 31) (v := 6) C lr_d_Node_sendRequest_31 (by decide) ?_
  refine lr_aload_n (pc := 33) C lr_d_Node_sendRequest_33 rfl 1 rfl ?_
  refine lr_g2_9 (pc := 34) C lr_d_Node_sendRequest_34 ?_
  refine lr_aload_n (pc := 37) C lr_d_Node_sendRequest_37 rfl 0 rfl ?_
  refine lr_g2_90 (pc := 38) C lr_d_Node_sendRequest_38 ?_
  refine lr_aload_n (pc := 41) C lr_d_Node_sendRequest_41 rfl 0 rfl ?_
  refine lr_g2_68 (pc := 42) C lr_d_Node_sendRequest_42 ?_
  refine lr_aload_n (pc := 45) C lr_d_Node_sendRequest_45 rfl 1 rfl ?_
  refine lr_g2_40 (pc := 46) C lr_d_Node_sendRequest_46 ?_
  refine lr_g2_101 (pc := 49) C lr_d_Node_sendRequest_49 ?_
  refine lr_aload_n (pc := 52) C lr_d_Node_sendRequest_52 rfl 1 rfl ?_
  refine lr_g2_40 (pc := 53) C lr_d_Node_sendRequest_53 ?_
  refine lr_g2_105 (pc := 56) C lr_d_Node_sendRequest_56 ?_
  obtain ⟨u2, hu3, h⟩ := lr_bd h
  refine lr_callVv (pc := 59) (as := [.inl (6 : Int32), .inl (lr_rd (lr_wr t 14 n 4 (lr_rd t 1 0 0)) 5 n 0), .inl (lr_rd (lr_wr t 14 n 4 (lr_rd t 1 0 0)) 7 (8 * n + (lr_rd t 14 n 2).toNatClampNeg) 6), .inl (lr_rd (lr_wr t 14 n 4 (lr_rd t 1 0 0)) 7 (8 * n + (lr_rd t 14 n 2).toNatClampNeg) 1), .inl (lr_rd (lr_wr t 14 n 4 (lr_rd t 1 0 0)) 14 n 1), .inl (lr_rd (lr_wr t 14 n 4 (lr_rd t 1 0 0)) 14 n 3)]) (st := []) (fs := fun ad => lr_fs1 (lr_wr t 14 n 4 (lr_rd t 1 0 0)) 0 ad) C (lr_r_Network_send hu3) lr_c2_93 lr_d_Node_sendRequest_59 rfl rfl (fun _ _ => rfl) (ci := 1) rfl rfl ⟨by decide, by decide⟩ (Nat.le_of_ble_eq_true rfl) ?_
  have e := Option.some.inj h
  subst e
  exact lr_vret C E lr_d_Node_sendRequest_62
def lr_G_Node_startRequest (n : Nat) (a1 : Int32) (a2 : Int32) (t : lr_S) : Option (lr_S) := (some (lr_wr (lr_wr t 14 n 0 (1 : Int32)) 14 n 1 ((lr_rd (lr_wr t 14 n 0 (1 : Int32)) 14 n 1) + (1 : Int32)))).bind fun t1 => ((lr_G_Node_sendRequest n (lr_wr (lr_wr t1 14 n 2 a1) 14 n 3 a2)).bind fun u3 => (some u3))
set_option maxHeartbeats 4000000 in
theorem lr_r_Node_startRequest {n : Nat} {a1 : Int32} {a2 : Int32} {t o : lr_S} (h : lr_G_Node_startRequest n a1 a2 t = some o) : lr_RV 0 20 lr_m_Node_startRequest [.inr (5, n), .inl a1, .inl a2] t o := by
  refine lr_ofV (own := lr_R2) (by decide) rfl rfl (Nat.le_of_ble_eq_true rfl) (fun X C E => ?_)
  show lr_T X 0 [(0, .inr (5, n)), (1, .inl a1), (2, .inl a2)] [] t
  have h := (show ((some (lr_wr (lr_wr t 14 n 0 (1 : Int32)) 14 n 1 ((lr_rd (lr_wr t 14 n 0 (1 : Int32)) 14 n 1) + (1 : Int32)))).bind fun t1 => ((lr_G_Node_sendRequest n (lr_wr (lr_wr t1 14 n 2 a1) 14 n 3 a2)).bind fun u3 => (some u3))) = some o from h)
  refine lr_aload_n (pc := 0) C lr_d_Node_startRequest_0 rfl 0 rfl ?_
  refine lr_g2_40 (pc := 1) C lr_d_Node_startRequest_1 ?_
  refine lr_iconst (pc := 4) (v := 1) C lr_d_Node_startRequest_4 (by decide) ?_
  refine lr_p2_44 (pc := 5) C lr_d_Node_startRequest_5 ?_
  refine lr_aload_n (pc := 8) C lr_d_Node_startRequest_8 rfl 0 rfl ?_
  refine lr_g2_40 (pc := 9) C lr_d_Node_startRequest_9 ?_
  refine lr_dup (pc := 12) C lr_d_Node_startRequest_12 ?_
  refine lr_g2_101 (pc := 13) C lr_d_Node_startRequest_13 ?_
  refine lr_iconst (pc := 16) (v := 1) C lr_d_Node_startRequest_16 (by decide) ?_
  refine lr_iadd (pc := 17) C lr_d_Node_startRequest_17 ?_
  refine lr_p2_101 (pc := 18) C lr_d_Node_startRequest_18 ?_
  obtain ⟨t1, ht2, h⟩ := lr_bd h
  rw [Option.some.inj ht2]
  refine lr_aload_n (pc := 21) C lr_d_Node_startRequest_21 rfl 0 rfl ?_
  refine lr_g2_40 (pc := 22) C lr_d_Node_startRequest_22 ?_
  refine lr_iload_n (pc := 25) C lr_d_Node_startRequest_25 rfl 1 rfl ?_
  refine lr_p2_104 (pc := 26) C lr_d_Node_startRequest_26 ?_
  refine lr_aload_n (pc := 29) C lr_d_Node_startRequest_29 rfl 0 rfl ?_
  refine lr_g2_40 (pc := 30) C lr_d_Node_startRequest_30 ?_
  refine lr_iload_n (pc := 33) C lr_d_Node_startRequest_33 rfl 2 rfl ?_
  refine lr_p2_105 (pc := 34) C lr_d_Node_startRequest_34 ?_
  refine lr_aload_n (pc := 37) C lr_d_Node_startRequest_37 rfl 0 rfl ?_
  obtain ⟨u3, hu4, h⟩ := lr_bd h
  refine lr_callVv (pc := 38) (as := []) (st := []) (fs := fun ad => lr_fs2 (lr_wr (lr_wr t1 14 n 2 a1) 14 n 3 a2) n ad) C (lr_r_Node_sendRequest hu4) lr_c2_108 lr_d_Node_startRequest_38 rfl rfl (fun _ _ => rfl) (ci := 2) rfl rfl ⟨by decide, by decide⟩ (Nat.le_of_ble_eq_true rfl) ?_
  have e := Option.some.inj h
  subst e
  exact lr_vret C E lr_d_Node_startRequest_41
def lr_G_Node_sendDirty (n : Nat) (a1 : Nat) (t : lr_S) : Option (lr_S) := (some (lr_wr (lr_wr t 5 n 8 ((lr_rd t 5 n 8) + (1 : Int32))) 7 a1 8 (lr_rd (lr_wr t 5 n 8 ((lr_rd t 5 n 8) + (1 : Int32))) 1 0 0))).bind fun t1 => ((lr_G_Network_send (2 : Int32) (lr_rd t1 5 n 0) (lr_rd t1 7 a1 6) (lr_rd t1 7 a1 1) (lr_rd t1 5 n 8) (lr_rd t1 1 0 0) t1).bind fun u3 => (some u3))
set_option maxHeartbeats 4000000 in
theorem lr_r_Node_sendDirty {n : Nat} {a1 : Nat} {t o : lr_S} (h : lr_G_Node_sendDirty n a1 t = some o) : lr_RV 0 20 lr_m_Node_sendDirty [.inr (5, n), .inr (7, a1)] t o := by
  refine lr_ofV (own := lr_R2) (by decide) rfl rfl (Nat.le_of_ble_eq_true rfl) (fun X C E => ?_)
  show lr_T X 0 [(0, .inr (5, n)), (1, .inr (7, a1))] [] t
  have h := (show ((some (lr_wr (lr_wr t 5 n 8 ((lr_rd t 5 n 8) + (1 : Int32))) 7 a1 8 (lr_rd (lr_wr t 5 n 8 ((lr_rd t 5 n 8) + (1 : Int32))) 1 0 0))).bind fun t1 => ((lr_G_Network_send (2 : Int32) (lr_rd t1 5 n 0) (lr_rd t1 7 a1 6) (lr_rd t1 7 a1 1) (lr_rd t1 5 n 8) (lr_rd t1 1 0 0) t1).bind fun u3 => (some u3))) = some o from h)
  refine lr_aload_n (pc := 0) C lr_d_Node_sendDirty_0 rfl 0 rfl ?_
  refine lr_dup (pc := 1) C lr_d_Node_sendDirty_1 ?_
  refine lr_g2_58 (pc := 2) C lr_d_Node_sendDirty_2 ?_
  refine lr_iconst (pc := 5) (v := 1) C lr_d_Node_sendDirty_5 (by decide) ?_
  refine lr_iadd (pc := 6) C lr_d_Node_sendDirty_6 ?_
  refine lr_p2_58 (pc := 7) C lr_d_Node_sendDirty_7 ?_
  refine lr_aload_n (pc := 10) C lr_d_Node_sendDirty_10 rfl 1 rfl ?_
  refine lr_aload_n (pc := 11) C lr_d_Node_sendDirty_11 rfl 0 rfl ?_
  refine lr_g2_15 (pc := 12) C lr_d_Node_sendDirty_12 ?_
  refine lr_g2_71 (pc := 15) C lr_d_Node_sendDirty_15 ?_
  refine lr_p2_114 (pc := 18) C lr_d_Node_sendDirty_18 ?_
  obtain ⟨t1, ht2, h⟩ := lr_bd h
  rw [Option.some.inj ht2]
  refine lr_aload_n (pc := 21) C lr_d_Node_sendDirty_21 rfl 0 rfl ?_
  refine lr_g2_15 (pc := 22) C lr_d_Node_sendDirty_22 ?_
  refine lr_iconst (pc := 25) (v := 2) C lr_d_Node_sendDirty_25 (by decide) ?_
  refine lr_aload_n (pc := 26) C lr_d_Node_sendDirty_26 rfl 0 rfl ?_
  refine lr_g2_9 (pc := 27) C lr_d_Node_sendDirty_27 ?_
  refine lr_aload_n (pc := 30) C lr_d_Node_sendDirty_30 rfl 1 rfl ?_
  refine lr_g2_90 (pc := 31) C lr_d_Node_sendDirty_31 ?_
  refine lr_aload_n (pc := 34) C lr_d_Node_sendDirty_34 rfl 1 rfl ?_
  refine lr_g2_68 (pc := 35) C lr_d_Node_sendDirty_35 ?_
  refine lr_aload_n (pc := 38) C lr_d_Node_sendDirty_38 rfl 0 rfl ?_
  refine lr_g2_58 (pc := 39) C lr_d_Node_sendDirty_39 ?_
  refine lr_aload_n (pc := 42) C lr_d_Node_sendDirty_42 rfl 0 rfl ?_
  refine lr_g2_15 (pc := 43) C lr_d_Node_sendDirty_43 ?_
  refine lr_g2_71 (pc := 46) C lr_d_Node_sendDirty_46 ?_
  obtain ⟨u3, hu4, h⟩ := lr_bd h
  refine lr_callVv (pc := 49) (as := [.inl (2 : Int32), .inl (lr_rd t1 5 n 0), .inl (lr_rd t1 7 a1 6), .inl (lr_rd t1 7 a1 1), .inl (lr_rd t1 5 n 8), .inl (lr_rd t1 1 0 0)]) (st := []) (fs := fun ad => lr_fs1 t1 0 ad) C (lr_r_Network_send hu4) lr_c2_93 lr_d_Node_sendDirty_49 rfl rfl (fun _ _ => rfl) (ci := 1) rfl rfl ⟨by decide, by decide⟩ (Nat.le_of_ble_eq_true rfl) ?_
  have e := Option.some.inj h
  subst e
  exact lr_vret C E lr_d_Node_sendDirty_52
def lr_G_Node_sendClean (n : Nat) (a1 : Nat) (t : lr_S) : Option (lr_S) := (lr_G_Network_send (5 : Int32) (lr_rd (lr_wr t 5 n 8 ((lr_rd t 5 n 8) + (1 : Int32))) 5 n 0) (lr_rd (lr_wr t 5 n 8 ((lr_rd t 5 n 8) + (1 : Int32))) 7 a1 6) (lr_rd (lr_wr t 5 n 8 ((lr_rd t 5 n 8) + (1 : Int32))) 7 a1 1) (lr_rd (lr_wr t 5 n 8 ((lr_rd t 5 n 8) + (1 : Int32))) 5 n 8) (0 : Int32) (lr_wr t 5 n 8 ((lr_rd t 5 n 8) + (1 : Int32)))).bind fun u1 => (some u1)
set_option maxHeartbeats 4000000 in
theorem lr_r_Node_sendClean {n : Nat} {a1 : Nat} {t o : lr_S} (h : lr_G_Node_sendClean n a1 t = some o) : lr_RV 0 20 lr_m_Node_sendClean [.inr (5, n), .inr (7, a1)] t o := by
  refine lr_ofV (own := lr_R2) (by decide) rfl rfl (Nat.le_of_ble_eq_true rfl) (fun X C E => ?_)
  show lr_T X 0 [(0, .inr (5, n)), (1, .inr (7, a1))] [] t
  have h := (show ((lr_G_Network_send (5 : Int32) (lr_rd (lr_wr t 5 n 8 ((lr_rd t 5 n 8) + (1 : Int32))) 5 n 0) (lr_rd (lr_wr t 5 n 8 ((lr_rd t 5 n 8) + (1 : Int32))) 7 a1 6) (lr_rd (lr_wr t 5 n 8 ((lr_rd t 5 n 8) + (1 : Int32))) 7 a1 1) (lr_rd (lr_wr t 5 n 8 ((lr_rd t 5 n 8) + (1 : Int32))) 5 n 8) (0 : Int32) (lr_wr t 5 n 8 ((lr_rd t 5 n 8) + (1 : Int32)))).bind fun u1 => (some u1)) = some o from h)
  refine lr_aload_n (pc := 0) C lr_d_Node_sendClean_0 rfl 0 rfl ?_
  refine lr_dup (pc := 1) C lr_d_Node_sendClean_1 ?_
  refine lr_g2_58 (pc := 2) C lr_d_Node_sendClean_2 ?_
  refine lr_iconst (pc := 5) (v := 1) C lr_d_Node_sendClean_5 (by decide) ?_
  refine lr_iadd (pc := 6) C lr_d_Node_sendClean_6 ?_
  refine lr_p2_58 (pc := 7) C lr_d_Node_sendClean_7 ?_
  refine lr_aload_n (pc := 10) C lr_d_Node_sendClean_10 rfl 0 rfl ?_
  refine lr_g2_15 (pc := 11) C lr_d_Node_sendClean_11 ?_
  refine lr_iconst (pc := 14) (v := 5) C lr_d_Node_sendClean_14 (by decide) ?_
  refine lr_aload_n (pc := 15) C lr_d_Node_sendClean_15 rfl 0 rfl ?_
  refine lr_g2_9 (pc := 16) C lr_d_Node_sendClean_16 ?_
  refine lr_aload_n (pc := 19) C lr_d_Node_sendClean_19 rfl 1 rfl ?_
  refine lr_g2_90 (pc := 20) C lr_d_Node_sendClean_20 ?_
  refine lr_aload_n (pc := 23) C lr_d_Node_sendClean_23 rfl 1 rfl ?_
  refine lr_g2_68 (pc := 24) C lr_d_Node_sendClean_24 ?_
  refine lr_aload_n (pc := 27) C lr_d_Node_sendClean_27 rfl 0 rfl ?_
  refine lr_g2_58 (pc := 28) C lr_d_Node_sendClean_28 ?_
  refine lr_iconst (pc := 31) (v := 0) C lr_d_Node_sendClean_31 (by decide) ?_
  obtain ⟨u1, hu2, h⟩ := lr_bd h
  refine lr_callVv (pc := 32) (as := [.inl (5 : Int32), .inl (lr_rd (lr_wr t 5 n 8 ((lr_rd t 5 n 8) + (1 : Int32))) 5 n 0), .inl (lr_rd (lr_wr t 5 n 8 ((lr_rd t 5 n 8) + (1 : Int32))) 7 a1 6), .inl (lr_rd (lr_wr t 5 n 8 ((lr_rd t 5 n 8) + (1 : Int32))) 7 a1 1), .inl (lr_rd (lr_wr t 5 n 8 ((lr_rd t 5 n 8) + (1 : Int32))) 5 n 8), .inl (0 : Int32)]) (st := []) (fs := fun ad => lr_fs1 (lr_wr t 5 n 8 ((lr_rd t 5 n 8) + (1 : Int32))) 0 ad) C (lr_r_Network_send hu2) lr_c2_93 lr_d_Node_sendClean_32 rfl rfl (fun _ _ => rfl) (ci := 1) rfl rfl ⟨by decide, by decide⟩ (Nat.le_of_ble_eq_true rfl) ?_
  have e := Option.some.inj h
  subst e
  exact lr_vret C E lr_d_Node_sendClean_35
def lr_G_Slot_owe (n : Nat) (a1 : Nat) (t : lr_S) : Option (lr_S) := (some (lr_wr (lr_wr t 7 n 11 (lr_rd t 3 a1 1)) 7 n 12 (lr_rd (lr_wr t 7 n 11 (lr_rd t 3 a1 1)) 3 a1 4))).bind fun t1 => (some t1)
set_option maxHeartbeats 4000000 in
theorem lr_r_Slot_owe {n : Nat} {a1 : Nat} {t o : lr_S} (h : lr_G_Slot_owe n a1 t = some o) : lr_RV 0 20 lr_m_Slot_owe [.inr (7, n), .inr (3, a1)] t o := by
  refine lr_ofV (own := lr_R5) (by decide) rfl rfl (Nat.le_of_ble_eq_true rfl) (fun X C E => ?_)
  show lr_T X 0 [(0, .inr (7, n)), (1, .inr (3, a1))] [] t
  have h := (show ((some (lr_wr (lr_wr t 7 n 11 (lr_rd t 3 a1 1)) 7 n 12 (lr_rd (lr_wr t 7 n 11 (lr_rd t 3 a1 1)) 3 a1 4))).bind fun t1 => (some t1)) = some o from h)
  refine lr_aload_n (pc := 0) C lr_d_Slot_owe_0 rfl 0 rfl ?_
  refine lr_aload_n (pc := 1) C lr_d_Slot_owe_1 rfl 1 rfl ?_
  refine lr_g5_45 (pc := 2) C lr_d_Slot_owe_2 ?_
  refine lr_p5_50 (pc := 5) C lr_d_Slot_owe_5 ?_
  refine lr_aload_n (pc := 8) C lr_d_Slot_owe_8 rfl 0 rfl ?_
  refine lr_aload_n (pc := 9) C lr_d_Slot_owe_9 rfl 1 rfl ?_
  refine lr_g5_53 (pc := 10) C lr_d_Slot_owe_10 ?_
  refine lr_p5_56 (pc := 13) C lr_d_Slot_owe_13 ?_
  obtain ⟨t1, ht2, h⟩ := lr_bd h
  rw [Option.some.inj ht2]
  have e := Option.some.inj h
  subst e
  exact lr_vret C E lr_d_Slot_owe_16
def lr_G_Node_becomePending (n : Nat) (a1 : Nat) (a2 : Nat) (t : lr_S) : Option (lr_S) := (some (lr_wr (lr_wr t 7 a1 10 (0 : Int32)) 7 a1 9 ((lr_rd (lr_wr t 7 a1 10 (0 : Int32)) 1 0 0) + (24 : Int32)))).bind fun t1 => ((lr_G_Node_sendDirty n a1 t1).bind fun u3 => ((lr_G_Slot_owe a1 a2 (lr_wr u3 7 a1 7 (lr_rd u3 5 n 8))).bind fun u5 => (some u5)))
set_option maxHeartbeats 4000000 in
theorem lr_r_Node_becomePending {n : Nat} {a1 : Nat} {a2 : Nat} {t o : lr_S} (h : lr_G_Node_becomePending n a1 a2 t = some o) : lr_RV 0 20 lr_m_Node_becomePending [.inr (5, n), .inr (7, a1), .inr (3, a2)] t o := by
  refine lr_ofV (own := lr_R2) (by decide) rfl rfl (Nat.le_of_ble_eq_true rfl) (fun X C E => ?_)
  show lr_T X 0 [(0, .inr (5, n)), (1, .inr (7, a1)), (2, .inr (3, a2))] [] t
  have h := (show ((some (lr_wr (lr_wr t 7 a1 10 (0 : Int32)) 7 a1 9 ((lr_rd (lr_wr t 7 a1 10 (0 : Int32)) 1 0 0) + (24 : Int32)))).bind fun t1 => ((lr_G_Node_sendDirty n a1 t1).bind fun u3 => ((lr_G_Slot_owe a1 a2 (lr_wr u3 7 a1 7 (lr_rd u3 5 n 8))).bind fun u5 => (some u5)))) = some o from h)
  refine lr_aload_n (pc := 0) C lr_d_Node_becomePending_0 rfl 1 rfl ?_
  refine lr_iconst (pc := 1) (v := 0) C lr_d_Node_becomePending_1 (by decide) ?_
  refine lr_p2_115 (pc := 2) C lr_d_Node_becomePending_2 (by decide) (by decide) ?_
  refine lr_aload_n (pc := 5) C lr_d_Node_becomePending_5 rfl 1 rfl ?_
  refine lr_aload_n (pc := 6) C lr_d_Node_becomePending_6 rfl 0 rfl ?_
  refine lr_g2_15 (pc := 7) C lr_d_Node_becomePending_7 ?_
  refine lr_g2_71 (pc := 10) C lr_d_Node_becomePending_10 ?_
  refine lr_bipush (pc := 13) (v := 24) C lr_d_Node_becomePending_13 (by decide) ?_
  refine lr_iadd (pc := 15) C lr_d_Node_becomePending_15 ?_
  refine lr_p2_118 (pc := 16) C lr_d_Node_becomePending_16 ?_
  obtain ⟨t1, ht2, h⟩ := lr_bd h
  rw [Option.some.inj ht2]
  refine lr_aload_n (pc := 19) C lr_d_Node_becomePending_19 rfl 0 rfl ?_
  refine lr_aload_n (pc := 20) C lr_d_Node_becomePending_20 rfl 1 rfl ?_
  obtain ⟨u3, hu4, h⟩ := lr_bd h
  refine lr_callVv (pc := 21) (as := [.inr (7, a1)]) (st := []) (fs := fun ad => lr_fs2 t1 n ad) C (lr_r_Node_sendDirty hu4) lr_c2_121 lr_d_Node_becomePending_21 rfl rfl (fun _ _ => rfl) (ci := 2) rfl rfl ⟨by decide, by decide⟩ (Nat.le_of_ble_eq_true rfl) ?_
  refine lr_aload_n (pc := 24) C lr_d_Node_becomePending_24 rfl 1 rfl ?_
  refine lr_aload_n (pc := 25) C lr_d_Node_becomePending_25 rfl 0 rfl ?_
  refine lr_g2_58 (pc := 26) C lr_d_Node_becomePending_26 ?_
  refine lr_p2_125 (pc := 29) C lr_d_Node_becomePending_29 ?_
  refine lr_aload_n (pc := 32) C lr_d_Node_becomePending_32 rfl 1 rfl ?_
  refine lr_aload_n (pc := 33) C lr_d_Node_becomePending_33 rfl 2 rfl ?_
  obtain ⟨u5, hu6, h⟩ := lr_bd h
  refine lr_callVv (pc := 34) (as := [.inr (3, a2)]) (st := []) (fs := fun ad => lr_fs5 (lr_wr u3 7 a1 7 (lr_rd u3 5 n 8)) a1 ad) C (lr_r_Slot_owe hu6) lr_c2_128 lr_d_Node_becomePending_34 rfl rfl (fun _ _ => rfl) (ci := 5) rfl rfl ⟨by decide, by decide⟩ (Nat.le_of_ble_eq_true rfl) ?_
  have e := Option.some.inj h
  subst e
  exact lr_vret C E lr_d_Node_becomePending_37
def lr_G_Slot_isFreshSurrogate (n : Nat) (a1 : Int32) (t : lr_S) : Option (Int32 × lr_S) := if (lr_rd t 7 n 0) = (2 : Int32) then ((lr_G_Slot_state n a1 t).bind fun u2 => (if u2.1 = (2 : Int32) then (some ((0 : Int32), u2.2)) else (some ((1 : Int32), u2.2)))) else (some ((0 : Int32), t))
set_option maxHeartbeats 4000000 in
theorem lr_r_Slot_isFreshSurrogate {n : Nat} {a1 : Int32} {t : lr_S} {o : Int32 × lr_S} (h : lr_G_Slot_isFreshSurrogate n a1 t = some o) : lr_RI 0 20 lr_m_Slot_isFreshSurrogate [.inr (7, n), .inl a1] t o.1 o.2 := by
  refine lr_ofI (ty := .boolean) (own := lr_R5) (by decide) rfl rfl (Nat.le_of_ble_eq_true rfl) (fun X C E => ?_)
  show lr_T X 0 [(0, .inr (7, n)), (1, .inl a1)] [] t
  have h := (show (if (lr_rd t 7 n 0) = (2 : Int32) then ((lr_G_Slot_state n a1 t).bind fun u2 => (if u2.1 = (2 : Int32) then (some ((0 : Int32), u2.2)) else (some ((1 : Int32), u2.2)))) else (some ((0 : Int32), t))) = some o from h)
  refine lr_aload_n (pc := 0) C lr_d_Slot_isFreshSurrogate_0 rfl 0 rfl ?_
  refine lr_g5_9 (pc := 1) C lr_d_Slot_isFreshSurrogate_1 ?_
  refine lr_iconst (pc := 4) (v := 2) C lr_d_Slot_isFreshSurrogate_4 (by decide) ?_
  refine lr_icmp_ne (pc := 5) (tgt := 21) C lr_d_Slot_isFreshSurrogate_5 (by decide) (fun hc1 => ?_) (fun hc1 => ?_)
  · have h := lr_ng hc1 h
    refine lr_iconst (pc := 21) (v := 0) C lr_d_Slot_isFreshSurrogate_21 (by decide) ?_
    have e := Option.some.inj h
    subst e
    exact lr_iret C E lr_d_Slot_isFreshSurrogate_22 (by decide)
  · have h := lr_ps hc1 h
    refine lr_aload_n (pc := 8) C lr_d_Slot_isFreshSurrogate_8 rfl 0 rfl ?_
    refine lr_iload_n (pc := 9) C lr_d_Slot_isFreshSurrogate_9 rfl 1 rfl ?_
    obtain ⟨u2, hu3, h⟩ := lr_bd h
    refine lr_callVi (pc := 10) (as := [.inl a1]) (st := []) (fs := fun ad => lr_fs5 t n ad) C (lr_r_Slot_state hu3) lr_c5_41 lr_d_Slot_isFreshSurrogate_10 rfl rfl (fun _ _ => rfl) (ci := 5) rfl rfl ⟨by decide, by decide⟩ (Nat.le_of_ble_eq_true rfl) ?_
    refine lr_iconst (pc := 13) (v := 2) C lr_d_Slot_isFreshSurrogate_13 (by decide) ?_
    refine lr_icmp_eq (pc := 14) (tgt := 21) C lr_d_Slot_isFreshSurrogate_14 (by decide) (fun hc4 => ?_) (fun hc4 => ?_)
    · have h := lr_ps hc4 h
      refine lr_iconst (pc := 21) (v := 0) C lr_d_Slot_isFreshSurrogate_21 (by decide) ?_
      have e := Option.some.inj h
      subst e
      exact lr_iret C E lr_d_Slot_isFreshSurrogate_22 (by decide)
    · have h := lr_ng hc4 h
      refine lr_iconst (pc := 17) (v := 1) C lr_d_Slot_isFreshSurrogate_17 (by decide) ?_
      refine lr_goto (pc := 18) (tgt := 22) C lr_d_Slot_isFreshSurrogate_18 (by decide) ?_
      have e := Option.some.inj h
      subst e
      exact lr_iret C E lr_d_Slot_isFreshSurrogate_22 (by decide)
def lr_G_Node_repeatRequest (n : Nat) (t : lr_S) : Option (lr_S) := if lr_in (lr_rd t 14 n 2) 8 = true then ((lr_G_Slot_isFreshSurrogate (8 * n + (lr_rd t 14 n 2).toNatClampNeg) (lr_rd t 1 0 0) t).bind fun u2 => (if u2.1 = 0 then (some (lr_wr u2.2 14 n 0 (3 : Int32))) else ((lr_G_Node_sendRequest n u2.2).bind fun u5 => (some u5)))) else none
set_option maxHeartbeats 4000000 in
theorem lr_r_Node_repeatRequest {n : Nat} {t o : lr_S} (h : lr_G_Node_repeatRequest n t = some o) : lr_RV 0 20 lr_m_Node_repeatRequest [.inr (5, n)] t o := by
  refine lr_ofV (own := lr_R2) (by decide) rfl rfl (Nat.le_of_ble_eq_true rfl) (fun X C E => ?_)
  show lr_T X 0 [(0, .inr (5, n))] [] t
  have h := (show (if lr_in (lr_rd t 14 n 2) 8 = true then ((lr_G_Slot_isFreshSurrogate (8 * n + (lr_rd t 14 n 2).toNatClampNeg) (lr_rd t 1 0 0) t).bind fun u2 => (if u2.1 = 0 then (some (lr_wr u2.2 14 n 0 (3 : Int32))) else ((lr_G_Node_sendRequest n u2.2).bind fun u5 => (some u5)))) else none) = some o from h)
  refine lr_aload_n (pc := 0) C lr_d_Node_repeatRequest_0 rfl 0 rfl ?_
  refine lr_g2_21 (pc := 1) C lr_d_Node_repeatRequest_1 ?_
  refine lr_aload_n (pc := 4) C lr_d_Node_repeatRequest_4 rfl 0 rfl ?_
  refine lr_g2_40 (pc := 5) C lr_d_Node_repeatRequest_5 ?_
  refine lr_g2_104 (pc := 8) C lr_d_Node_repeatRequest_8 ?_
  obtain ⟨hb1, h⟩ := lr_gd h
  refine lr_a6 (pc := 11) C lr_d_Node_repeatRequest_11 hb1 ?_
  refine lr_aload_n (pc := 12) C lr_d_Node_repeatRequest_12 rfl 0 rfl ?_
  refine lr_g2_15 (pc := 13) C lr_d_Node_repeatRequest_13 ?_
  refine lr_g2_71 (pc := 16) C lr_d_Node_repeatRequest_16 ?_
  obtain ⟨u2, hu3, h⟩ := lr_bd h
  refine lr_callVi (pc := 19) (as := [.inl (lr_rd t 1 0 0)]) (st := []) (fs := fun ad => lr_fs5 t (8 * n + (lr_rd t 14 n 2).toNatClampNeg) ad) C (lr_r_Slot_isFreshSurrogate hu3) lr_c2_132 lr_d_Node_repeatRequest_19 rfl rfl (fun _ _ => rfl) (ci := 5) rfl rfl ⟨by decide, by decide⟩ (Nat.le_of_ble_eq_true rfl) ?_
  refine lr_if_eq (pc := 22) (tgt := 32) C lr_d_Node_repeatRequest_22 (by decide) (fun hc4 => ?_) (fun hc4 => ?_)
  · have h := lr_ps hc4 h
    refine lr_aload_n (pc := 32) C lr_d_Node_repeatRequest_32 rfl 0 rfl ?_
    refine lr_g2_40 (pc := 33) C lr_d_Node_repeatRequest_33 ?_
    refine lr_iconst (pc := 36) (v := 3) C lr_d_Node_repeatRequest_36 (by decide) ?_
    refine lr_p2_44 (pc := 37) C lr_d_Node_repeatRequest_37 ?_
    have e := Option.some.inj h
    subst e
    exact lr_vret C E lr_d_Node_repeatRequest_40
  · have h := lr_ng hc4 h
    refine lr_aload_n (pc := 25) C lr_d_Node_repeatRequest_25 rfl 0 rfl ?_
    obtain ⟨u5, hu6, h⟩ := lr_bd h
    refine lr_callVv (pc := 26) (as := []) (st := []) (fs := fun ad => lr_fs2 u2.2 n ad) C (lr_r_Node_sendRequest hu6) lr_c2_108 lr_d_Node_repeatRequest_26 rfl rfl (fun _ _ => rfl) (ci := 2) rfl rfl ⟨by decide, by decide⟩ (Nat.le_of_ble_eq_true rfl) ?_
    refine lr_goto (pc := 29) (tgt := 40) C lr_d_Node_repeatRequest_29 (by decide) ?_
    have e := Option.some.inj h
    subst e
    exact lr_vret C E lr_d_Node_repeatRequest_40
