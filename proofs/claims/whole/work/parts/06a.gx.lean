def lr_G_Message_write (n : Nat) (a1 : Int32) (a2 : Int32) (a3 : Int32) (a4 : Int32) (a5 : Int32) (a6 : Int32) (t : lr_S) : Option (lr_S) := (some (lr_wr (lr_wr (lr_wr (lr_wr (lr_wr (lr_wr t 3 n 0 a1) 3 n 1 a2) 3 n 2 a3) 3 n 3 a4) 3 n 4 a5) 3 n 5 a6)).bind fun t1 => (some t1)
set_option maxHeartbeats 4000000 in
theorem lr_r_Message_write {n : Nat} {a1 : Int32} {a2 : Int32} {a3 : Int32} {a4 : Int32} {a5 : Int32} {a6 : Int32} {t o : lr_S} (h : lr_G_Message_write n a1 a2 a3 a4 a5 a6 t = some o) : lr_RV 0 20 lr_m_Message_write [.inr (3, n), .inl a1, .inl a2, .inl a3, .inl a4, .inl a5, .inl a6] t o := by
  refine lr_ofV (own := lr_R0) (by decide) rfl rfl (Nat.le_of_ble_eq_true rfl) (fun X C E => ?_)
  show lr_T X 0 [(0, .inr (3, n)), (1, .inl a1), (2, .inl a2), (3, .inl a3), (4, .inl a4), (5, .inl a5), (6, .inl a6)] [] t
  have h := (show ((some (lr_wr (lr_wr (lr_wr (lr_wr (lr_wr (lr_wr t 3 n 0 a1) 3 n 1 a2) 3 n 2 a3) 3 n 3 a4) 3 n 4 a5) 3 n 5 a6)).bind fun t1 => (some t1)) = some o from h)
  refine lr_aload_n (pc := 0) C lr_d_Message_write_0 rfl 0 rfl ?_
  refine lr_iload_n (pc := 1) C lr_d_Message_write_1 rfl 1 rfl ?_
  refine lr_p0_9 (pc := 2) C lr_d_Message_write_2 ?_
  refine lr_aload_n (pc := 5) C lr_d_Message_write_5 rfl 0 rfl ?_
  refine lr_iload_n (pc := 6) C lr_d_Message_write_6 rfl 2 rfl ?_
  refine lr_p0_15 (pc := 7) C lr_d_Message_write_7 ?_
  refine lr_aload_n (pc := 10) C lr_d_Message_write_10 rfl 0 rfl ?_
  refine lr_iload_n (pc := 11) C lr_d_Message_write_11 rfl 3 rfl ?_
  refine lr_p0_18 (pc := 12) C lr_d_Message_write_12 ?_
  refine lr_aload_n (pc := 15) C lr_d_Message_write_15 rfl 0 rfl ?_
  refine lr_iload (pc := 16) C lr_d_Message_write_16 4 rfl ?_
  refine lr_p0_21 (pc := 18) C lr_d_Message_write_18 ?_
  refine lr_aload_n (pc := 21) C lr_d_Message_write_21 rfl 0 rfl ?_
  refine lr_iload (pc := 22) C lr_d_Message_write_22 5 rfl ?_
  refine lr_p0_24 (pc := 24) C lr_d_Message_write_24 ?_
  refine lr_aload_n (pc := 27) C lr_d_Message_write_27 rfl 0 rfl ?_
  refine lr_iload (pc := 28) C lr_d_Message_write_28 6 rfl ?_
  refine lr_p0_27 (pc := 30) C lr_d_Message_write_30 ?_
  obtain ⟨t1, ht2, h⟩ := lr_bd h
  rw [Option.some.inj ht2]
  have e := Option.some.inj h
  subst e
  exact lr_vret C E lr_d_Message_write_33
def lr_G_Message_become (n : Nat) (a1 : Nat) (t : lr_S) : Option (lr_S) := (lr_G_Message_write n (lr_rd t 3 a1 0) (lr_rd t 3 a1 1) (lr_rd t 3 a1 2) (lr_rd t 3 a1 3) (lr_rd t 3 a1 4) (lr_rd t 3 a1 5) t).bind fun u1 => (some u1)
set_option maxHeartbeats 4000000 in
theorem lr_r_Message_become {n : Nat} {a1 : Nat} {t o : lr_S} (h : lr_G_Message_become n a1 t = some o) : lr_RV 0 20 lr_m_Message_become [.inr (3, n), .inr (3, a1)] t o := by
  refine lr_ofV (own := lr_R0) (by decide) rfl rfl (Nat.le_of_ble_eq_true rfl) (fun X C E => ?_)
  show lr_T X 0 [(0, .inr (3, n)), (1, .inr (3, a1))] [] t
  have h := (show ((lr_G_Message_write n (lr_rd t 3 a1 0) (lr_rd t 3 a1 1) (lr_rd t 3 a1 2) (lr_rd t 3 a1 3) (lr_rd t 3 a1 4) (lr_rd t 3 a1 5) t).bind fun u1 => (some u1)) = some o from h)
  refine lr_aload_n (pc := 0) C lr_d_Message_become_0 rfl 0 rfl ?_
  refine lr_aload_n (pc := 1) C lr_d_Message_become_1 rfl 1 rfl ?_
  refine lr_g0_9 (pc := 2) C lr_d_Message_become_2 ?_
  refine lr_aload_n (pc := 5) C lr_d_Message_become_5 rfl 1 rfl ?_
  refine lr_g0_15 (pc := 6) C lr_d_Message_become_6 ?_
  refine lr_aload_n (pc := 9) C lr_d_Message_become_9 rfl 1 rfl ?_
  refine lr_g0_18 (pc := 10) C lr_d_Message_become_10 ?_
  refine lr_aload_n (pc := 13) C lr_d_Message_become_13 rfl 1 rfl ?_
  refine lr_g0_21 (pc := 14) C lr_d_Message_become_14 ?_
  refine lr_aload_n (pc := 17) C lr_d_Message_become_17 rfl 1 rfl ?_
  refine lr_g0_24 (pc := 18) C lr_d_Message_become_18 ?_
  refine lr_aload_n (pc := 21) C lr_d_Message_become_21 rfl 1 rfl ?_
  refine lr_g0_27 (pc := 22) C lr_d_Message_become_22 ?_
  obtain ⟨u1, hu2, h⟩ := lr_bd h
  refine lr_callVv (pc := 25) (as := [.inl (lr_rd t 3 a1 0), .inl (lr_rd t 3 a1 1), .inl (lr_rd t 3 a1 2), .inl (lr_rd t 3 a1 3), .inl (lr_rd t 3 a1 4), .inl (lr_rd t 3 a1 5)]) (st := []) (fs := fun ad => lr_fs0 t n ad) C (lr_r_Message_write hu2) lr_c0_30 lr_d_Message_become_25 rfl rfl (fun _ _ => rfl) (ci := 0) rfl rfl ⟨by decide, by decide⟩ (Nat.le_of_ble_eq_true rfl) ?_
  have e := Option.some.inj h
  subst e
  exact lr_vret C E lr_d_Message_become_28
def lr_G_Message_part (n : Nat) (a1 : Int32) (t : lr_S) : Option (Int32 × lr_S) := if a1 = (0 : Int32) then (some ((lr_rd t 3 n 0), t)) else (if a1 = (1 : Int32) then (some ((lr_rd t 3 n 1), t)) else (if a1 = (2 : Int32) then (some ((lr_rd t 3 n 2), t)) else (if a1 = (3 : Int32) then (some ((lr_rd t 3 n 3), t)) else (if a1 = (4 : Int32) then (some ((lr_rd t 3 n 4), t)) else (if a1 = (5 : Int32) then (some ((lr_rd t 3 n 5), t)) else (some ((-1 : Int32), t)))))))
set_option maxHeartbeats 4000000 in
theorem lr_r_Message_part {n : Nat} {a1 : Int32} {t : lr_S} {o : Int32 × lr_S} (h : lr_G_Message_part n a1 t = some o) : lr_RI 0 20 lr_m_Message_part [.inr (3, n), .inl a1] t o.1 o.2 := by
  refine lr_ofI (ty := .int) (own := lr_R0) (by decide) rfl rfl (Nat.le_of_ble_eq_true rfl) (fun X C E => ?_)
  show lr_T X 0 [(0, .inr (3, n)), (1, .inl a1)] [] t
  have h := (show (if a1 = (0 : Int32) then (some ((lr_rd t 3 n 0), t)) else (if a1 = (1 : Int32) then (some ((lr_rd t 3 n 1), t)) else (if a1 = (2 : Int32) then (some ((lr_rd t 3 n 2), t)) else (if a1 = (3 : Int32) then (some ((lr_rd t 3 n 3), t)) else (if a1 = (4 : Int32) then (some ((lr_rd t 3 n 4), t)) else (if a1 = (5 : Int32) then (some ((lr_rd t 3 n 5), t)) else (some ((-1 : Int32), t)))))))) = some o from h)
  refine lr_iload_n (pc := 0) C lr_d_Message_part_0 rfl 1 rfl ?_
  by_cases hc1 : a1 = (0 : Int32)
  · have h := lr_ps hc1 h
    refine lr_tabIn (off := 39) (tgt := 40) C lr_d_Message_part_1 0 (by rw [hc1]; decide) (by decide) (by decide) ?_
    refine lr_aload_n (pc := 40) C lr_d_Message_part_40 rfl 0 rfl ?_
    refine lr_g0_9 (pc := 41) C lr_d_Message_part_41 ?_
    have e := Option.some.inj h
    subst e
    exact lr_iret C E lr_d_Message_part_44 rfl
  have h := lr_ng hc1 h
  by_cases hc2 : a1 = (1 : Int32)
  · have h := lr_ps hc2 h
    refine lr_tabIn (off := 44) (tgt := 45) C lr_d_Message_part_1 1 (by rw [hc2]; decide) (by decide) (by decide) ?_
    refine lr_aload_n (pc := 45) C lr_d_Message_part_45 rfl 0 rfl ?_
    refine lr_g0_15 (pc := 46) C lr_d_Message_part_46 ?_
    have e := Option.some.inj h
    subst e
    exact lr_iret C E lr_d_Message_part_49 rfl
  have h := lr_ng hc2 h
  by_cases hc3 : a1 = (2 : Int32)
  · have h := lr_ps hc3 h
    refine lr_tabIn (off := 49) (tgt := 50) C lr_d_Message_part_1 2 (by rw [hc3]; decide) (by decide) (by decide) ?_
    refine lr_aload_n (pc := 50) C lr_d_Message_part_50 rfl 0 rfl ?_
    refine lr_g0_18 (pc := 51) C lr_d_Message_part_51 ?_
    have e := Option.some.inj h
    subst e
    exact lr_iret C E lr_d_Message_part_54 rfl
  have h := lr_ng hc3 h
  by_cases hc4 : a1 = (3 : Int32)
  · have h := lr_ps hc4 h
    refine lr_tabIn (off := 54) (tgt := 55) C lr_d_Message_part_1 3 (by rw [hc4]; decide) (by decide) (by decide) ?_
    refine lr_aload_n (pc := 55) C lr_d_Message_part_55 rfl 0 rfl ?_
    refine lr_g0_21 (pc := 56) C lr_d_Message_part_56 ?_
    have e := Option.some.inj h
    subst e
    exact lr_iret C E lr_d_Message_part_59 rfl
  have h := lr_ng hc4 h
  by_cases hc5 : a1 = (4 : Int32)
  · have h := lr_ps hc5 h
    refine lr_tabIn (off := 59) (tgt := 60) C lr_d_Message_part_1 4 (by rw [hc5]; decide) (by decide) (by decide) ?_
    refine lr_aload_n (pc := 60) C lr_d_Message_part_60 rfl 0 rfl ?_
    refine lr_g0_24 (pc := 61) C lr_d_Message_part_61 ?_
    have e := Option.some.inj h
    subst e
    exact lr_iret C E lr_d_Message_part_64 rfl
  have h := lr_ng hc5 h
  by_cases hc6 : a1 = (5 : Int32)
  · have h := lr_ps hc6 h
    refine lr_tabIn (off := 64) (tgt := 65) C lr_d_Message_part_1 5 (by rw [hc6]; decide) (by decide) (by decide) ?_
    refine lr_aload_n (pc := 65) C lr_d_Message_part_65 rfl 0 rfl ?_
    refine lr_g0_27 (pc := 66) C lr_d_Message_part_66 ?_
    have e := Option.some.inj h
    subst e
    exact lr_iret C E lr_d_Message_part_69 rfl
  have h := lr_ng hc6 h
  refine lr_tabOut (tgt := 70) C lr_d_Message_part_1 (lr_tout (fun v h1 h2 h3 => by rcases (show v = 0 ∨ v = 1 ∨ v = 2 ∨ v = 3 ∨ v = 4 ∨ v = 5 by omega) with rfl | rfl | rfl | rfl | rfl | rfl <;> first | exact hc1 (Int32.toInt_inj.mp (h3.trans (by decide))) | exact hc2 (Int32.toInt_inj.mp (h3.trans (by decide))) | exact hc3 (Int32.toInt_inj.mp (h3.trans (by decide))) | exact hc4 (Int32.toInt_inj.mp (h3.trans (by decide))) | exact hc5 (Int32.toInt_inj.mp (h3.trans (by decide))) | exact hc6 (Int32.toInt_inj.mp (h3.trans (by decide))))) (by decide) ?_
  refine lr_iconst (pc := 70) (v := -1) C lr_d_Message_part_70 (by decide) ?_
  have e := Option.some.inj h
  subst e
  exact lr_iret C E lr_d_Message_part_71 rfl
def lr_G_Network_hasPlace (a1 : Int32) (t : lr_S) : Option (Int32 × lr_S) := if a1 < 0 then (some ((0 : Int32), t)) else (if (lr_rd t 1 0 1) ≤ a1 then (some ((0 : Int32), t)) else (some ((1 : Int32), t)))
set_option maxHeartbeats 4000000 in
theorem lr_r_Network_hasPlace {a1 : Int32} {t : lr_S} {o : Int32 × lr_S} (h : lr_G_Network_hasPlace a1 t = some o) : lr_RI 0 20 lr_m_Network_hasPlace [.inr (1, 0), .inl a1] t o.1 o.2 := by
  refine lr_ofI (ty := .boolean) (own := lr_R1) (by decide) rfl rfl (Nat.le_of_ble_eq_true rfl) (fun X C E => ?_)
  show lr_T X 0 [(0, .inr (1, 0)), (1, .inl a1)] [] t
  have h := (show (if a1 < 0 then (some ((0 : Int32), t)) else (if (lr_rd t 1 0 1) ≤ a1 then (some ((0 : Int32), t)) else (some ((1 : Int32), t)))) = some o from h)
  refine lr_iload_n (pc := 0) C lr_d_Network_hasPlace_0 rfl 1 rfl ?_
  refine lr_if_lt (pc := 1) (tgt := 16) C lr_d_Network_hasPlace_1 (by decide) (fun hc1 => ?_) (fun hc1 => ?_)
  · have h := lr_ps hc1 h
    refine lr_iconst (pc := 16) (v := 0) C lr_d_Network_hasPlace_16 (by decide) ?_
    have e := Option.some.inj h
    subst e
    exact lr_iret C E lr_d_Network_hasPlace_17 (by decide)
  · have h := lr_ng hc1 h
    refine lr_iload_n (pc := 4) C lr_d_Network_hasPlace_4 rfl 1 rfl ?_
    refine lr_aload_n (pc := 5) C lr_d_Network_hasPlace_5 rfl 0 rfl ?_
    refine lr_g1_15 (pc := 6) C lr_d_Network_hasPlace_6 ?_
    refine lr_icmp_ge (pc := 9) (tgt := 16) C lr_d_Network_hasPlace_9 (by decide) (fun hc2 => ?_) (fun hc2 => ?_)
    · have h := lr_ps hc2 h
      refine lr_iconst (pc := 16) (v := 0) C lr_d_Network_hasPlace_16 (by decide) ?_
      have e := Option.some.inj h
      subst e
      exact lr_iret C E lr_d_Network_hasPlace_17 (by decide)
    · have h := lr_ng hc2 h
      refine lr_iconst (pc := 12) (v := 1) C lr_d_Network_hasPlace_12 (by decide) ?_
      refine lr_goto (pc := 13) (tgt := 17) C lr_d_Network_hasPlace_13 (by decide) ?_
      have e := Option.some.inj h
      subst e
      exact lr_iret C E lr_d_Network_hasPlace_17 (by decide)
def lr_G_Network_send (a1 : Int32) (a2 : Int32) (a3 : Int32) (a4 : Int32) (a5 : Int32) (a6 : Int32) (t : lr_S) : Option (lr_S) := if (32 : Int32) ≤ (lr_rd t 1 0 1) then (some t) else (if lr_in (lr_rd t 1 0 1) 32 = true then (if t.2 (lr_rd t 1 0 1).toNatClampNeg < 49 then ((lr_G_Message_write (t.2 (lr_rd t 1 0 1).toNatClampNeg) a1 a2 a3 a4 a5 a6 t).bind fun u4 => (some (lr_wr u4 1 0 1 ((lr_rd u4 1 0 1) + (1 : Int32))))) else none) else none)
set_option maxHeartbeats 4000000 in
theorem lr_r_Network_send {a1 : Int32} {a2 : Int32} {a3 : Int32} {a4 : Int32} {a5 : Int32} {a6 : Int32} {t o : lr_S} (h : lr_G_Network_send a1 a2 a3 a4 a5 a6 t = some o) : lr_RV 0 20 lr_m_Network_send [.inr (1, 0), .inl a1, .inl a2, .inl a3, .inl a4, .inl a5, .inl a6] t o := by
  refine lr_ofV (own := lr_R1) (by decide) rfl rfl (Nat.le_of_ble_eq_true rfl) (fun X C E => ?_)
  show lr_T X 0 [(0, .inr (1, 0)), (1, .inl a1), (2, .inl a2), (3, .inl a3), (4, .inl a4), (5, .inl a5), (6, .inl a6)] [] t
  have h := (show (if (32 : Int32) ≤ (lr_rd t 1 0 1) then (some t) else (if lr_in (lr_rd t 1 0 1) 32 = true then (if t.2 (lr_rd t 1 0 1).toNatClampNeg < 49 then ((lr_G_Message_write (t.2 (lr_rd t 1 0 1).toNatClampNeg) a1 a2 a3 a4 a5 a6 t).bind fun u4 => (some (lr_wr u4 1 0 1 ((lr_rd u4 1 0 1) + (1 : Int32))))) else none) else none)) = some o from h)
  refine lr_aload_n (pc := 0) C lr_d_Network_send_0 rfl 0 rfl ?_
  refine lr_g1_15 (pc := 1) C lr_d_Network_send_1 ?_
  refine lr_bipush (pc := 4) (v := 32) C lr_d_Network_send_4 (by decide) ?_
  refine lr_icmp_ge (pc := 6) (tgt := 40) C lr_d_Network_send_6 (by decide) (fun hc1 => ?_) (fun hc1 => ?_)
  · have h := lr_ps hc1 h
    have e := Option.some.inj h
    subst e
    exact lr_vret C E lr_d_Network_send_40
  · have h := lr_ng hc1 h
    refine lr_aload_n (pc := 9) C lr_d_Network_send_9 rfl 0 rfl ?_
    refine lr_g1_20 (pc := 10) C lr_d_Network_send_10 ?_
    refine lr_aload_n (pc := 13) C lr_d_Network_send_13 rfl 0 rfl ?_
    refine lr_g1_15 (pc := 14) C lr_d_Network_send_14 ?_
    obtain ⟨hb2, h⟩ := lr_gd h
    obtain ⟨hp3, h⟩ := lr_gd h
    refine lr_aaldp (pc := 17) C lr_d_Network_send_17 hb2 ⟨rfl, rfl⟩ hp3 ?_
    refine lr_iload_n (pc := 18) C lr_d_Network_send_18 rfl 1 rfl ?_
    refine lr_iload_n (pc := 19) C lr_d_Network_send_19 rfl 2 rfl ?_
    refine lr_iload_n (pc := 20) C lr_d_Network_send_20 rfl 3 rfl ?_
    refine lr_iload (pc := 21) C lr_d_Network_send_21 4 rfl ?_
    refine lr_iload (pc := 23) C lr_d_Network_send_23 5 rfl ?_
    refine lr_iload (pc := 25) C lr_d_Network_send_25 6 rfl ?_
    obtain ⟨u4, hu5, h⟩ := lr_bd h
    refine lr_callVv (pc := 27) (as := [.inl a1, .inl a2, .inl a3, .inl a4, .inl a5, .inl a6]) (st := []) (fs := fun ad => lr_fs0 t (t.2 (lr_rd t 1 0 1).toNatClampNeg) ad) C (lr_r_Message_write hu5) lr_c1_25 lr_d_Network_send_27 rfl rfl (fun _ _ => rfl) (ci := 0) rfl rfl ⟨by decide, by decide⟩ (Nat.le_of_ble_eq_true rfl) ?_
    refine lr_aload_n (pc := 30) C lr_d_Network_send_30 rfl 0 rfl ?_
    refine lr_dup (pc := 31) C lr_d_Network_send_31 ?_
    refine lr_g1_15 (pc := 32) C lr_d_Network_send_32 ?_
    refine lr_iconst (pc := 35) (v := 1) C lr_d_Network_send_35 (by decide) ?_
    refine lr_iadd (pc := 36) C lr_d_Network_send_36 ?_
    refine lr_p1_15 (pc := 37) C lr_d_Network_send_37 ?_
    have e := Option.some.inj h
    subst e
    exact lr_vret C E lr_d_Network_send_40
def lr_G_Network_sendAgain (a1 : Nat) (t : lr_S) : Option (lr_S) := (lr_G_Network_send (lr_rd t 3 a1 0) (lr_rd t 3 a1 1) (lr_rd t 3 a1 2) (lr_rd t 3 a1 3) (lr_rd t 3 a1 4) (lr_rd t 3 a1 5) t).bind fun u1 => (some u1)
set_option maxHeartbeats 4000000 in
theorem lr_r_Network_sendAgain {a1 : Nat} {t o : lr_S} (h : lr_G_Network_sendAgain a1 t = some o) : lr_RV 0 20 lr_m_Network_sendAgain [.inr (1, 0), .inr (3, a1)] t o := by
  refine lr_ofV (own := lr_R1) (by decide) rfl rfl (Nat.le_of_ble_eq_true rfl) (fun X C E => ?_)
  show lr_T X 0 [(0, .inr (1, 0)), (1, .inr (3, a1))] [] t
  have h := (show ((lr_G_Network_send (lr_rd t 3 a1 0) (lr_rd t 3 a1 1) (lr_rd t 3 a1 2) (lr_rd t 3 a1 3) (lr_rd t 3 a1 4) (lr_rd t 3 a1 5) t).bind fun u1 => (some u1)) = some o from h)
  refine lr_aload_n (pc := 0) C lr_d_Network_sendAgain_0 rfl 0 rfl ?_
  refine lr_aload_n (pc := 1) C lr_d_Network_sendAgain_1 rfl 1 rfl ?_
  refine lr_g1_29 (pc := 2) C lr_d_Network_sendAgain_2 ?_
  refine lr_aload_n (pc := 5) C lr_d_Network_sendAgain_5 rfl 1 rfl ?_
  refine lr_g1_32 (pc := 6) C lr_d_Network_sendAgain_6 ?_
  refine lr_aload_n (pc := 9) C lr_d_Network_sendAgain_9 rfl 1 rfl ?_
  refine lr_g1_35 (pc := 10) C lr_d_Network_sendAgain_10 ?_
  refine lr_aload_n (pc := 13) C lr_d_Network_sendAgain_13 rfl 1 rfl ?_
  refine lr_g1_38 (pc := 14) C lr_d_Network_sendAgain_14 ?_
  refine lr_aload_n (pc := 17) C lr_d_Network_sendAgain_17 rfl 1 rfl ?_
  refine lr_g1_41 (pc := 18) C lr_d_Network_sendAgain_18 ?_
  refine lr_aload_n (pc := 21) C lr_d_Network_sendAgain_21 rfl 1 rfl ?_
  refine lr_g1_44 (pc := 22) C lr_d_Network_sendAgain_22 ?_
  obtain ⟨u1, hu2, h⟩ := lr_bd h
  refine lr_callVv (pc := 25) (as := [.inl (lr_rd t 3 a1 0), .inl (lr_rd t 3 a1 1), .inl (lr_rd t 3 a1 2), .inl (lr_rd t 3 a1 3), .inl (lr_rd t 3 a1 4), .inl (lr_rd t 3 a1 5)]) (st := []) (fs := fun ad => lr_fs1 t 0 ad) C (lr_r_Network_send hu2) lr_c1_47 lr_d_Network_sendAgain_25 rfl rfl (fun _ _ => rfl) (ci := 1) rfl rfl ⟨by decide, by decide⟩ (Nat.le_of_ble_eq_true rfl) ?_
  have e := Option.some.inj h
  subst e
  exact lr_vret C E lr_d_Network_sendAgain_28
def lr_L_Network_takeOut_11 (a1 : Int32) (a2 : Nat) : Nat → Int32 → lr_S → Option (Int32 × lr_S)
  | 0, _, _ => none
  | f + 1, x3, t => if (lr_rd t 1 0 1) ≤ x3 then (some (x3, t)) else (if lr_in x3 32 = true then (if t.2 x3.toNatClampNeg < 49 then (if lr_in (x3 - (1 : Int32)) 32 = true then (lr_L_Network_takeOut_11 a1 a2 f (x3 + 1) (lr_wp t (x3 - (1 : Int32)).toNatClampNeg (t.2 x3.toNatClampNeg))) else none) else none) else none)
set_option maxHeartbeats 4000000 in
theorem lr_t_Network_takeOut_11 {X : lr_X} (C : lr_C X lr_m_Network_takeOut.2.1 lr_R1 lr_m_Network_takeOut.2.2.1 lr_m_Network_takeOut.2.2.2.2.1 lr_m_Network_takeOut.2.2.2.2.2 0 20) (a1 : Int32) (a2 : Nat) : ∀ (f : Nat) (x3 : Int32) (t : lr_S) (o : Int32 × lr_S), lr_L_Network_takeOut_11 a1 a2 f x3 t = some o → (lr_T X 39 [(0, .inr (1, 0)), (1, .inl a1), (2, .inr (3, a2)), (3, .inl o.1)] [] o.2) → lr_T X 11 [(0, .inr (1, 0)), (1, .inl a1), (2, .inr (3, a2)), (3, .inl x3)] [] t := by
  intro f
  induction f with
  | zero => intro x3 t o h; cases h
  | succ f ih =>
    intro x3 t o h kx
    have h := (show (if (lr_rd t 1 0 1) ≤ x3 then (some (x3, t)) else (if lr_in x3 32 = true then (if t.2 x3.toNatClampNeg < 49 then (if lr_in (x3 - (1 : Int32)) 32 = true then (lr_L_Network_takeOut_11 a1 a2 f (x3 + 1) (lr_wp t (x3 - (1 : Int32)).toNatClampNeg (t.2 x3.toNatClampNeg))) else none) else none) else none)) = some o from h)
    refine lr_iload_n (pc := 11) C lr_d_Network_takeOut_11 rfl 3 rfl ?_
    refine lr_aload_n (pc := 12) C lr_d_Network_takeOut_12 rfl 0 rfl ?_
    refine lr_g1_15 (pc := 13) C lr_d_Network_takeOut_13 ?_
    refine lr_icmp_ge (pc := 16) (tgt := 39) C lr_d_Network_takeOut_16 (by decide) (fun hc3 => ?_) (fun hc3 => ?_)
    · have h := lr_ps hc3 h
      refine lr_sub (ls' := [(0, .inr (1, 0)), (1, .inl a1), (2, .inr (3, a2)), (3, .inl x3)]) C [0, 1, 2, 3] rfl ?_
      have e := Option.some.inj h
      subst e
      exact kx
    · have h := lr_ng hc3 h
      refine lr_aload_n (pc := 19) C lr_d_Network_takeOut_19 rfl 0 rfl ?_
      refine lr_g1_20 (pc := 20) C lr_d_Network_takeOut_20 ?_
      refine lr_iload_n (pc := 23) C lr_d_Network_takeOut_23 rfl 3 rfl ?_
      refine lr_iconst (pc := 24) (v := 1) C lr_d_Network_takeOut_24 (by decide) ?_
      refine lr_isub (pc := 25) C lr_d_Network_takeOut_25 ?_
      refine lr_aload_n (pc := 26) C lr_d_Network_takeOut_26 rfl 0 rfl ?_
      refine lr_g1_20 (pc := 27) C lr_d_Network_takeOut_27 ?_
      refine lr_iload_n (pc := 30) C lr_d_Network_takeOut_30 rfl 3 rfl ?_
      obtain ⟨hb4, h⟩ := lr_gd h
      obtain ⟨hp5, h⟩ := lr_gd h
      refine lr_aaldp (pc := 31) C lr_d_Network_takeOut_31 hb4 ⟨rfl, rfl⟩ hp5 ?_
      obtain ⟨hb6, h⟩ := lr_gd h
      refine lr_aastp (pc := 32) C lr_d_Network_takeOut_32 hb6 ?_
      refine lr_iinc (pc := 33) (v := (x3 + 1)) (ls' := [(3, .inl (x3 + 1)), (0, .inr (1, 0)), (1, .inl a1), (2, .inr (3, a2))]) C lr_d_Network_takeOut_33 3 rfl rfl (by decide) rfl ?_
      refine lr_goto (pc := 36) (tgt := 11) C lr_d_Network_takeOut_36 (by decide) ?_
      refine lr_sub (ls' := [(0, .inr (1, 0)), (1, .inl a1), (2, .inr (3, a2)), (3, .inl (x3 + 1))]) C [1, 2, 3, 0] rfl ?_
      exact ih (x3 + 1) (lr_wp t (x3 - (1 : Int32)).toNatClampNeg (t.2 x3.toNatClampNeg)) o h kx
def lr_G_Network_takeOut (a1 : Int32) (t : lr_S) : Option (lr_S) := if lr_in a1 32 = true then (if t.2 a1.toNatClampNeg < 49 then ((lr_L_Network_takeOut_11 a1 (t.2 a1.toNatClampNeg) 600 (a1 + (1 : Int32)) t).bind fun u7 => (if lr_in (lr_rd (lr_wr u7.2 1 0 1 ((lr_rd u7.2 1 0 1) - (1 : Int32))) 1 0 1) 32 = true then ((some (lr_wp (lr_wr u7.2 1 0 1 ((lr_rd u7.2 1 0 1) - (1 : Int32))) (lr_rd (lr_wr u7.2 1 0 1 ((lr_rd u7.2 1 0 1) - (1 : Int32))) 1 0 1).toNatClampNeg (t.2 a1.toNatClampNeg))).bind fun t10 => (some t10)) else none)) else none) else none
set_option maxHeartbeats 4000000 in
theorem lr_r_Network_takeOut {a1 : Int32} {t o : lr_S} (h : lr_G_Network_takeOut a1 t = some o) : lr_RV 0 20 lr_m_Network_takeOut [.inr (1, 0), .inl a1] t o := by
  refine lr_ofV (own := lr_R1) (by decide) rfl rfl (Nat.le_of_ble_eq_true rfl) (fun X C E => ?_)
  show lr_T X 0 [(0, .inr (1, 0)), (1, .inl a1)] [] t
  have h := (show (if lr_in a1 32 = true then (if t.2 a1.toNatClampNeg < 49 then ((lr_L_Network_takeOut_11 a1 (t.2 a1.toNatClampNeg) 600 (a1 + (1 : Int32)) t).bind fun u7 => (if lr_in (lr_rd (lr_wr u7.2 1 0 1 ((lr_rd u7.2 1 0 1) - (1 : Int32))) 1 0 1) 32 = true then ((some (lr_wp (lr_wr u7.2 1 0 1 ((lr_rd u7.2 1 0 1) - (1 : Int32))) (lr_rd (lr_wr u7.2 1 0 1 ((lr_rd u7.2 1 0 1) - (1 : Int32))) 1 0 1).toNatClampNeg (t.2 a1.toNatClampNeg))).bind fun t10 => (some t10)) else none)) else none) else none) = some o from h)
  refine lr_aload_n (pc := 0) C lr_d_Network_takeOut_0 rfl 0 rfl ?_
  refine lr_g1_20 (pc := 1) C lr_d_Network_takeOut_1 ?_
  refine lr_iload_n (pc := 4) C lr_d_Network_takeOut_4 rfl 1 rfl ?_
  obtain ⟨hb1, h⟩ := lr_gd h
  obtain ⟨hp2, h⟩ := lr_gd h
  refine lr_aaldp (pc := 5) C lr_d_Network_takeOut_5 hb1 ⟨rfl, rfl⟩ hp2 ?_
  refine lr_astore_n (pc := 6) (ls' := [(2, .inr (3, (t.2 a1.toNatClampNeg))), (0, .inr (1, 0)), (1, .inl a1)]) C lr_d_Network_takeOut_6 rfl (by decide) rfl ?_
  refine lr_iload_n (pc := 7) C lr_d_Network_takeOut_7 rfl 2 rfl ?_
  refine lr_iconst (pc := 8) (v := 1) C lr_d_Network_takeOut_8 (by decide) ?_
  refine lr_iadd (pc := 9) C lr_d_Network_takeOut_9 ?_
  refine lr_istore_n (pc := 10) (ls' := [(3, .inl (a1 + (1 : Int32))), (2, .inr (3, (t.2 a1.toNatClampNeg))), (0, .inr (1, 0)), (1, .inl a1)]) C lr_d_Network_takeOut_10 rfl (by decide) rfl ?_
  refine lr_sub (ls' := [(0, .inr (1, 0)), (1, .inl a1), (2, .inr (3, (t.2 a1.toNatClampNeg))), (3, .inl (a1 + (1 : Int32)))]) C [2, 3, 1, 0] rfl ?_
  obtain ⟨u7, hu8, h⟩ := lr_bd h
  refine lr_t_Network_takeOut_11 C a1 (t.2 a1.toNatClampNeg) 600 (a1 + (1 : Int32)) t u7 hu8 ?_
  refine lr_aload_n (pc := 39) C lr_d_Network_takeOut_39 rfl 0 rfl ?_
  refine lr_dup (pc := 40) C lr_d_Network_takeOut_40 ?_
  refine lr_g1_15 (pc := 41) C lr_d_Network_takeOut_41 ?_
  refine lr_iconst (pc := 44) (v := 1) C lr_d_Network_takeOut_44 (by decide) ?_
  refine lr_isub (pc := 45) C lr_d_Network_takeOut_45 ?_
  refine lr_p1_15 (pc := 46) C lr_d_Network_takeOut_46 ?_
  refine lr_aload_n (pc := 49) C lr_d_Network_takeOut_49 rfl 0 rfl ?_
  refine lr_g1_20 (pc := 50) C lr_d_Network_takeOut_50 ?_
  refine lr_aload_n (pc := 53) C lr_d_Network_takeOut_53 rfl 0 rfl ?_
  refine lr_g1_15 (pc := 54) C lr_d_Network_takeOut_54 ?_
  refine lr_aload_n (pc := 57) C lr_d_Network_takeOut_57 rfl 2 rfl ?_
  obtain ⟨hb9, h⟩ := lr_gd h
  refine lr_aastp (pc := 58) C lr_d_Network_takeOut_58 hb9 ?_
  obtain ⟨t10, ht11, h⟩ := lr_bd h
  rw [Option.some.inj ht11]
  have e := Option.some.inj h
  subst e
  exact lr_vret C E lr_d_Network_takeOut_59
def lr_L_Node_leastEmptySlot_2 (a0 : Nat) : Nat → Int32 → lr_S → Option ((Int32 × lr_S) ⊕ (Int32 × lr_S))
  | 0, _, _ => none
  | f + 1, x1, t => if (8 : Int32) ≤ x1 then (some (.inr (x1, t))) else (if lr_in x1 8 = true then (if (lr_rd t 7 (8 * a0 + x1.toNatClampNeg) 0) = 0 then (some (.inl (x1, t))) else (lr_L_Node_leastEmptySlot_2 a0 f (x1 + 1) t)) else none)
set_option maxHeartbeats 4000000 in
theorem lr_t_Node_leastEmptySlot_2 {X : lr_X} (C : lr_C X lr_m_Node_leastEmptySlot.2.1 lr_R2 lr_m_Node_leastEmptySlot.2.2.1 lr_m_Node_leastEmptySlot.2.2.2.2.1 lr_m_Node_leastEmptySlot.2.2.2.2.2 0 20) (a0 : Nat) : ∀ (f : Nat) (x1 : Int32) (t : lr_S) (o : (Int32 × lr_S) ⊕ (Int32 × lr_S)), lr_L_Node_leastEmptySlot_2 a0 f x1 t = some o → (∀ u, o = .inl u → lr_EI X .int u.1 u.2) → (∀ u, o = .inr u → lr_T X 28 [(0, .inr (5, a0)), (1, .inl u.1)] [] u.2) → lr_T X 2 [(0, .inr (5, a0)), (1, .inl x1)] [] t := by
  intro f
  induction f with
  | zero => intro x1 t o h; cases h
  | succ f ih =>
    intro x1 t o h kr kx
    have h := (show (if (8 : Int32) ≤ x1 then (some (.inr (x1, t))) else (if lr_in x1 8 = true then (if (lr_rd t 7 (8 * a0 + x1.toNatClampNeg) 0) = 0 then (some (.inl (x1, t))) else (lr_L_Node_leastEmptySlot_2 a0 f (x1 + 1) t)) else none)) = some o from h)
    refine lr_iload_n (pc := 2) C lr_d_Node_leastEmptySlot_2 rfl 1 rfl ?_
    refine lr_bipush (pc := 3) (v := 8) C lr_d_Node_leastEmptySlot_3 (by decide) ?_
    refine lr_icmp_ge (pc := 5) (tgt := 28) C lr_d_Node_leastEmptySlot_5 (by decide) (fun hc1 => ?_) (fun hc1 => ?_)
    · have h := lr_ps hc1 h
      refine lr_sub (ls' := [(0, .inr (5, a0)), (1, .inl x1)]) C [0, 1] rfl ?_
      have e := Option.some.inj h
      subst e
      exact kx _ rfl
    · have h := lr_ng hc1 h
      refine lr_aload_n (pc := 8) C lr_d_Node_leastEmptySlot_8 rfl 0 rfl ?_
      refine lr_g2_21 (pc := 9) C lr_d_Node_leastEmptySlot_9 ?_
      refine lr_iload_n (pc := 12) C lr_d_Node_leastEmptySlot_12 rfl 1 rfl ?_
      obtain ⟨hb2, h⟩ := lr_gd h
      refine lr_a6 (pc := 13) C lr_d_Node_leastEmptySlot_13 hb2 ?_
      refine lr_g2_65 (pc := 14) C lr_d_Node_leastEmptySlot_14 ?_
      refine lr_if_ne (pc := 17) (tgt := 22) C lr_d_Node_leastEmptySlot_17 (by decide) (fun hc3 => ?_) (fun hc3 => ?_)
      · have h := lr_ng hc3 h
        refine lr_iinc (pc := 22) (v := (x1 + 1)) (ls' := [(1, .inl (x1 + 1)), (0, .inr (5, a0))]) C lr_d_Node_leastEmptySlot_22 1 rfl rfl (by decide) rfl ?_
        refine lr_goto (pc := 25) (tgt := 2) C lr_d_Node_leastEmptySlot_25 (by decide) ?_
        refine lr_sub (ls' := [(0, .inr (5, a0)), (1, .inl (x1 + 1))]) C [1, 0] rfl ?_
        exact ih (x1 + 1) t o h kr kx
      · have h := lr_ps hc3 h
        refine lr_iload_n (pc := 20) C lr_d_Node_leastEmptySlot_20 rfl 1 rfl ?_
        have e := Option.some.inj h
        subst e
        exact lr_iret C (kr _ rfl) lr_d_Node_leastEmptySlot_21 rfl
def lr_G_Node_leastEmptySlot (n : Nat) (t : lr_S) : Option (Int32 × lr_S) := (lr_L_Node_leastEmptySlot_2 n 600 (0 : Int32) t).bind fun u4 => Sum.elim (fun v6 => some v6) (fun v6 => some ((-1 : Int32), v6.2)) u4
set_option maxHeartbeats 4000000 in
theorem lr_r_Node_leastEmptySlot {n : Nat} {t : lr_S} {o : Int32 × lr_S} (h : lr_G_Node_leastEmptySlot n t = some o) : lr_RI 0 20 lr_m_Node_leastEmptySlot [.inr (5, n)] t o.1 o.2 := by
  refine lr_ofI (ty := .int) (own := lr_R2) (by decide) rfl rfl (Nat.le_of_ble_eq_true rfl) (fun X C E => ?_)
  show lr_T X 0 [(0, .inr (5, n))] [] t
  have h := (show ((lr_L_Node_leastEmptySlot_2 n 600 (0 : Int32) t).bind fun u4 => Sum.elim (fun v6 => some v6) (fun v6 => some ((-1 : Int32), v6.2)) u4) = some o from h)
  refine lr_iconst (pc := 0) (v := 0) C lr_d_Node_leastEmptySlot_0 (by decide) ?_
  refine lr_istore_n (pc := 1) (ls' := [(1, .inl (0 : Int32)), (0, .inr (5, n))]) C lr_d_Node_leastEmptySlot_1 rfl (by decide) rfl ?_
  refine lr_sub (ls' := [(0, .inr (5, n)), (1, .inl (0 : Int32))]) C [1, 0] rfl ?_
  obtain ⟨u4, hu5, h⟩ := lr_bd h
  refine lr_t_Node_leastEmptySlot_2 C n 600 (0 : Int32) t u4 hu5 (fun v6 e7 => ?_) (fun v6 e7 => ?_)
  · subst e7
    have e := Option.some.inj h
    subst e
    exact E
  · subst e7
    have h := (show (some ((-1 : Int32), v6.2)) = some o from h)
    refine lr_iconst (pc := 28) (v := -1) C lr_d_Node_leastEmptySlot_28 (by decide) ?_
    have e := Option.some.inj h
    subst e
    exact lr_iret C E lr_d_Node_leastEmptySlot_29 rfl
