def lr_G_Slot_holdNewObject (n : Nat) (a1 : Int32) (t : lr_S) : Option (lr_S) := (some (lr_wr (lr_wr (lr_wr (lr_wr t 7 n 0 (1 : Int32)) 7 n 1 a1) 7 n 2 (0 : Int32)) 8 n (0 : Int32).toNatClampNeg (-1 : Int32))).bind fun t1 => ((some (lr_wr (lr_wr t1 8 n (1 : Int32).toNatClampNeg (-1 : Int32)) 9 n (0 : Int32).toNatClampNeg (0 : Int32))).bind fun t3 => ((some (lr_wr (lr_wr t3 10 n (0 : Int32).toNatClampNeg (0 : Int32)) 9 n (1 : Int32).toNatClampNeg (0 : Int32))).bind fun t5 => ((some (lr_wr (lr_wr t5 10 n (1 : Int32).toNatClampNeg (0 : Int32)) 9 n (2 : Int32).toNatClampNeg (0 : Int32))).bind fun t7 => ((some (lr_wr (lr_wr t7 10 n (2 : Int32).toNatClampNeg (0 : Int32)) 9 n (3 : Int32).toNatClampNeg (0 : Int32))).bind fun t9 => (some (lr_wr t9 10 n (3 : Int32).toNatClampNeg (0 : Int32)))))))
set_option maxHeartbeats 4000000 in
theorem lr_r_Slot_holdNewObject {n : Nat} {a1 : Int32} {t o : lr_S} (h : lr_G_Slot_holdNewObject n a1 t = some o) : lr_RV 0 20 lr_m_Slot_holdNewObject [.inr (7, n), .inl a1] t o := by
  refine lr_ofV (own := lr_R5) (by decide) rfl rfl (Nat.le_of_ble_eq_true rfl) (fun X C E => ?_)
  show lr_T X 0 [(0, .inr (7, n)), (1, .inl a1)] [] t
  have h := (show ((some (lr_wr (lr_wr (lr_wr (lr_wr t 7 n 0 (1 : Int32)) 7 n 1 a1) 7 n 2 (0 : Int32)) 8 n (0 : Int32).toNatClampNeg (-1 : Int32))).bind fun t1 => ((some (lr_wr (lr_wr t1 8 n (1 : Int32).toNatClampNeg (-1 : Int32)) 9 n (0 : Int32).toNatClampNeg (0 : Int32))).bind fun t3 => ((some (lr_wr (lr_wr t3 10 n (0 : Int32).toNatClampNeg (0 : Int32)) 9 n (1 : Int32).toNatClampNeg (0 : Int32))).bind fun t5 => ((some (lr_wr (lr_wr t5 10 n (1 : Int32).toNatClampNeg (0 : Int32)) 9 n (2 : Int32).toNatClampNeg (0 : Int32))).bind fun t7 => ((some (lr_wr (lr_wr t7 10 n (2 : Int32).toNatClampNeg (0 : Int32)) 9 n (3 : Int32).toNatClampNeg (0 : Int32))).bind fun t9 => (some (lr_wr t9 10 n (3 : Int32).toNatClampNeg (0 : Int32)))))))) = some o from h)
  refine lr_aload_n (pc := 0) C lr_d_Slot_holdNewObject_0 rfl 0 rfl ?_
  refine lr_iconst (pc := 1) (v := 1) C lr_d_Slot_holdNewObject_1 (by decide) ?_
  refine lr_p5_9 (pc := 2) C lr_d_Slot_holdNewObject_2 ?_
  refine lr_aload_n (pc := 5) C lr_d_Slot_holdNewObject_5 rfl 0 rfl ?_
  refine lr_iload_n (pc := 6) C lr_d_Slot_holdNewObject_6 rfl 1 rfl ?_
  refine lr_p5_25 (pc := 7) C lr_d_Slot_holdNewObject_7 ?_
  refine lr_aload_n (pc := 10) C lr_d_Slot_holdNewObject_10 rfl 0 rfl ?_
  refine lr_iconst (pc := 11) (v := 0) C lr_d_Slot_holdNewObject_11 (by decide) ?_
  refine lr_p5_28 (pc := 12) C lr_d_Slot_holdNewObject_12 ?_
  refine lr_iconst (pc := 15) (v := 0) C lr_d_Slot_holdNewObject_15 (by decide) ?_
  refine lr_istore_n (pc := 16) (ls' := [(2, .inl (0 : Int32)), (0, .inr (7, n)), (1, .inl a1)]) C lr_d_Slot_holdNewObject_16 rfl (by decide) rfl ?_
  refine lr_iload_n (pc := 17) C lr_d_Slot_holdNewObject_17 rfl 0 rfl ?_
  refine lr_iconst (pc := 18) (v := 2) C lr_d_Slot_holdNewObject_18 (by decide) ?_
  refine lr_icmp_ge (pc := 19) (tgt := 35) C lr_d_Slot_holdNewObject_19 (by decide) (fun hc => absurd hc (by decide)) (fun _ => ?_)
  refine lr_aload_n (pc := 22) C lr_d_Slot_holdNewObject_22 rfl 1 rfl ?_
  refine lr_g5_15 (pc := 23) C lr_d_Slot_holdNewObject_23 ?_
  refine lr_iload_n (pc := 26) C lr_d_Slot_holdNewObject_26 rfl 0 rfl ?_
  refine lr_iconst (pc := 27) (v := -1) C lr_d_Slot_holdNewObject_27 (by decide) ?_
  refine lr_si8 (pc := 28) C lr_d_Slot_holdNewObject_28 (by decide) ?_
  obtain ⟨t1, ht2, h⟩ := lr_bd h
  rw [Option.some.inj ht2]
  refine lr_iinc (pc := 29) (v := (1 : Int32)) (ls' := [(2, .inl (1 : Int32)), (0, .inr (7, n)), (1, .inl a1)]) C lr_d_Slot_holdNewObject_29 0 rfl (by decide) (by decide) rfl ?_
  refine lr_goto (pc := 32) (tgt := 17) C lr_d_Slot_holdNewObject_32 (by decide) ?_
  refine lr_iload_n (pc := 17) C lr_d_Slot_holdNewObject_17 rfl 0 rfl ?_
  refine lr_iconst (pc := 18) (v := 2) C lr_d_Slot_holdNewObject_18 (by decide) ?_
  refine lr_icmp_ge (pc := 19) (tgt := 35) C lr_d_Slot_holdNewObject_19 (by decide) (fun hc => absurd hc (by decide)) (fun _ => ?_)
  refine lr_aload_n (pc := 22) C lr_d_Slot_holdNewObject_22 rfl 1 rfl ?_
  refine lr_g5_15 (pc := 23) C lr_d_Slot_holdNewObject_23 ?_
  refine lr_iload_n (pc := 26) C lr_d_Slot_holdNewObject_26 rfl 0 rfl ?_
  refine lr_iconst (pc := 27) (v := -1) C lr_d_Slot_holdNewObject_27 (by decide) ?_
  refine lr_si8 (pc := 28) C lr_d_Slot_holdNewObject_28 (by decide) ?_
  refine lr_iinc (pc := 29) (v := (2 : Int32)) (ls' := [(2, .inl (2 : Int32)), (0, .inr (7, n)), (1, .inl a1)]) C lr_d_Slot_holdNewObject_29 0 rfl (by decide) (by decide) rfl ?_
  refine lr_goto (pc := 32) (tgt := 17) C lr_d_Slot_holdNewObject_32 (by decide) ?_
  refine lr_iload_n (pc := 17) C lr_d_Slot_holdNewObject_17 rfl 0 rfl ?_
  refine lr_iconst (pc := 18) (v := 2) C lr_d_Slot_holdNewObject_18 (by decide) ?_
  refine lr_icmp_ge (pc := 19) (tgt := 35) C lr_d_Slot_holdNewObject_19 (by decide) (fun _ => ?_) (fun hc => absurd hc (by decide))
  refine lr_iconst (pc := 35) (v := 0) C lr_d_Slot_holdNewObject_35 (by decide) ?_
  refine lr_istore_n (pc := 36) (ls' := [(2, .inl (0 : Int32)), (0, .inr (7, n)), (1, .inl a1)]) C lr_d_Slot_holdNewObject_36 rfl (by decide) rfl ?_
  refine lr_iload_n (pc := 37) C lr_d_Slot_holdNewObject_37 rfl 0 rfl ?_
  refine lr_iconst (pc := 38) (v := 4) C lr_d_Slot_holdNewObject_38 (by decide) ?_
  refine lr_icmp_ge (pc := 39) (tgt := 62) C lr_d_Slot_holdNewObject_39 (by decide) (fun hc => absurd hc (by decide)) (fun _ => ?_)
  refine lr_aload_n (pc := 42) C lr_d_Slot_holdNewObject_42 rfl 1 rfl ?_
  refine lr_g5_19 (pc := 43) C lr_d_Slot_holdNewObject_43 ?_
  refine lr_iload_n (pc := 46) C lr_d_Slot_holdNewObject_46 rfl 0 rfl ?_
  refine lr_iconst (pc := 47) (v := 0) C lr_d_Slot_holdNewObject_47 (by decide) ?_
  refine lr_si9 (pc := 48) C lr_d_Slot_holdNewObject_48 (by decide) ?_
  obtain ⟨t3, ht4, h⟩ := lr_bd h
  rw [Option.some.inj ht4]
  refine lr_aload_n (pc := 49) C lr_d_Slot_holdNewObject_49 rfl 1 rfl ?_
  refine lr_g5_22 (pc := 50) C lr_d_Slot_holdNewObject_50 ?_
  refine lr_iload_n (pc := 53) C lr_d_Slot_holdNewObject_53 rfl 0 rfl ?_
  refine lr_iconst (pc := 54) (v := 0) C lr_d_Slot_holdNewObject_54 (by decide) ?_
  refine lr_si10 (pc := 55) C lr_d_Slot_holdNewObject_55 (by decide) ?_
  refine lr_iinc (pc := 56) (v := (1 : Int32)) (ls' := [(2, .inl (1 : Int32)), (0, .inr (7, n)), (1, .inl a1)]) C lr_d_Slot_holdNewObject_56 0 rfl (by decide) (by decide) rfl ?_
  refine lr_goto (pc := 59) (tgt := 37) C lr_d_Slot_holdNewObject_59 (by decide) ?_
  refine lr_iload_n (pc := 37) C lr_d_Slot_holdNewObject_37 rfl 0 rfl ?_
  refine lr_iconst (pc := 38) (v := 4) C lr_d_Slot_holdNewObject_38 (by decide) ?_
  refine lr_icmp_ge (pc := 39) (tgt := 62) C lr_d_Slot_holdNewObject_39 (by decide) (fun hc => absurd hc (by decide)) (fun _ => ?_)
  refine lr_aload_n (pc := 42) C lr_d_Slot_holdNewObject_42 rfl 1 rfl ?_
  refine lr_g5_19 (pc := 43) C lr_d_Slot_holdNewObject_43 ?_
  refine lr_iload_n (pc := 46) C lr_d_Slot_holdNewObject_46 rfl 0 rfl ?_
  refine lr_iconst (pc := 47) (v := 0) C lr_d_Slot_holdNewObject_47 (by decide) ?_
  refine lr_si9 (pc := 48) C lr_d_Slot_holdNewObject_48 (by decide) ?_
  obtain ⟨t5, ht6, h⟩ := lr_bd h
  rw [Option.some.inj ht6]
  refine lr_aload_n (pc := 49) C lr_d_Slot_holdNewObject_49 rfl 1 rfl ?_
  refine lr_g5_22 (pc := 50) C lr_d_Slot_holdNewObject_50 ?_
  refine lr_iload_n (pc := 53) C lr_d_Slot_holdNewObject_53 rfl 0 rfl ?_
  refine lr_iconst (pc := 54) (v := 0) C lr_d_Slot_holdNewObject_54 (by decide) ?_
  refine lr_si10 (pc := 55) C lr_d_Slot_holdNewObject_55 (by decide) ?_
  refine lr_iinc (pc := 56) (v := (2 : Int32)) (ls' := [(2, .inl (2 : Int32)), (0, .inr (7, n)), (1, .inl a1)]) C lr_d_Slot_holdNewObject_56 0 rfl (by decide) (by decide) rfl ?_
  refine lr_goto (pc := 59) (tgt := 37) C lr_d_Slot_holdNewObject_59 (by decide) ?_
  refine lr_iload_n (pc := 37) C lr_d_Slot_holdNewObject_37 rfl 0 rfl ?_
  refine lr_iconst (pc := 38) (v := 4) C lr_d_Slot_holdNewObject_38 (by decide) ?_
  refine lr_icmp_ge (pc := 39) (tgt := 62) C lr_d_Slot_holdNewObject_39 (by decide) (fun hc => absurd hc (by decide)) (fun _ => ?_)
  refine lr_aload_n (pc := 42) C lr_d_Slot_holdNewObject_42 rfl 1 rfl ?_
  refine lr_g5_19 (pc := 43) C lr_d_Slot_holdNewObject_43 ?_
  refine lr_iload_n (pc := 46) C lr_d_Slot_holdNewObject_46 rfl 0 rfl ?_
  refine lr_iconst (pc := 47) (v := 0) C lr_d_Slot_holdNewObject_47 (by decide) ?_
  refine lr_si9 (pc := 48) C lr_d_Slot_holdNewObject_48 (by decide) ?_
  obtain ⟨t7, ht8, h⟩ := lr_bd h
  rw [Option.some.inj ht8]
  refine lr_aload_n (pc := 49) C lr_d_Slot_holdNewObject_49 rfl 1 rfl ?_
  refine lr_g5_22 (pc := 50) C lr_d_Slot_holdNewObject_50 ?_
  refine lr_iload_n (pc := 53) C lr_d_Slot_holdNewObject_53 rfl 0 rfl ?_
  refine lr_iconst (pc := 54) (v := 0) C lr_d_Slot_holdNewObject_54 (by decide) ?_
  refine lr_si10 (pc := 55) C lr_d_Slot_holdNewObject_55 (by decide) ?_
  refine lr_iinc (pc := 56) (v := (3 : Int32)) (ls' := [(2, .inl (3 : Int32)), (0, .inr (7, n)), (1, .inl a1)]) C lr_d_Slot_holdNewObject_56 0 rfl (by decide) (by decide) rfl ?_
  refine lr_goto (pc := 59) (tgt := 37) C lr_d_Slot_holdNewObject_59 (by decide) ?_
  refine lr_iload_n (pc := 37) C lr_d_Slot_holdNewObject_37 rfl 0 rfl ?_
  refine lr_iconst (pc := 38) (v := 4) C lr_d_Slot_holdNewObject_38 (by decide) ?_
  refine lr_icmp_ge (pc := 39) (tgt := 62) C lr_d_Slot_holdNewObject_39 (by decide) (fun hc => absurd hc (by decide)) (fun _ => ?_)
  refine lr_aload_n (pc := 42) C lr_d_Slot_holdNewObject_42 rfl 1 rfl ?_
  refine lr_g5_19 (pc := 43) C lr_d_Slot_holdNewObject_43 ?_
  refine lr_iload_n (pc := 46) C lr_d_Slot_holdNewObject_46 rfl 0 rfl ?_
  refine lr_iconst (pc := 47) (v := 0) C lr_d_Slot_holdNewObject_47 (by decide) ?_
  refine lr_si9 (pc := 48) C lr_d_Slot_holdNewObject_48 (by decide) ?_
  obtain ⟨t9, ht10, h⟩ := lr_bd h
  rw [Option.some.inj ht10]
  refine lr_aload_n (pc := 49) C lr_d_Slot_holdNewObject_49 rfl 1 rfl ?_
  refine lr_g5_22 (pc := 50) C lr_d_Slot_holdNewObject_50 ?_
  refine lr_iload_n (pc := 53) C lr_d_Slot_holdNewObject_53 rfl 0 rfl ?_
  refine lr_iconst (pc := 54) (v := 0) C lr_d_Slot_holdNewObject_54 (by decide) ?_
  refine lr_si10 (pc := 55) C lr_d_Slot_holdNewObject_55 (by decide) ?_
  refine lr_iinc (pc := 56) (v := (4 : Int32)) (ls' := [(2, .inl (4 : Int32)), (0, .inr (7, n)), (1, .inl a1)]) C lr_d_Slot_holdNewObject_56 0 rfl (by decide) (by decide) rfl ?_
  refine lr_goto (pc := 59) (tgt := 37) C lr_d_Slot_holdNewObject_59 (by decide) ?_
  refine lr_iload_n (pc := 37) C lr_d_Slot_holdNewObject_37 rfl 0 rfl ?_
  refine lr_iconst (pc := 38) (v := 4) C lr_d_Slot_holdNewObject_38 (by decide) ?_
  refine lr_icmp_ge (pc := 39) (tgt := 62) C lr_d_Slot_holdNewObject_39 (by decide) (fun _ => ?_) (fun hc => absurd hc (by decide))
  have e := Option.some.inj h
  subst e
  exact lr_vret C E lr_d_Slot_holdNewObject_62
def lr_G_Slot_part (n : Nat) (a1 : Int32) (a2 : Int32) (t : lr_S) : Option (Int32 × lr_S) := if a1 = 0 then (some ((lr_rd t 7 n 0), t)) else (if (lr_rd t 7 n 0) = 0 then (some ((-1 : Int32), t)) else (if (lr_rd t 7 n 0) = (1 : Int32) then (if a1 = (1 : Int32) then (some ((lr_rd t 7 n 1), t)) else (if a1 = (2 : Int32) then (some ((lr_rd t 7 n 2), t)) else (if a1 = (3 : Int32) then (some ((lr_rd t 8 n (0 : Int32).toNatClampNeg), t)) else (if a1 = (4 : Int32) then (some ((lr_rd t 8 n (1 : Int32).toNatClampNeg), t)) else (some ((-1 : Int32), t)))))) else (if a1 = (1 : Int32) then (some ((lr_rd t 7 n 1), t)) else (if a1 = (2 : Int32) then ((lr_G_Slot_state n a2 t).bind fun u6 => (some (u6.1, u6.2))) else (if a1 = (3 : Int32) then (some ((lr_rd t 7 n 9), t)) else (if a1 = (4 : Int32) then (some ((lr_rd t 7 n 6), t)) else (some ((-1 : Int32), t))))))))
set_option maxHeartbeats 4000000 in
theorem lr_r_Slot_part {n : Nat} {a1 : Int32} {a2 : Int32} {t : lr_S} {o : Int32 × lr_S} (h : lr_G_Slot_part n a1 a2 t = some o) : lr_RI 0 20 lr_m_Slot_part [.inr (7, n), .inl a1, .inl a2] t o.1 o.2 := by
  refine lr_ofI (ty := .int) (own := lr_R5) (by decide) rfl rfl (Nat.le_of_ble_eq_true rfl) (fun X C E => ?_)
  show lr_T X 0 [(0, .inr (7, n)), (1, .inl a1), (2, .inl a2)] [] t
  have h := (show (if a1 = 0 then (some ((lr_rd t 7 n 0), t)) else (if (lr_rd t 7 n 0) = 0 then (some ((-1 : Int32), t)) else (if (lr_rd t 7 n 0) = (1 : Int32) then (if a1 = (1 : Int32) then (some ((lr_rd t 7 n 1), t)) else (if a1 = (2 : Int32) then (some ((lr_rd t 7 n 2), t)) else (if a1 = (3 : Int32) then (some ((lr_rd t 8 n (0 : Int32).toNatClampNeg), t)) else (if a1 = (4 : Int32) then (some ((lr_rd t 8 n (1 : Int32).toNatClampNeg), t)) else (some ((-1 : Int32), t)))))) else (if a1 = (1 : Int32) then (some ((lr_rd t 7 n 1), t)) else (if a1 = (2 : Int32) then ((lr_G_Slot_state n a2 t).bind fun u6 => (some (u6.1, u6.2))) else (if a1 = (3 : Int32) then (some ((lr_rd t 7 n 9), t)) else (if a1 = (4 : Int32) then (some ((lr_rd t 7 n 6), t)) else (some ((-1 : Int32), t))))))))) = some o from h)
  refine lr_iload_n (pc := 0) C lr_d_Slot_part_0 rfl 1 rfl ?_
  refine lr_if_ne (pc := 1) (tgt := 9) C lr_d_Slot_part_1 (by decide) (fun hc1 => ?_) (fun hc1 => ?_)
  · have h := lr_ng hc1 h
    refine lr_aload_n (pc := 9) C lr_d_Slot_part_9 rfl 0 rfl ?_
    refine lr_g5_9 (pc := 10) C lr_d_Slot_part_10 ?_
    refine lr_if_ne (pc := 13) (tgt := 18) C lr_d_Slot_part_13 (by decide) (fun hc2 => ?_) (fun hc2 => ?_)
    · have h := lr_ng hc2 h
      refine lr_aload_n (pc := 18) C lr_d_Slot_part_18 rfl 0 rfl ?_
      refine lr_g5_9 (pc := 19) C lr_d_Slot_part_19 ?_
      refine lr_iconst (pc := 22) (v := 1) C lr_d_Slot_part_22 (by decide) ?_
      refine lr_icmp_ne (pc := 23) (tgt := 30) C lr_d_Slot_part_23 (by decide) (fun hc3 => ?_) (fun hc3 => ?_)
      · have h := lr_ng hc3 h
        refine lr_iconst (pc := 30) (v := 0) C lr_d_Slot_part_30 (by decide) ?_
        refine lr_istore_n (pc := 31) (ls' := [(3, .inl (0 : Int32)), (0, .inr (7, n)), (1, .inl a1), (2, .inl a2)]) C lr_d_Slot_part_31 rfl (by decide) rfl ?_
        refine lr_iload_n (pc := 32) C lr_d_Slot_part_32 rfl 2 rfl ?_
        by_cases hc4 : a1 = (1 : Int32)
        · have h := lr_ps hc4 h
          refine lr_tabIn (off := 31) (tgt := 64) C lr_d_Slot_part_33 1 (by rw [hc4]; decide) (by decide) (by decide) ?_
          refine lr_aload_n (pc := 64) C lr_d_Slot_part_64 rfl 1 rfl ?_
          refine lr_g5_25 (pc := 65) C lr_d_Slot_part_65 ?_
          have e := Option.some.inj h
          subst e
          exact lr_iret C E lr_d_Slot_part_68 rfl
        have h := lr_ng hc4 h
        by_cases hc5 : a1 = (2 : Int32)
        · have h := lr_ps hc5 h
          refine lr_tabIn (off := 36) (tgt := 69) C lr_d_Slot_part_33 2 (by rw [hc5]; decide) (by decide) (by decide) ?_
          refine lr_iload_n (pc := 69) C lr_d_Slot_part_69 rfl 0 rfl ?_
          refine lr_if_eq (pc := 70) (tgt := 80) C lr_d_Slot_part_70 (by decide) (fun _ => ?_) (fun hc => absurd hc (by decide))
          refine lr_aload_n (pc := 80) C lr_d_Slot_part_80 rfl 1 rfl ?_
          refine lr_iload_n (pc := 81) C lr_d_Slot_part_81 rfl 3 rfl ?_
          obtain ⟨u6, hu7, h⟩ := lr_bd h
          refine lr_callVi (pc := 82) (as := [.inl a2]) (st := []) (fs := fun ad => lr_fs5 t n ad) C (lr_r_Slot_state hu7) lr_c5_41 lr_d_Slot_part_82 rfl rfl (fun _ _ => rfl) (ci := 5) rfl rfl ⟨by decide, by decide⟩ (Nat.le_of_ble_eq_true rfl) ?_
          have e := Option.some.inj h
          subst e
          exact lr_iret C E lr_d_Slot_part_85 rfl
        have h := lr_ng hc5 h
        by_cases hc8 : a1 = (3 : Int32)
        · have h := lr_ps hc8 h
          refine lr_tabIn (off := 53) (tgt := 86) C lr_d_Slot_part_33 3 (by rw [hc8]; decide) (by decide) (by decide) ?_
          refine lr_iload_n (pc := 86) C lr_d_Slot_part_86 rfl 0 rfl ?_
          refine lr_if_eq (pc := 87) (tgt := 99) C lr_d_Slot_part_87 (by decide) (fun _ => ?_) (fun hc => absurd hc (by decide))
          refine lr_aload_n (pc := 99) C lr_d_Slot_part_99 rfl 1 rfl ?_
          refine lr_g5_34 (pc := 100) C lr_d_Slot_part_100 ?_
          have e := Option.some.inj h
          subst e
          exact lr_iret C E lr_d_Slot_part_103 rfl
        have h := lr_ng hc8 h
        by_cases hc9 : a1 = (4 : Int32)
        · have h := lr_ps hc9 h
          refine lr_tabIn (off := 71) (tgt := 104) C lr_d_Slot_part_33 4 (by rw [hc9]; decide) (by decide) (by decide) ?_
          refine lr_iload_n (pc := 104) C lr_d_Slot_part_104 rfl 0 rfl ?_
          refine lr_if_eq (pc := 105) (tgt := 117) C lr_d_Slot_part_105 (by decide) (fun _ => ?_) (fun hc => absurd hc (by decide))
          refine lr_aload_n (pc := 117) C lr_d_Slot_part_117 rfl 1 rfl ?_
          refine lr_g5_31 (pc := 118) C lr_d_Slot_part_118 ?_
          have e := Option.some.inj h
          subst e
          exact lr_iret C E lr_d_Slot_part_121 rfl
        have h := lr_ng hc9 h
        refine lr_tabOut (tgt := 122) C lr_d_Slot_part_33 (lr_tout (fun v h1 h2 h3 => by rcases (show v = 1 ∨ v = 2 ∨ v = 3 ∨ v = 4 by omega) with rfl | rfl | rfl | rfl <;> first | exact hc4 (Int32.toInt_inj.mp (h3.trans (by decide))) | exact hc5 (Int32.toInt_inj.mp (h3.trans (by decide))) | exact hc8 (Int32.toInt_inj.mp (h3.trans (by decide))) | exact hc9 (Int32.toInt_inj.mp (h3.trans (by decide))))) (by decide) ?_
        refine lr_iconst (pc := 122) (v := -1) C lr_d_Slot_part_122 (by decide) ?_
        have e := Option.some.inj h
        subst e
        exact lr_iret C E lr_d_Slot_part_123 rfl
      · have h := lr_ps hc3 h
        refine lr_iconst (pc := 26) (v := 1) C lr_d_Slot_part_26 (by decide) ?_
        refine lr_goto (pc := 27) (tgt := 31) C lr_d_Slot_part_27 (by decide) ?_
        refine lr_istore_n (pc := 31) (ls' := [(3, .inl (1 : Int32)), (0, .inr (7, n)), (1, .inl a1), (2, .inl a2)]) C lr_d_Slot_part_31 rfl (by decide) rfl ?_
        refine lr_iload_n (pc := 32) C lr_d_Slot_part_32 rfl 2 rfl ?_
        by_cases hc10 : a1 = (1 : Int32)
        · have h := lr_ps hc10 h
          refine lr_tabIn (off := 31) (tgt := 64) C lr_d_Slot_part_33 1 (by rw [hc10]; decide) (by decide) (by decide) ?_
          refine lr_aload_n (pc := 64) C lr_d_Slot_part_64 rfl 1 rfl ?_
          refine lr_g5_25 (pc := 65) C lr_d_Slot_part_65 ?_
          have e := Option.some.inj h
          subst e
          exact lr_iret C E lr_d_Slot_part_68 rfl
        have h := lr_ng hc10 h
        by_cases hc11 : a1 = (2 : Int32)
        · have h := lr_ps hc11 h
          refine lr_tabIn (off := 36) (tgt := 69) C lr_d_Slot_part_33 2 (by rw [hc11]; decide) (by decide) (by decide) ?_
          refine lr_iload_n (pc := 69) C lr_d_Slot_part_69 rfl 0 rfl ?_
          refine lr_if_eq (pc := 70) (tgt := 80) C lr_d_Slot_part_70 (by decide) (fun hc => absurd hc (by decide)) (fun _ => ?_)
          refine lr_aload_n (pc := 73) C lr_d_Slot_part_73 rfl 1 rfl ?_
          refine lr_g5_28 (pc := 74) C lr_d_Slot_part_74 ?_
          refine lr_goto (pc := 77) (tgt := 85) C lr_d_Slot_part_77 (by decide) ?_
          have e := Option.some.inj h
          subst e
          exact lr_iret C E lr_d_Slot_part_85 rfl
        have h := lr_ng hc11 h
        by_cases hc12 : a1 = (3 : Int32)
        · have h := lr_ps hc12 h
          refine lr_tabIn (off := 53) (tgt := 86) C lr_d_Slot_part_33 3 (by rw [hc12]; decide) (by decide) (by decide) ?_
          refine lr_iload_n (pc := 86) C lr_d_Slot_part_86 rfl 0 rfl ?_
          refine lr_if_eq (pc := 87) (tgt := 99) C lr_d_Slot_part_87 (by decide) (fun hc => absurd hc (by decide)) (fun _ => ?_)
          refine lr_aload_n (pc := 90) C lr_d_Slot_part_90 rfl 1 rfl ?_
          refine lr_g5_15 (pc := 91) C lr_d_Slot_part_91 ?_
          refine lr_iconst (pc := 94) (v := 0) C lr_d_Slot_part_94 (by decide) ?_
          refine lr_li8 (pc := 95) C lr_d_Slot_part_95 (by decide) ?_
          refine lr_goto (pc := 96) (tgt := 103) C lr_d_Slot_part_96 (by decide) ?_
          have e := Option.some.inj h
          subst e
          exact lr_iret C E lr_d_Slot_part_103 rfl
        have h := lr_ng hc12 h
        by_cases hc13 : a1 = (4 : Int32)
        · have h := lr_ps hc13 h
          refine lr_tabIn (off := 71) (tgt := 104) C lr_d_Slot_part_33 4 (by rw [hc13]; decide) (by decide) (by decide) ?_
          refine lr_iload_n (pc := 104) C lr_d_Slot_part_104 rfl 0 rfl ?_
          refine lr_if_eq (pc := 105) (tgt := 117) C lr_d_Slot_part_105 (by decide) (fun hc => absurd hc (by decide)) (fun _ => ?_)
          refine lr_aload_n (pc := 108) C lr_d_Slot_part_108 rfl 1 rfl ?_
          refine lr_g5_15 (pc := 109) C lr_d_Slot_part_109 ?_
          refine lr_iconst (pc := 112) (v := 1) C lr_d_Slot_part_112 (by decide) ?_
          refine lr_li8 (pc := 113) C lr_d_Slot_part_113 (by decide) ?_
          refine lr_goto (pc := 114) (tgt := 121) C lr_d_Slot_part_114 (by decide) ?_
          have e := Option.some.inj h
          subst e
          exact lr_iret C E lr_d_Slot_part_121 rfl
        have h := lr_ng hc13 h
        refine lr_tabOut (tgt := 122) C lr_d_Slot_part_33 (lr_tout (fun v h1 h2 h3 => by rcases (show v = 1 ∨ v = 2 ∨ v = 3 ∨ v = 4 by omega) with rfl | rfl | rfl | rfl <;> first | exact hc10 (Int32.toInt_inj.mp (h3.trans (by decide))) | exact hc11 (Int32.toInt_inj.mp (h3.trans (by decide))) | exact hc12 (Int32.toInt_inj.mp (h3.trans (by decide))) | exact hc13 (Int32.toInt_inj.mp (h3.trans (by decide))))) (by decide) ?_
        refine lr_iconst (pc := 122) (v := -1) C lr_d_Slot_part_122 (by decide) ?_
        have e := Option.some.inj h
        subst e
        exact lr_iret C E lr_d_Slot_part_123 rfl
    · have h := lr_ps hc2 h
      refine lr_iconst (pc := 16) (v := -1) C lr_d_Slot_part_16 (by decide) ?_
      have e := Option.some.inj h
      subst e
      exact lr_iret C E lr_d_Slot_part_17 rfl
  · have h := lr_ps hc1 h
    refine lr_aload_n (pc := 4) C lr_d_Slot_part_4 rfl 0 rfl ?_
    refine lr_g5_9 (pc := 5) C lr_d_Slot_part_5 ?_
    have e := Option.some.inj h
    subst e
    exact lr_iret C E lr_d_Slot_part_8 rfl
def lr_G_X_isNode (a0 : Int32) (t : lr_S) : Option (Int32 × lr_S) := if a0 < 0 then (some ((0 : Int32), t)) else (if (4 : Int32) ≤ a0 then (some ((0 : Int32), t)) else (some ((1 : Int32), t)))
set_option maxHeartbeats 4000000 in
theorem lr_r_X_isNode {a0 : Int32} {t : lr_S} {o : Int32 × lr_S} (h : lr_G_X_isNode a0 t = some o) : lr_RI 0 20 lr_m_X_isNode [.inl a0] t o.1 o.2 := by
  refine lr_ofI (ty := .boolean) (own := lr_R6) (by decide) rfl rfl (Nat.le_of_ble_eq_true rfl) (fun X C E => ?_)
  show lr_T X 0 [(0, .inl a0)] [] t
  have h := (show (if a0 < 0 then (some ((0 : Int32), t)) else (if (4 : Int32) ≤ a0 then (some ((0 : Int32), t)) else (some ((1 : Int32), t)))) = some o from h)
  refine lr_iload_n (pc := 0) C lr_d_X_isNode_0 rfl 0 rfl ?_
  refine lr_if_lt (pc := 1) (tgt := 13) C lr_d_X_isNode_1 (by decide) (fun hc1 => ?_) (fun hc1 => ?_)
  · have h := lr_ps hc1 h
    refine lr_iconst (pc := 13) (v := 0) C lr_d_X_isNode_13 (by decide) ?_
    have e := Option.some.inj h
    subst e
    exact lr_iret C E lr_d_X_isNode_14 (by decide)
  · have h := lr_ng hc1 h
    refine lr_iload_n (pc := 4) C lr_d_X_isNode_4 rfl 0 rfl ?_
    refine lr_iconst (pc := 5) (v := 4) C lr_d_X_isNode_5 (by decide) ?_
    refine lr_icmp_ge (pc := 6) (tgt := 13) C lr_d_X_isNode_6 (by decide) (fun hc2 => ?_) (fun hc2 => ?_)
    · have h := lr_ps hc2 h
      refine lr_iconst (pc := 13) (v := 0) C lr_d_X_isNode_13 (by decide) ?_
      have e := Option.some.inj h
      subst e
      exact lr_iret C E lr_d_X_isNode_14 (by decide)
    · have h := lr_ng hc2 h
      refine lr_iconst (pc := 9) (v := 1) C lr_d_X_isNode_9 (by decide) ?_
      refine lr_goto (pc := 10) (tgt := 14) C lr_d_X_isNode_10 (by decide) ?_
      have e := Option.some.inj h
      subst e
      exact lr_iret C E lr_d_X_isNode_14 (by decide)
def lr_G_X_acts (a1 : Int32) (t : lr_S) : Option (Int32 × lr_S) := (lr_G_X_isNode a1 t).bind fun u1 => (if u1.1 = 0 then (some ((0 : Int32), u1.2)) else (if lr_in a1 4 = true then (if (lr_rd u1.2 5 a1.toNatClampNeg 9) = 0 then (some ((1 : Int32), u1.2)) else (some ((0 : Int32), u1.2))) else none))
set_option maxHeartbeats 4000000 in
theorem lr_r_X_acts {a1 : Int32} {t : lr_S} {o : Int32 × lr_S} (h : lr_G_X_acts a1 t = some o) : lr_RI 0 20 lr_m_X_acts [.inr (0, 0), .inl a1] t o.1 o.2 := by
  refine lr_ofI (ty := .boolean) (own := lr_R6) (by decide) rfl rfl (Nat.le_of_ble_eq_true rfl) (fun X C E => ?_)
  show lr_T X 0 [(0, .inr (0, 0)), (1, .inl a1)] [] t
  have h := (show ((lr_G_X_isNode a1 t).bind fun u1 => (if u1.1 = 0 then (some ((0 : Int32), u1.2)) else (if lr_in a1 4 = true then (if (lr_rd u1.2 5 a1.toNatClampNeg 9) = 0 then (some ((1 : Int32), u1.2)) else (some ((0 : Int32), u1.2))) else none))) = some o from h)
  refine lr_iload_n (pc := 0) C lr_d_X_acts_0 rfl 1 rfl ?_
  obtain ⟨u1, hu2, h⟩ := lr_bd h
  refine lr_callSi (pc := 1) (as := [.inl a1]) (st := []) C (lr_r_X_isNode hu2) lr_c6_74 lr_d_X_acts_1 rfl rfl ⟨by decide, by decide⟩ (Nat.le_of_ble_eq_true rfl) ?_
  refine lr_if_eq (pc := 4) (tgt := 23) C lr_d_X_acts_4 (by decide) (fun hc3 => ?_) (fun hc3 => ?_)
  · have h := lr_ps hc3 h
    refine lr_iconst (pc := 23) (v := 0) C lr_d_X_acts_23 (by decide) ?_
    have e := Option.some.inj h
    subst e
    exact lr_iret C E lr_d_X_acts_24 (by decide)
  · have h := lr_ng hc3 h
    refine lr_aload_n (pc := 7) C lr_d_X_acts_7 rfl 0 rfl ?_
    refine lr_g6_18 (pc := 8) C lr_d_X_acts_8 ?_
    refine lr_iload_n (pc := 11) C lr_d_X_acts_11 rfl 1 rfl ?_
    obtain ⟨hb4, h⟩ := lr_gd h
    refine lr_a4 (pc := 12) C lr_d_X_acts_12 hb4 ?_
    refine lr_g6_139 (pc := 13) C lr_d_X_acts_13 ?_
    refine lr_if_ne (pc := 16) (tgt := 23) C lr_d_X_acts_16 (by decide) (fun hc5 => ?_) (fun hc5 => ?_)
    · have h := lr_ng hc5 h
      refine lr_iconst (pc := 23) (v := 0) C lr_d_X_acts_23 (by decide) ?_
      have e := Option.some.inj h
      subst e
      exact lr_iret C E lr_d_X_acts_24 (by decide)
    · have h := lr_ps hc5 h
      refine lr_iconst (pc := 19) (v := 1) C lr_d_X_acts_19 (by decide) ?_
      refine lr_goto (pc := 20) (tgt := 24) C lr_d_X_acts_20 (by decide) ?_
      have e := Option.some.inj h
      subst e
      exact lr_iret C E lr_d_X_acts_24 (by decide)
def lr_G_X_isRoot (a0 : Int32) (t : lr_S) : Option (Int32 × lr_S) := if a0 < 0 then (some ((0 : Int32), t)) else (if (3 : Int32) ≤ a0 then (some ((0 : Int32), t)) else (some ((1 : Int32), t)))
set_option maxHeartbeats 4000000 in
theorem lr_r_X_isRoot {a0 : Int32} {t : lr_S} {o : Int32 × lr_S} (h : lr_G_X_isRoot a0 t = some o) : lr_RI 0 20 lr_m_X_isRoot [.inl a0] t o.1 o.2 := by
  refine lr_ofI (ty := .boolean) (own := lr_R6) (by decide) rfl rfl (Nat.le_of_ble_eq_true rfl) (fun X C E => ?_)
  show lr_T X 0 [(0, .inl a0)] [] t
  have h := (show (if a0 < 0 then (some ((0 : Int32), t)) else (if (3 : Int32) ≤ a0 then (some ((0 : Int32), t)) else (some ((1 : Int32), t)))) = some o from h)
  refine lr_iload_n (pc := 0) C lr_d_X_isRoot_0 rfl 0 rfl ?_
  refine lr_if_lt (pc := 1) (tgt := 13) C lr_d_X_isRoot_1 (by decide) (fun hc1 => ?_) (fun hc1 => ?_)
  · have h := lr_ps hc1 h
    refine lr_iconst (pc := 13) (v := 0) C lr_d_X_isRoot_13 (by decide) ?_
    have e := Option.some.inj h
    subst e
    exact lr_iret C E lr_d_X_isRoot_14 (by decide)
  · have h := lr_ng hc1 h
    refine lr_iload_n (pc := 4) C lr_d_X_isRoot_4 rfl 0 rfl ?_
    refine lr_iconst (pc := 5) (v := 3) C lr_d_X_isRoot_5 (by decide) ?_
    refine lr_icmp_ge (pc := 6) (tgt := 13) C lr_d_X_isRoot_6 (by decide) (fun hc2 => ?_) (fun hc2 => ?_)
    · have h := lr_ps hc2 h
      refine lr_iconst (pc := 13) (v := 0) C lr_d_X_isRoot_13 (by decide) ?_
      have e := Option.some.inj h
      subst e
      exact lr_iret C E lr_d_X_isRoot_14 (by decide)
    · have h := lr_ng hc2 h
      refine lr_iconst (pc := 9) (v := 1) C lr_d_X_isRoot_9 (by decide) ?_
      refine lr_goto (pc := 10) (tgt := 14) C lr_d_X_isRoot_10 (by decide) ?_
      have e := Option.some.inj h
      subst e
      exact lr_iret C E lr_d_X_isRoot_14 (by decide)
