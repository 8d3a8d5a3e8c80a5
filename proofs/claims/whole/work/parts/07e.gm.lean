def lr_G_M_call (a1 : Int32) (a2 : Int32) (a3 : Int32) (t : lr_S) : Option (Int32 × lr_S) := (lr_G_M_at a1 a2 t).bind fun u1 => (if u1.1 < 0 then (some ((-1 : Int32), u1.2)) else (if lr_in a1 4 = true then (if (lr_rd u1.2 45 0 a1.toNatClampNeg) = (1 : Int32) then (some ((-1 : Int32), u1.2)) else (if lr_in u1.1 32 = true then (if (lr_rd u1.2 24 0 u1.1.toNatClampNeg) = (2 : Int32) then (if (lr_rd u1.2 34 0 u1.1.toNatClampNeg) = 0 then (some ((-2 : Int32), u1.2)) else ((lr_G_M_stale u1.1 u1.2).bind fun u9 => (if u9.1 = 0 then ((some (lr_wr (lr_wr u9.2 45 0 a1.toNatClampNeg (1 : Int32)) 46 0 a1.toNatClampNeg ((lr_rd (lr_wr u9.2 45 0 a1.toNatClampNeg (1 : Int32)) 46 0 a1.toNatClampNeg) + (1 : Int32)))).bind fun t12 => ((lr_G_M_sendCall a1 (lr_wr (lr_wr t12 47 0 a1.toNatClampNeg u1.1) 48 0 a1.toNatClampNeg a3)).bind fun u14 => (some ((lr_rd u14 46 0 a1.toNatClampNeg), u14)))) else (some ((-2 : Int32), u9.2))))) else (some ((-1 : Int32), u1.2))) else none)) else none))
set_option maxHeartbeats 4000000 in
theorem lr_r_M_call {a1 : Int32} {a2 : Int32} {a3 : Int32} {t : lr_S} {o : Int32 × lr_S} (h : lr_G_M_call a1 a2 a3 t = some o) : lr_RI 20 60 lr_m_M_call [.inr (20, 0), .inl a1, .inl a2, .inl a3] t o.1 o.2 := by
  refine lr_ofI (ty := .int) (own := lr_R7) (by decide) rfl rfl (Nat.le_of_ble_eq_true rfl) (fun X C E => ?_)
  show lr_T X 0 [(0, .inr (20, 0)), (1, .inl a1), (2, .inl a2), (3, .inl a3)] [] t
  have h := (show ((lr_G_M_at a1 a2 t).bind fun u1 => (if u1.1 < 0 then (some ((-1 : Int32), u1.2)) else (if lr_in a1 4 = true then (if (lr_rd u1.2 45 0 a1.toNatClampNeg) = (1 : Int32) then (some ((-1 : Int32), u1.2)) else (if lr_in u1.1 32 = true then (if (lr_rd u1.2 24 0 u1.1.toNatClampNeg) = (2 : Int32) then (if (lr_rd u1.2 34 0 u1.1.toNatClampNeg) = 0 then (some ((-2 : Int32), u1.2)) else ((lr_G_M_stale u1.1 u1.2).bind fun u9 => (if u9.1 = 0 then ((some (lr_wr (lr_wr u9.2 45 0 a1.toNatClampNeg (1 : Int32)) 46 0 a1.toNatClampNeg ((lr_rd (lr_wr u9.2 45 0 a1.toNatClampNeg (1 : Int32)) 46 0 a1.toNatClampNeg) + (1 : Int32)))).bind fun t12 => ((lr_G_M_sendCall a1 (lr_wr (lr_wr t12 47 0 a1.toNatClampNeg u1.1) 48 0 a1.toNatClampNeg a3)).bind fun u14 => (some ((lr_rd u14 46 0 a1.toNatClampNeg), u14)))) else (some ((-2 : Int32), u9.2))))) else (some ((-1 : Int32), u1.2))) else none)) else none))) = some o from h)
  refine lr_aload_n (pc := 0) C lr_d_M_call_0 rfl 0 rfl ?_
  refine lr_iload_n (pc := 1) C lr_d_M_call_1 rfl 1 rfl ?_
  refine lr_iload_n (pc := 2) C lr_d_M_call_2 rfl 2 rfl ?_
  obtain ⟨u1, hu2, h⟩ := lr_bd h
  refine lr_callVi (pc := 3) (as := [.inl a1, .inl a2]) (st := []) (fs := fun ad => lr_fs7 t 0 ad) C (lr_r_M_at hu2) lr_c7_136 lr_d_M_call_3 rfl rfl (fun _ _ => rfl) (ci := 7) rfl rfl ⟨by decide, by decide⟩ (Nat.le_of_ble_eq_true rfl) ?_
  refine lr_istore (pc := 6) (ls' := [(4, .inl u1.1), (0, .inr (20, 0)), (1, .inl a1), (2, .inl a2), (3, .inl a3)]) C lr_d_M_call_6 (by decide) rfl ?_
  refine lr_iload (pc := 8) C lr_d_M_call_8 0 rfl ?_
  refine lr_if_lt (pc := 10) (tgt := 34) C lr_d_M_call_10 (by decide) (fun hc3 => ?_) (fun hc3 => ?_)
  · have h := lr_ps hc3 h
    refine lr_iconst (pc := 34) (v := -1) C lr_d_M_call_34 (by decide) ?_
    have e := Option.some.inj h
    subst e
    exact lr_iret C E lr_d_M_call_35 rfl
  · have h := lr_ng hc3 h
    refine lr_aload_n (pc := 13) C lr_d_M_call_13 rfl 1 rfl ?_
    refine lr_g7_74 (pc := 14) C lr_d_M_call_14 ?_
    refine lr_iload_n (pc := 17) C lr_d_M_call_17 rfl 2 rfl ?_
    obtain ⟨hb4, h⟩ := lr_gd h
    refine lr_li45 (pc := 18) C lr_d_M_call_18 hb4 ?_
    refine lr_iconst (pc := 19) (v := 1) C lr_d_M_call_19 (by decide) ?_
    refine lr_icmp_eq (pc := 20) (tgt := 34) C lr_d_M_call_20 (by decide) (fun hc5 => ?_) (fun hc5 => ?_)
    · have h := lr_ps hc5 h
      refine lr_iconst (pc := 34) (v := -1) C lr_d_M_call_34 (by decide) ?_
      have e := Option.some.inj h
      subst e
      exact lr_iret C E lr_d_M_call_35 rfl
    · have h := lr_ng hc5 h
      refine lr_aload_n (pc := 23) C lr_d_M_call_23 rfl 1 rfl ?_
      refine lr_g7_20 (pc := 24) C lr_d_M_call_24 ?_
      refine lr_iload (pc := 27) C lr_d_M_call_27 0 rfl ?_
      obtain ⟨hb6, h⟩ := lr_gd h
      refine lr_li24 (pc := 29) C lr_d_M_call_29 hb6 ?_
      refine lr_iconst (pc := 30) (v := 2) C lr_d_M_call_30 (by decide) ?_
      refine lr_icmp_eq (pc := 31) (tgt := 36) C lr_d_M_call_31 (by decide) (fun hc7 => ?_) (fun hc7 => ?_)
      · have h := lr_ps hc7 h
        refine lr_aload_n (pc := 36) C lr_d_M_call_36 rfl 1 rfl ?_
        refine lr_g7_50 (pc := 37) C lr_d_M_call_37 ?_
        refine lr_iload (pc := 40) C lr_d_M_call_40 0 rfl ?_
        refine lr_lz34 (pc := 42) C lr_d_M_call_42 hb6 ?_
        refine lr_if_eq (pc := 43) (tgt := 55) C lr_d_M_call_43 (by decide) (fun hc8 => ?_) (fun hc8 => ?_)
        · have h := lr_ps hc8 h
          refine lr_bipush (pc := 55) (v := -2) C lr_d_M_call_55 (by decide) ?_
          have e := Option.some.inj h
          subst e
          exact lr_iret C E lr_d_M_call_57 rfl
        · have h := lr_ng hc8 h
          refine lr_aload_n (pc := 46) C lr_d_M_call_46 rfl 1 rfl ?_
          refine lr_iload (pc := 47) C lr_d_M_call_47 0 rfl ?_
          obtain ⟨u9, hu10, h⟩ := lr_bd h
          refine lr_callVi (pc := 49) (as := [.inl u1.1]) (st := []) (fs := fun ad => lr_fs7 u1.2 0 ad) C (lr_r_M_stale hu10) lr_c7_149 lr_d_M_call_49 rfl rfl (fun _ _ => rfl) (ci := 7) rfl rfl ⟨by decide, by decide⟩ (Nat.le_of_ble_eq_true rfl) ?_
          refine lr_if_eq (pc := 52) (tgt := 58) C lr_d_M_call_52 (by decide) (fun hc11 => ?_) (fun hc11 => ?_)
          · have h := lr_ps hc11 h
            refine lr_aload_n (pc := 58) C lr_d_M_call_58 rfl 1 rfl ?_
            refine lr_g7_74 (pc := 59) C lr_d_M_call_59 ?_
            refine lr_iload_n (pc := 62) C lr_d_M_call_62 rfl 2 rfl ?_
            refine lr_iconst (pc := 63) (v := 1) C lr_d_M_call_63 (by decide) ?_
            refine lr_si45 (pc := 64) C lr_d_M_call_64 hb4 ?_
            refine lr_aload_n (pc := 65) C lr_d_M_call_65 rfl 1 rfl ?_
            refine lr_g7_77 (pc := 66) C lr_d_M_call_66 ?_
            refine lr_iload_n (pc := 69) C lr_d_M_call_69 rfl 2 rfl ?_
            refine lr_dup2 (pc := 70) C lr_d_M_call_70 ?_
            refine lr_li46 (pc := 71) C lr_d_M_call_71 hb4 ?_
            refine lr_iconst (pc := 72) (v := 1) C lr_d_M_call_72 (by decide) ?_
            refine lr_iadd (pc := 73) C lr_d_M_call_73 ?_
            refine lr_si46 (pc := 74) C lr_d_M_call_74 hb4 ?_
            obtain ⟨t12, ht13, h⟩ := lr_bd h
            rw [Option.some.inj ht13]
            refine lr_aload_n (pc := 75) C lr_d_M_call_75 rfl 1 rfl ?_
            refine lr_g7_80 (pc := 76) C lr_d_M_call_76 ?_
            refine lr_iload_n (pc := 79) C lr_d_M_call_79 rfl 2 rfl ?_
            refine lr_iload (pc := 80) C lr_d_M_call_80 0 rfl ?_
            refine lr_si47 (pc := 82) C lr_d_M_call_82 hb4 ?_
            refine lr_aload_n (pc := 83) C lr_d_M_call_83 rfl 1 rfl ?_
            refine lr_g7_83 (pc := 84) C lr_d_M_call_84 ?_
            refine lr_iload_n (pc := 87) C lr_d_M_call_87 rfl 2 rfl ?_
            refine lr_iload_n (pc := 88) C lr_d_M_call_88 rfl 4 rfl ?_
            refine lr_si48 (pc := 89) C lr_d_M_call_89 hb4 ?_
            refine lr_aload_n (pc := 90) C lr_d_M_call_90 rfl 1 rfl ?_
            refine lr_iload_n (pc := 91) C lr_d_M_call_91 rfl 2 rfl ?_
            obtain ⟨u14, hu15, h⟩ := lr_bd h
            refine lr_callVv (pc := 92) (as := [.inl a1]) (st := []) (fs := fun ad => lr_fs7 (lr_wr (lr_wr t12 47 0 a1.toNatClampNeg u1.1) 48 0 a1.toNatClampNeg a3) 0 ad) C (lr_r_M_sendCall hu15) lr_c7_152 lr_d_M_call_92 rfl rfl (fun _ _ => rfl) (ci := 7) rfl rfl ⟨by decide, by decide⟩ (Nat.le_of_ble_eq_true rfl) ?_
            refine lr_aload_n (pc := 95) C lr_d_M_call_95 rfl 1 rfl ?_
            refine lr_g7_77 (pc := 96) C lr_d_M_call_96 ?_
            refine lr_iload_n (pc := 99) C lr_d_M_call_99 rfl 2 rfl ?_
            refine lr_li46 (pc := 100) C lr_d_M_call_100 hb4 ?_
            have e := Option.some.inj h
            subst e
            exact lr_iret C E lr_d_M_call_101 rfl
          · have h := lr_ng hc11 h
            refine lr_bipush (pc := 55) (v := -2) C lr_d_M_call_55 (by decide) ?_
            have e := Option.some.inj h
            subst e
            exact lr_iret C E lr_d_M_call_57 rfl
      · have h := lr_ng hc7 h
        refine lr_iconst (pc := 34) (v := -1) C lr_d_M_call_34 (by decide) ?_
        have e := Option.some.inj h
        subst e
        exact lr_iret C E lr_d_M_call_35 rfl
def lr_L_M_renew_5 (a1 : Int32) : Nat → Int32 → lr_S → Option (Int32 × lr_S)
  | 0, _, _ => none
  | f + 1, x2, t => if (((8 : Int32) * a1) + (8 : Int32)) ≤ x2 then (some (x2, t)) else (if lr_in x2 32 = true then (if (lr_rd t 24 0 x2.toNatClampNeg) = (2 : Int32) then ((lr_G_M_stale x2 t).bind fun u4 => (if u4.1 = 0 then (if ((lr_rd u4.2 20 0 0) - (lr_rd u4.2 32 0 x2.toNatClampNeg)) < (6 : Int32) then (lr_L_M_renew_5 a1 f (x2 + 1) u4.2) else ((lr_G_M_sendDirty x2 u4.2).bind fun u8 => (if u8.1 ≤ 0 then (lr_L_M_renew_5 a1 f (x2 + 1) (lr_wr u8.2 32 0 x2.toNatClampNeg (lr_rd u8.2 32 0 x2.toNatClampNeg))) else (lr_L_M_renew_5 a1 f (x2 + 1) (lr_wr u8.2 32 0 x2.toNatClampNeg (lr_rd u8.2 20 0 0)))))) else (lr_L_M_renew_5 a1 f (x2 + 1) u4.2))) else (lr_L_M_renew_5 a1 f (x2 + 1) t)) else none)
set_option maxHeartbeats 4000000 in
theorem lr_t_M_renew_5 {X : lr_X} (C : lr_C X lr_m_M_renew.2.1 lr_R7 lr_m_M_renew.2.2.1 lr_m_M_renew.2.2.2.2.1 lr_m_M_renew.2.2.2.2.2 20 60) (a1 : Int32) : ∀ (f : Nat) (x2 : Int32) (t : lr_S) (o : Int32 × lr_S), lr_L_M_renew_5 a1 f x2 t = some o → (lr_T X 85 [(0, .inr (20, 0)), (1, .inl a1), (2, .inl o.1)] [] o.2) → lr_T X 5 [(0, .inr (20, 0)), (1, .inl a1), (2, .inl x2)] [] t := by
  intro f
  induction f with
  | zero => intro x2 t o h; cases h
  | succ f ih =>
    intro x2 t o h kx
    have h := (show (if (((8 : Int32) * a1) + (8 : Int32)) ≤ x2 then (some (x2, t)) else (if lr_in x2 32 = true then (if (lr_rd t 24 0 x2.toNatClampNeg) = (2 : Int32) then ((lr_G_M_stale x2 t).bind fun u4 => (if u4.1 = 0 then (if ((lr_rd u4.2 20 0 0) - (lr_rd u4.2 32 0 x2.toNatClampNeg)) < (6 : Int32) then (lr_L_M_renew_5 a1 f (x2 + 1) u4.2) else ((lr_G_M_sendDirty x2 u4.2).bind fun u8 => (if u8.1 ≤ 0 then (lr_L_M_renew_5 a1 f (x2 + 1) (lr_wr u8.2 32 0 x2.toNatClampNeg (lr_rd u8.2 32 0 x2.toNatClampNeg))) else (lr_L_M_renew_5 a1 f (x2 + 1) (lr_wr u8.2 32 0 x2.toNatClampNeg (lr_rd u8.2 20 0 0)))))) else (lr_L_M_renew_5 a1 f (x2 + 1) u4.2))) else (lr_L_M_renew_5 a1 f (x2 + 1) t)) else none)) = some o from h)
    refine lr_iload_n (pc := 5) C lr_d_M_renew_5 rfl 2 rfl ?_
    refine lr_bipush (pc := 6) (v := 8) C lr_d_M_renew_6 (by decide) ?_
    refine lr_iload_n (pc := 8) C lr_d_M_renew_8 rfl 1 rfl ?_
    refine lr_imul (pc := 9) C lr_d_M_renew_9 ?_
    refine lr_bipush (pc := 10) (v := 8) C lr_d_M_renew_10 (by decide) ?_
    refine lr_iadd (pc := 12) C lr_d_M_renew_12 ?_
    refine lr_icmp_ge (pc := 13) (tgt := 85) C lr_d_M_renew_13 (by decide) (fun hc1 => ?_) (fun hc1 => ?_)
    · have h := lr_ps hc1 h
      refine lr_sub (ls' := [(0, .inr (20, 0)), (1, .inl a1), (2, .inl x2)]) C [0, 1, 2] rfl ?_
      have e := Option.some.inj h
      subst e
      exact kx
    · have h := lr_ng hc1 h
      refine lr_aload_n (pc := 16) C lr_d_M_renew_16 rfl 0 rfl ?_
      refine lr_g7_20 (pc := 17) C lr_d_M_renew_17 ?_
      refine lr_iload_n (pc := 20) C lr_d_M_renew_20 rfl 2 rfl ?_
      obtain ⟨hb2, h⟩ := lr_gd h
      refine lr_li24 (pc := 21) C lr_d_M_renew_21 hb2 ?_
      refine lr_iconst (pc := 22) (v := 2) C lr_d_M_renew_22 (by decide) ?_
      refine lr_icmp_ne (pc := 23) (tgt := 79) C lr_d_M_renew_23 (by decide) (fun hc3 => ?_) (fun hc3 => ?_)
      · have h := lr_ng hc3 h
        refine lr_iinc (pc := 79) (v := (x2 + 1)) (ls' := [(2, .inl (x2 + 1)), (0, .inr (20, 0)), (1, .inl a1)]) C lr_d_M_renew_79 2 rfl rfl (by decide) rfl ?_
        refine lr_goto (pc := 82) (tgt := 5) C lr_d_M_renew_82 (by decide) ?_
        refine lr_sub (ls' := [(0, .inr (20, 0)), (1, .inl a1), (2, .inl (x2 + 1))]) C [1, 2, 0] rfl ?_
        exact ih (x2 + 1) t o h kx
      · have h := lr_ps hc3 h
        refine lr_aload_n (pc := 26) C lr_d_M_renew_26 rfl 0 rfl ?_
        refine lr_iload_n (pc := 27) C lr_d_M_renew_27 rfl 2 rfl ?_
        obtain ⟨u4, hu5, h⟩ := lr_bd h
        refine lr_callVi (pc := 28) (as := [.inl x2]) (st := []) (fs := fun ad => lr_fs7 t 0 ad) C (lr_r_M_stale hu5) lr_c7_149 lr_d_M_renew_28 rfl rfl (fun _ _ => rfl) (ci := 7) rfl rfl ⟨by decide, by decide⟩ (Nat.le_of_ble_eq_true rfl) ?_
        refine lr_if_ne (pc := 31) (tgt := 79) C lr_d_M_renew_31 (by decide) (fun hc6 => ?_) (fun hc6 => ?_)
        · have h := lr_ng hc6 h
          refine lr_iinc (pc := 79) (v := (x2 + 1)) (ls' := [(2, .inl (x2 + 1)), (0, .inr (20, 0)), (1, .inl a1)]) C lr_d_M_renew_79 2 rfl rfl (by decide) rfl ?_
          refine lr_goto (pc := 82) (tgt := 5) C lr_d_M_renew_82 (by decide) ?_
          refine lr_sub (ls' := [(0, .inr (20, 0)), (1, .inl a1), (2, .inl (x2 + 1))]) C [1, 2, 0] rfl ?_
          exact ih (x2 + 1) u4.2 o h kx
        · have h := lr_ps hc6 h
          refine lr_aload_n (pc := 34) C lr_d_M_renew_34 rfl 0 rfl ?_
          refine lr_g7_119 (pc := 35) C lr_d_M_renew_35 ?_
          refine lr_aload_n (pc := 38) C lr_d_M_renew_38 rfl 0 rfl ?_
          refine lr_g7_44 (pc := 39) C lr_d_M_renew_39 ?_
          refine lr_iload_n (pc := 42) C lr_d_M_renew_42 rfl 2 rfl ?_
          refine lr_li32 (pc := 43) C lr_d_M_renew_43 hb2 ?_
          refine lr_isub (pc := 44) C lr_d_M_renew_44 ?_
          refine lr_bipush (pc := 45) (v := 6) C lr_d_M_renew_45 (by decide) ?_
          refine lr_icmp_lt (pc := 47) (tgt := 79) C lr_d_M_renew_47 (by decide) (fun hc7 => ?_) (fun hc7 => ?_)
          · have h := lr_ps hc7 h
            refine lr_iinc (pc := 79) (v := (x2 + 1)) (ls' := [(2, .inl (x2 + 1)), (0, .inr (20, 0)), (1, .inl a1)]) C lr_d_M_renew_79 2 rfl rfl (by decide) rfl ?_
            refine lr_goto (pc := 82) (tgt := 5) C lr_d_M_renew_82 (by decide) ?_
            refine lr_sub (ls' := [(0, .inr (20, 0)), (1, .inl a1), (2, .inl (x2 + 1))]) C [1, 2, 0] rfl ?_
            exact ih (x2 + 1) u4.2 o h kx
          · have h := lr_ng hc7 h
            refine lr_aload_n (pc := 50) C lr_d_M_renew_50 rfl 0 rfl ?_
            refine lr_iload_n (pc := 51) C lr_d_M_renew_51 rfl 2 rfl ?_
            obtain ⟨u8, hu9, h⟩ := lr_bd h
            refine lr_callVi (pc := 52) (as := [.inl x2]) (st := []) (fs := fun ad => lr_fs7 u4.2 0 ad) C (lr_r_M_sendDirty hu9) lr_c7_159 lr_d_M_renew_52 rfl rfl (fun _ _ => rfl) (ci := 7) rfl rfl ⟨by decide, by decide⟩ (Nat.le_of_ble_eq_true rfl) ?_
            refine lr_istore_n (pc := 55) (ls' := [(3, .inl u8.1), (0, .inr (20, 0)), (1, .inl a1), (2, .inl x2)]) C lr_d_M_renew_55 rfl (by decide) rfl ?_
            refine lr_aload_n (pc := 56) C lr_d_M_renew_56 rfl 1 rfl ?_
            refine lr_g7_44 (pc := 57) C lr_d_M_renew_57 ?_
            refine lr_iload_n (pc := 60) C lr_d_M_renew_60 rfl 3 rfl ?_
            refine lr_iload_n (pc := 61) C lr_d_M_renew_61 rfl 0 rfl ?_
            refine lr_if_le (pc := 62) (tgt := 72) C lr_d_M_renew_62 (by decide) (fun hc10 => ?_) (fun hc10 => ?_)
            · have h := lr_ps hc10 h
              refine lr_aload_n (pc := 72) C lr_d_M_renew_72 rfl 1 rfl ?_
              refine lr_g7_44 (pc := 73) C lr_d_M_renew_73 ?_
              refine lr_iload_n (pc := 76) C lr_d_M_renew_76 rfl 3 rfl ?_
              refine lr_li32 (pc := 77) C lr_d_M_renew_77 hb2 ?_
              refine lr_si32 (pc := 78) C lr_d_M_renew_78 hb2 ?_
              refine lr_iinc (pc := 79) (v := (x2 + 1)) (ls' := [(2, .inl (x2 + 1)), (3, .inl u8.1), (0, .inr (20, 0)), (1, .inl a1)]) C lr_d_M_renew_79 3 rfl rfl (by decide) rfl ?_
              refine lr_goto (pc := 82) (tgt := 5) C lr_d_M_renew_82 (by decide) ?_
              refine lr_sub (ls' := [(0, .inr (20, 0)), (1, .inl a1), (2, .inl (x2 + 1))]) C [2, 3, 0] rfl ?_
              exact ih (x2 + 1) (lr_wr u8.2 32 0 x2.toNatClampNeg (lr_rd u8.2 32 0 x2.toNatClampNeg)) o h kx
            · have h := lr_ng hc10 h
              refine lr_aload_n (pc := 65) C lr_d_M_renew_65 rfl 1 rfl ?_
              refine lr_g7_119 (pc := 66) C lr_d_M_renew_66 ?_
              refine lr_goto (pc := 69) (tgt := 78) C lr_d_M_renew_69 (by decide) ?_
              refine lr_si32 (pc := 78) C lr_d_M_renew_78 hb2 ?_
              refine lr_iinc (pc := 79) (v := (x2 + 1)) (ls' := [(2, .inl (x2 + 1)), (3, .inl u8.1), (0, .inr (20, 0)), (1, .inl a1)]) C lr_d_M_renew_79 3 rfl rfl (by decide) rfl ?_
              refine lr_goto (pc := 82) (tgt := 5) C lr_d_M_renew_82 (by decide) ?_
              refine lr_sub (ls' := [(0, .inr (20, 0)), (1, .inl a1), (2, .inl (x2 + 1))]) C [2, 3, 0] rfl ?_
              exact ih (x2 + 1) (lr_wr u8.2 32 0 x2.toNatClampNeg (lr_rd u8.2 20 0 0)) o h kx
def lr_G_M_renew (a1 : Int32) (t : lr_S) : Option (lr_S) := (lr_L_M_renew_5 a1 600 ((8 : Int32) * a1) t).bind fun u11 => (if lr_in a1 4 = true then (if (lr_rd u11.2 45 0 a1.toNatClampNeg) = (1 : Int32) then (if ((lr_rd u11.2 20 0 0) - (lr_rd u11.2 49 0 a1.toNatClampNeg)) < (3 : Int32) then (some u11.2) else ((lr_G_M_stale (lr_rd u11.2 47 0 a1.toNatClampNeg) u11.2).bind fun u16 => (if u16.1 = 0 then ((lr_G_M_sendCall a1 u16.2).bind fun u19 => (some u19)) else (some (lr_wr u16.2 45 0 a1.toNatClampNeg (3 : Int32)))))) else (some u11.2)) else none)
set_option maxHeartbeats 4000000 in
theorem lr_r_M_renew {a1 : Int32} {t o : lr_S} (h : lr_G_M_renew a1 t = some o) : lr_RV 20 60 lr_m_M_renew [.inr (20, 0), .inl a1] t o := by
  refine lr_ofV (own := lr_R7) (by decide) rfl rfl (Nat.le_of_ble_eq_true rfl) (fun X C E => ?_)
  show lr_T X 0 [(0, .inr (20, 0)), (1, .inl a1)] [] t
  have h := (show ((lr_L_M_renew_5 a1 600 ((8 : Int32) * a1) t).bind fun u11 => (if lr_in a1 4 = true then (if (lr_rd u11.2 45 0 a1.toNatClampNeg) = (1 : Int32) then (if ((lr_rd u11.2 20 0 0) - (lr_rd u11.2 49 0 a1.toNatClampNeg)) < (3 : Int32) then (some u11.2) else ((lr_G_M_stale (lr_rd u11.2 47 0 a1.toNatClampNeg) u11.2).bind fun u16 => (if u16.1 = 0 then ((lr_G_M_sendCall a1 u16.2).bind fun u19 => (some u19)) else (some (lr_wr u16.2 45 0 a1.toNatClampNeg (3 : Int32)))))) else (some u11.2)) else none)) = some o from h)
  refine lr_bipush (pc := 0) (v := 8) C lr_d_M_renew_0 (by decide) ?_
  refine lr_iload_n (pc := 2) C lr_d_M_renew_2 rfl 1 rfl ?_
  refine lr_imul (pc := 3) C lr_d_M_renew_3 ?_
  refine lr_istore_n (pc := 4) (ls' := [(2, .inl ((8 : Int32) * a1)), (0, .inr (20, 0)), (1, .inl a1)]) C lr_d_M_renew_4 rfl (by decide) rfl ?_
  refine lr_sub (ls' := [(0, .inr (20, 0)), (1, .inl a1), (2, .inl ((8 : Int32) * a1))]) C [1, 2, 0] rfl ?_
  obtain ⟨u11, hu12, h⟩ := lr_bd h
  refine lr_t_M_renew_5 C a1 600 ((8 : Int32) * a1) t u11 hu12 ?_
  refine lr_aload_n (pc := 85) C lr_d_M_renew_85 rfl 0 rfl ?_
  refine lr_g7_74 (pc := 86) C lr_d_M_renew_86 ?_
  refine lr_iload_n (pc := 89) C lr_d_M_renew_89 rfl 1 rfl ?_
  obtain ⟨hb13, h⟩ := lr_gd h
  refine lr_li45 (pc := 90) C lr_d_M_renew_90 hb13 ?_
  refine lr_iconst (pc := 91) (v := 1) C lr_d_M_renew_91 (by decide) ?_
  refine lr_icmp_ne (pc := 92) (tgt := 138) C lr_d_M_renew_92 (by decide) (fun hc14 => ?_) (fun hc14 => ?_)
  · have h := lr_ng hc14 h
    have e := Option.some.inj h
    subst e
    exact lr_vret C E lr_d_M_renew_138
  · have h := lr_ps hc14 h
    refine lr_aload_n (pc := 95) C lr_d_M_renew_95 rfl 0 rfl ?_
    refine lr_g7_119 (pc := 96) C lr_d_M_renew_96 ?_
    refine lr_aload_n (pc := 99) C lr_d_M_renew_99 rfl 0 rfl ?_
    refine lr_g7_86 (pc := 100) C lr_d_M_renew_100 ?_
    refine lr_iload_n (pc := 103) C lr_d_M_renew_103 rfl 1 rfl ?_
    refine lr_li49 (pc := 104) C lr_d_M_renew_104 hb13 ?_
    refine lr_isub (pc := 105) C lr_d_M_renew_105 ?_
    refine lr_iconst (pc := 106) (v := 3) C lr_d_M_renew_106 (by decide) ?_
    refine lr_icmp_lt (pc := 107) (tgt := 138) C lr_d_M_renew_107 (by decide) (fun hc15 => ?_) (fun hc15 => ?_)
    · have h := lr_ps hc15 h
      have e := Option.some.inj h
      subst e
      exact lr_vret C E lr_d_M_renew_138
    · have h := lr_ng hc15 h
      refine lr_aload_n (pc := 110) C lr_d_M_renew_110 rfl 0 rfl ?_
      refine lr_aload_n (pc := 111) C lr_d_M_renew_111 rfl 0 rfl ?_
      refine lr_g7_80 (pc := 112) C lr_d_M_renew_112 ?_
      refine lr_iload_n (pc := 115) C lr_d_M_renew_115 rfl 1 rfl ?_
      refine lr_li47 (pc := 116) C lr_d_M_renew_116 hb13 ?_
      obtain ⟨u16, hu17, h⟩ := lr_bd h
      refine lr_callVi (pc := 117) (as := [.inl (lr_rd u11.2 47 0 a1.toNatClampNeg)]) (st := []) (fs := fun ad => lr_fs7 u11.2 0 ad) C (lr_r_M_stale hu17) lr_c7_149 lr_d_M_renew_117 rfl rfl (fun _ _ => rfl) (ci := 7) rfl rfl ⟨by decide, by decide⟩ (Nat.le_of_ble_eq_true rfl) ?_
      refine lr_if_eq (pc := 120) (tgt := 133) C lr_d_M_renew_120 (by decide) (fun hc18 => ?_) (fun hc18 => ?_)
      · have h := lr_ps hc18 h
        refine lr_aload_n (pc := 133) C lr_d_M_renew_133 rfl 0 rfl ?_
        refine lr_iload_n (pc := 134) C lr_d_M_renew_134 rfl 1 rfl ?_
        obtain ⟨u19, hu20, h⟩ := lr_bd h
        refine lr_callVv (pc := 135) (as := [.inl a1]) (st := []) (fs := fun ad => lr_fs7 u16.2 0 ad) C (lr_r_M_sendCall hu20) lr_c7_152 lr_d_M_renew_135 rfl rfl (fun _ _ => rfl) (ci := 7) rfl rfl ⟨by decide, by decide⟩ (Nat.le_of_ble_eq_true rfl) ?_
        have e := Option.some.inj h
        subst e
        exact lr_vret C E lr_d_M_renew_138
      · have h := lr_ng hc18 h
        refine lr_aload_n (pc := 123) C lr_d_M_renew_123 rfl 0 rfl ?_
        refine lr_g7_74 (pc := 124) C lr_d_M_renew_124 ?_
        refine lr_iload_n (pc := 127) C lr_d_M_renew_127 rfl 1 rfl ?_
        refine lr_iconst (pc := 128) (v := 3) C lr_d_M_renew_128 (by decide) ?_
        refine lr_si45 (pc := 129) C lr_d_M_renew_129 hb13 ?_
        refine lr_goto (pc := 130) (tgt := 138) C lr_d_M_renew_130 (by decide) ?_
        have e := Option.some.inj h
        subst e
        exact lr_vret C E lr_d_M_renew_138
def lr_L_M_tick_32 (a1 : Int32) (a2 : Int32) : Nat → Int32 → lr_S → Option (Int32 × lr_S)
  | 0, _, _ => none
  | f + 1, x3, t => if (4 : Int32) ≤ x3 then (some (x3, t)) else (if lr_in x3 4 = true then (if (lr_rd t 21 0 x3.toNatClampNeg) = 0 then ((lr_G_M_renew x3 t).bind fun u7 => (lr_L_M_tick_32 a1 a2 f (x3 + 1) u7)) else (lr_L_M_tick_32 a1 a2 f (x3 + 1) t)) else none)
set_option maxHeartbeats 4000000 in
theorem lr_t_M_tick_32 {X : lr_X} (C : lr_C X lr_m_M_tick.2.1 lr_R7 lr_m_M_tick.2.2.1 lr_m_M_tick.2.2.2.2.1 lr_m_M_tick.2.2.2.2.2 20 60) (a1 : Int32) (a2 : Int32) : ∀ (f : Nat) (x3 : Int32) (t : lr_S) (o : Int32 × lr_S), lr_L_M_tick_32 a1 a2 f x3 t = some o → (lr_T X 57 [(0, .inr (20, 0)), (1, .inl a1), (2, .inl a2), (3, .inl o.1)] [] o.2) → lr_T X 32 [(0, .inr (20, 0)), (1, .inl a1), (2, .inl a2), (3, .inl x3)] [] t := by
  intro f
  induction f with
  | zero => intro x3 t o h; cases h
  | succ f ih =>
    intro x3 t o h kx
    have h := (show (if (4 : Int32) ≤ x3 then (some (x3, t)) else (if lr_in x3 4 = true then (if (lr_rd t 21 0 x3.toNatClampNeg) = 0 then ((lr_G_M_renew x3 t).bind fun u7 => (lr_L_M_tick_32 a1 a2 f (x3 + 1) u7)) else (lr_L_M_tick_32 a1 a2 f (x3 + 1) t)) else none)) = some o from h)
    refine lr_iload_n (pc := 32) C lr_d_M_tick_32 rfl 3 rfl ?_
    refine lr_iconst (pc := 33) (v := 4) C lr_d_M_tick_33 (by decide) ?_
    refine lr_icmp_ge (pc := 34) (tgt := 57) C lr_d_M_tick_34 (by decide) (fun hc4 => ?_) (fun hc4 => ?_)
    · have h := lr_ps hc4 h
      refine lr_sub (ls' := [(0, .inr (20, 0)), (1, .inl a1), (2, .inl a2), (3, .inl x3)]) C [0, 1, 2, 3] rfl ?_
      have e := Option.some.inj h
      subst e
      exact kx
    · have h := lr_ng hc4 h
      refine lr_aload_n (pc := 37) C lr_d_M_tick_37 rfl 0 rfl ?_
      refine lr_g7_7 (pc := 38) C lr_d_M_tick_38 ?_
      refine lr_iload_n (pc := 41) C lr_d_M_tick_41 rfl 3 rfl ?_
      obtain ⟨hb5, h⟩ := lr_gd h
      refine lr_lz21 (pc := 42) C lr_d_M_tick_42 hb5 ?_
      refine lr_if_ne (pc := 43) (tgt := 51) C lr_d_M_tick_43 (by decide) (fun hc6 => ?_) (fun hc6 => ?_)
      · have h := lr_ng hc6 h
        refine lr_iinc (pc := 51) (v := (x3 + 1)) (ls' := [(3, .inl (x3 + 1)), (0, .inr (20, 0)), (1, .inl a1), (2, .inl a2)]) C lr_d_M_tick_51 3 rfl rfl (by decide) rfl ?_
        refine lr_goto (pc := 54) (tgt := 32) C lr_d_M_tick_54 (by decide) ?_
        refine lr_sub (ls' := [(0, .inr (20, 0)), (1, .inl a1), (2, .inl a2), (3, .inl (x3 + 1))]) C [1, 2, 3, 0] rfl ?_
        exact ih (x3 + 1) t o h kx
      · have h := lr_ps hc6 h
        refine lr_aload_n (pc := 46) C lr_d_M_tick_46 rfl 0 rfl ?_
        refine lr_iload_n (pc := 47) C lr_d_M_tick_47 rfl 3 rfl ?_
        obtain ⟨u7, hu8, h⟩ := lr_bd h
        refine lr_callVv (pc := 48) (as := [.inl x3]) (st := []) (fs := fun ad => lr_fs7 t 0 ad) C (lr_r_M_renew hu8) lr_c7_156 lr_d_M_tick_48 rfl rfl (fun _ _ => rfl) (ci := 7) rfl rfl ⟨by decide, by decide⟩ (Nat.le_of_ble_eq_true rfl) ?_
        refine lr_iinc (pc := 51) (v := (x3 + 1)) (ls' := [(3, .inl (x3 + 1)), (0, .inr (20, 0)), (1, .inl a1), (2, .inl a2)]) C lr_d_M_tick_51 3 rfl rfl (by decide) rfl ?_
        refine lr_goto (pc := 54) (tgt := 32) C lr_d_M_tick_54 (by decide) ?_
        refine lr_sub (ls' := [(0, .inr (20, 0)), (1, .inl a1), (2, .inl a2), (3, .inl (x3 + 1))]) C [1, 2, 3, 0] rfl ?_
        exact ih (x3 + 1) u7 o h kx
def lr_L_M_tick_15 (a1 : Int32) : Nat → Int32 → lr_S → Option (Int32 × lr_S)
  | 0, _, _ => none
  | f + 1, x2, t => if a1 ≤ x2 then (some (x2, t)) else ((lr_L_M_tick_32 a1 x2 600 (0 : Int32) (lr_wr t 20 0 0 ((lr_rd t 20 0 0) + (1 : Int32)))).bind fun u9 => (lr_L_M_tick_15 a1 f (x2 + 1) u9.2))
set_option maxHeartbeats 4000000 in
theorem lr_t_M_tick_15 {X : lr_X} (C : lr_C X lr_m_M_tick.2.1 lr_R7 lr_m_M_tick.2.2.1 lr_m_M_tick.2.2.2.2.1 lr_m_M_tick.2.2.2.2.2 20 60) (a1 : Int32) : ∀ (f : Nat) (x2 : Int32) (t : lr_S) (o : Int32 × lr_S), lr_L_M_tick_15 a1 f x2 t = some o → (lr_T X 63 [(0, .inr (20, 0)), (1, .inl a1), (2, .inl o.1)] [] o.2) → lr_T X 15 [(0, .inr (20, 0)), (1, .inl a1), (2, .inl x2)] [] t := by
  intro f
  induction f with
  | zero => intro x2 t o h; cases h
  | succ f ih =>
    intro x2 t o h kx
    have h := (show (if a1 ≤ x2 then (some (x2, t)) else ((lr_L_M_tick_32 a1 x2 600 (0 : Int32) (lr_wr t 20 0 0 ((lr_rd t 20 0 0) + (1 : Int32)))).bind fun u9 => (lr_L_M_tick_15 a1 f (x2 + 1) u9.2))) = some o from h)
    refine lr_iload_n (pc := 15) C lr_d_M_tick_15 rfl 2 rfl ?_
    refine lr_iload_n (pc := 16) C lr_d_M_tick_16 rfl 1 rfl ?_
    refine lr_icmp_ge (pc := 17) (tgt := 63) C lr_d_M_tick_17 (by decide) (fun hc3 => ?_) (fun hc3 => ?_)
    · have h := lr_ps hc3 h
      refine lr_sub (ls' := [(0, .inr (20, 0)), (1, .inl a1), (2, .inl x2)]) C [0, 1, 2] rfl ?_
      have e := Option.some.inj h
      subst e
      exact kx
    · have h := lr_ng hc3 h
      refine lr_aload_n (pc := 20) C lr_d_M_tick_20 rfl 0 rfl ?_
      refine lr_dup (pc := 21) C lr_d_M_tick_21 ?_
      refine lr_g7_119 (pc := 22) C lr_d_M_tick_22 ?_
      refine lr_iconst (pc := 25) (v := 1) C lr_d_M_tick_25 (by decide) ?_
      refine lr_iadd (pc := 26) C lr_d_M_tick_26 ?_
      refine lr_p7_119 (pc := 27) C lr_d_M_tick_27 ?_
      refine lr_iconst (pc := 30) (v := 0) C lr_d_M_tick_30 (by decide) ?_
      refine lr_istore_n (pc := 31) (ls' := [(3, .inl (0 : Int32)), (0, .inr (20, 0)), (1, .inl a1), (2, .inl x2)]) C lr_d_M_tick_31 rfl (by decide) rfl ?_
      refine lr_sub (ls' := [(0, .inr (20, 0)), (1, .inl a1), (2, .inl x2), (3, .inl (0 : Int32))]) C [1, 2, 3, 0] rfl ?_
      obtain ⟨u9, hu10, h⟩ := lr_bd h
      refine lr_t_M_tick_32 C a1 x2 600 (0 : Int32) (lr_wr t 20 0 0 ((lr_rd t 20 0 0) + (1 : Int32))) u9 hu10 ?_
      refine lr_iinc (pc := 57) (v := (x2 + 1)) (ls' := [(2, .inl (x2 + 1)), (0, .inr (20, 0)), (1, .inl a1), (3, .inl u9.1)]) C lr_d_M_tick_57 2 rfl rfl (by decide) rfl ?_
      refine lr_goto (pc := 60) (tgt := 15) C lr_d_M_tick_60 (by decide) ?_
      refine lr_sub (ls' := [(0, .inr (20, 0)), (1, .inl a1), (2, .inl (x2 + 1))]) C [1, 2, 0] rfl ?_
      exact ih (x2 + 1) u9.2 o h kx
def lr_G_M_tick (a1 : Int32) (t : lr_S) : Option (Int32 × lr_S) := if a1 < (1 : Int32) then (some ((0 : Int32), t)) else (if a1 ≤ (12 : Int32) then ((lr_L_M_tick_15 a1 600 (0 : Int32) t).bind fun u11 => (some ((1 : Int32), u11.2))) else (some ((0 : Int32), t)))
set_option maxHeartbeats 4000000 in
theorem lr_r_M_tick {a1 : Int32} {t : lr_S} {o : Int32 × lr_S} (h : lr_G_M_tick a1 t = some o) : lr_RI 20 60 lr_m_M_tick [.inr (20, 0), .inl a1] t o.1 o.2 := by
  refine lr_ofI (ty := .boolean) (own := lr_R7) (by decide) rfl rfl (Nat.le_of_ble_eq_true rfl) (fun X C E => ?_)
  show lr_T X 0 [(0, .inr (20, 0)), (1, .inl a1)] [] t
  have h := (show (if a1 < (1 : Int32) then (some ((0 : Int32), t)) else (if a1 ≤ (12 : Int32) then ((lr_L_M_tick_15 a1 600 (0 : Int32) t).bind fun u11 => (some ((1 : Int32), u11.2))) else (some ((0 : Int32), t)))) = some o from h)
  refine lr_iload_n (pc := 0) C lr_d_M_tick_0 rfl 1 rfl ?_
  refine lr_iconst (pc := 1) (v := 1) C lr_d_M_tick_1 (by decide) ?_
  refine lr_icmp_lt (pc := 2) (tgt := 11) C lr_d_M_tick_2 (by decide) (fun hc1 => ?_) (fun hc1 => ?_)
  · have h := lr_ps hc1 h
    refine lr_iconst (pc := 11) (v := 0) C lr_d_M_tick_11 (by decide) ?_
    have e := Option.some.inj h
    subst e
    exact lr_iret C E lr_d_M_tick_12 (by decide)
  · have h := lr_ng hc1 h
    refine lr_iload_n (pc := 5) C lr_d_M_tick_5 rfl 1 rfl ?_
    refine lr_bipush (pc := 6) (v := 12) C lr_d_M_tick_6 (by decide) ?_
    refine lr_icmp_le (pc := 8) (tgt := 13) C lr_d_M_tick_8 (by decide) (fun hc2 => ?_) (fun hc2 => ?_)
    · have h := lr_ps hc2 h
      refine lr_iconst (pc := 13) (v := 0) C lr_d_M_tick_13 (by decide) ?_
      refine lr_istore_n (pc := 14) (ls' := [(2, .inl (0 : Int32)), (0, .inr (20, 0)), (1, .inl a1)]) C lr_d_M_tick_14 rfl (by decide) rfl ?_
      refine lr_sub (ls' := [(0, .inr (20, 0)), (1, .inl a1), (2, .inl (0 : Int32))]) C [1, 2, 0] rfl ?_
      obtain ⟨u11, hu12, h⟩ := lr_bd h
      refine lr_t_M_tick_15 C a1 600 (0 : Int32) t u11 hu12 ?_
      refine lr_iconst (pc := 63) (v := 1) C lr_d_M_tick_63 (by decide) ?_
      have e := Option.some.inj h
      subst e
      exact lr_iret C E lr_d_M_tick_64 (by decide)
    · have h := lr_ng hc2 h
      refine lr_iconst (pc := 11) (v := 0) C lr_d_M_tick_11 (by decide) ?_
      have e := Option.some.inj h
      subst e
      exact lr_iret C E lr_d_M_tick_12 (by decide)
