def lr_L_M_mark_2 (a1 : Int32) : Nat → Int32 → lr_S → Option (Int32 × lr_S)
  | 0, _, _ => none
  | f + 1, x2, t => if (8 : Int32) ≤ x2 then (some (x2, t)) else (if lr_in (((8 : Int32) * a1) + x2) 32 = true then (if (lr_rd t 24 0 (((8 : Int32) * a1) + x2).toNatClampNeg) = (1 : Int32) then ((lr_G_M_listed (((8 : Int32) * a1) + x2) t).bind fun u10 => (if u10.1 = 0 then (if lr_in a1 4 = true then (if (lr_rd u10.2 45 0 a1.toNatClampNeg) = (1 : Int32) then (if (lr_rd u10.2 47 0 a1.toNatClampNeg) = (((8 : Int32) * a1) + x2) then (if lr_in x2 8 = true then (lr_L_M_mark_2 a1 f (x2 + 1) (lr_wr u10.2 55 0 x2.toNatClampNeg (vp_nar .boolean (1 : Int32)))) else none) else (if lr_in x2 8 = true then (lr_L_M_mark_2 a1 f (x2 + 1) (lr_wr u10.2 55 0 x2.toNatClampNeg (vp_nar .boolean (0 : Int32)))) else none)) else (if lr_in x2 8 = true then (lr_L_M_mark_2 a1 f (x2 + 1) (lr_wr u10.2 55 0 x2.toNatClampNeg (vp_nar .boolean (0 : Int32)))) else none)) else none) else (if lr_in x2 8 = true then (lr_L_M_mark_2 a1 f (x2 + 1) (lr_wr u10.2 55 0 x2.toNatClampNeg (vp_nar .boolean (1 : Int32)))) else none))) else (if lr_in a1 4 = true then (if (lr_rd t 45 0 a1.toNatClampNeg) = (1 : Int32) then (if (lr_rd t 47 0 a1.toNatClampNeg) = (((8 : Int32) * a1) + x2) then (if lr_in x2 8 = true then (lr_L_M_mark_2 a1 f (x2 + 1) (lr_wr t 55 0 x2.toNatClampNeg (vp_nar .boolean (1 : Int32)))) else none) else (if lr_in x2 8 = true then (lr_L_M_mark_2 a1 f (x2 + 1) (lr_wr t 55 0 x2.toNatClampNeg (vp_nar .boolean (0 : Int32)))) else none)) else (if lr_in x2 8 = true then (lr_L_M_mark_2 a1 f (x2 + 1) (lr_wr t 55 0 x2.toNatClampNeg (vp_nar .boolean (0 : Int32)))) else none)) else none)) else none)
set_option maxHeartbeats 4000000 in
theorem lr_t_M_mark_2 {X : lr_X} (C : lr_C X lr_m_M_mark.2.1 lr_R7 lr_m_M_mark.2.2.1 lr_m_M_mark.2.2.2.2.1 lr_m_M_mark.2.2.2.2.2 20 60) (a1 : Int32) : ∀ (f : Nat) (x2 : Int32) (t : lr_S) (o : Int32 × lr_S), lr_L_M_mark_2 a1 f x2 t = some o → (lr_T X 70 [(0, .inr (20, 0)), (1, .inl a1), (2, .inl o.1)] [] o.2) → lr_T X 2 [(0, .inr (20, 0)), (1, .inl a1), (2, .inl x2)] [] t := by
  intro f
  induction f with
  | zero => intro x2 t o h; cases h
  | succ f ih =>
    intro x2 t o h kx
    have h := (show (if (8 : Int32) ≤ x2 then (some (x2, t)) else (if lr_in (((8 : Int32) * a1) + x2) 32 = true then (if (lr_rd t 24 0 (((8 : Int32) * a1) + x2).toNatClampNeg) = (1 : Int32) then ((lr_G_M_listed (((8 : Int32) * a1) + x2) t).bind fun u10 => (if u10.1 = 0 then (if lr_in a1 4 = true then (if (lr_rd u10.2 45 0 a1.toNatClampNeg) = (1 : Int32) then (if (lr_rd u10.2 47 0 a1.toNatClampNeg) = (((8 : Int32) * a1) + x2) then (if lr_in x2 8 = true then (lr_L_M_mark_2 a1 f (x2 + 1) (lr_wr u10.2 55 0 x2.toNatClampNeg (vp_nar .boolean (1 : Int32)))) else none) else (if lr_in x2 8 = true then (lr_L_M_mark_2 a1 f (x2 + 1) (lr_wr u10.2 55 0 x2.toNatClampNeg (vp_nar .boolean (0 : Int32)))) else none)) else (if lr_in x2 8 = true then (lr_L_M_mark_2 a1 f (x2 + 1) (lr_wr u10.2 55 0 x2.toNatClampNeg (vp_nar .boolean (0 : Int32)))) else none)) else none) else (if lr_in x2 8 = true then (lr_L_M_mark_2 a1 f (x2 + 1) (lr_wr u10.2 55 0 x2.toNatClampNeg (vp_nar .boolean (1 : Int32)))) else none))) else (if lr_in a1 4 = true then (if (lr_rd t 45 0 a1.toNatClampNeg) = (1 : Int32) then (if (lr_rd t 47 0 a1.toNatClampNeg) = (((8 : Int32) * a1) + x2) then (if lr_in x2 8 = true then (lr_L_M_mark_2 a1 f (x2 + 1) (lr_wr t 55 0 x2.toNatClampNeg (vp_nar .boolean (1 : Int32)))) else none) else (if lr_in x2 8 = true then (lr_L_M_mark_2 a1 f (x2 + 1) (lr_wr t 55 0 x2.toNatClampNeg (vp_nar .boolean (0 : Int32)))) else none)) else (if lr_in x2 8 = true then (lr_L_M_mark_2 a1 f (x2 + 1) (lr_wr t 55 0 x2.toNatClampNeg (vp_nar .boolean (0 : Int32)))) else none)) else none)) else none)) = some o from h)
    refine lr_iload_n (pc := 2) C lr_d_M_mark_2 rfl 2 rfl ?_
    refine lr_bipush (pc := 3) (v := 8) C lr_d_M_mark_3 (by decide) ?_
    refine lr_icmp_ge (pc := 5) (tgt := 70) C lr_d_M_mark_5 (by decide) (fun hc1 => ?_) (fun hc1 => ?_)
    · have h := lr_ps hc1 h
      refine lr_sub (ls' := [(0, .inr (20, 0)), (1, .inl a1), (2, .inl x2)]) C [0, 1, 2] rfl ?_
      have e := Option.some.inj h
      subst e
      exact kx
    · have h := lr_ng hc1 h
      refine lr_bipush (pc := 8) (v := 8) C lr_d_M_mark_8 (by decide) ?_
      refine lr_iload_n (pc := 10) C lr_d_M_mark_10 rfl 1 rfl ?_
      refine lr_imul (pc := 11) C lr_d_M_mark_11 ?_
      refine lr_iload_n (pc := 12) C lr_d_M_mark_12 rfl 2 rfl ?_
      refine lr_iadd (pc := 13) C lr_d_M_mark_13 ?_
      refine lr_istore_n (pc := 14) (ls' := [(3, .inl (((8 : Int32) * a1) + x2)), (0, .inr (20, 0)), (1, .inl a1), (2, .inl x2)]) C lr_d_M_mark_14 rfl (by decide) rfl ?_
      refine lr_aload_n (pc := 15) C lr_d_M_mark_15 rfl 1 rfl ?_
      refine lr_g7_104 (pc := 16) C lr_d_M_mark_16 ?_
      refine lr_iload_n (pc := 19) C lr_d_M_mark_19 rfl 3 rfl ?_
      refine lr_aload_n (pc := 20) C lr_d_M_mark_20 rfl 1 rfl ?_
      refine lr_g7_20 (pc := 21) C lr_d_M_mark_21 ?_
      refine lr_iload_n (pc := 24) C lr_d_M_mark_24 rfl 0 rfl ?_
      obtain ⟨hb2, h⟩ := lr_gd h
      refine lr_li24 (pc := 25) C lr_d_M_mark_25 hb2 ?_
      refine lr_iconst (pc := 26) (v := 1) C lr_d_M_mark_26 (by decide) ?_
      refine lr_icmp_ne (pc := 27) (tgt := 38) C lr_d_M_mark_27 (by decide) (fun hc3 => ?_) (fun hc3 => ?_)
      · have h := lr_ng hc3 h
        refine lr_aload_n (pc := 38) C lr_d_M_mark_38 rfl 1 rfl ?_
        refine lr_g7_74 (pc := 39) C lr_d_M_mark_39 ?_
        refine lr_iload_n (pc := 42) C lr_d_M_mark_42 rfl 2 rfl ?_
        obtain ⟨hb4, h⟩ := lr_gd h
        refine lr_li45 (pc := 43) C lr_d_M_mark_43 hb4 ?_
        refine lr_iconst (pc := 44) (v := 1) C lr_d_M_mark_44 (by decide) ?_
        refine lr_icmp_ne (pc := 45) (tgt := 62) C lr_d_M_mark_45 (by decide) (fun hc5 => ?_) (fun hc5 => ?_)
        · have h := lr_ng hc5 h
          refine lr_iconst (pc := 62) (v := 0) C lr_d_M_mark_62 (by decide) ?_
          obtain ⟨hb6, h⟩ := lr_gd h
          refine lr_sz55 (pc := 63) C lr_d_M_mark_63 hb6 ?_
          refine lr_iinc (pc := 64) (v := (x2 + 1)) (ls' := [(2, .inl (x2 + 1)), (3, .inl (((8 : Int32) * a1) + x2)), (0, .inr (20, 0)), (1, .inl a1)]) C lr_d_M_mark_64 3 rfl rfl (by decide) rfl ?_
          refine lr_goto (pc := 67) (tgt := 2) C lr_d_M_mark_67 (by decide) ?_
          refine lr_sub (ls' := [(0, .inr (20, 0)), (1, .inl a1), (2, .inl (x2 + 1))]) C [2, 3, 0] rfl ?_
          exact ih (x2 + 1) (lr_wr t 55 0 x2.toNatClampNeg (vp_nar .boolean (0 : Int32))) o h kx
        · have h := lr_ps hc5 h
          refine lr_aload_n (pc := 48) C lr_d_M_mark_48 rfl 1 rfl ?_
          refine lr_g7_80 (pc := 49) C lr_d_M_mark_49 ?_
          refine lr_iload_n (pc := 52) C lr_d_M_mark_52 rfl 2 rfl ?_
          refine lr_li47 (pc := 53) C lr_d_M_mark_53 hb4 ?_
          refine lr_iload_n (pc := 54) C lr_d_M_mark_54 rfl 0 rfl ?_
          refine lr_icmp_ne (pc := 55) (tgt := 62) C lr_d_M_mark_55 (by decide) (fun hc7 => ?_) (fun hc7 => ?_)
          · have h := lr_ng hc7 h
            refine lr_iconst (pc := 62) (v := 0) C lr_d_M_mark_62 (by decide) ?_
            obtain ⟨hb8, h⟩ := lr_gd h
            refine lr_sz55 (pc := 63) C lr_d_M_mark_63 hb8 ?_
            refine lr_iinc (pc := 64) (v := (x2 + 1)) (ls' := [(2, .inl (x2 + 1)), (3, .inl (((8 : Int32) * a1) + x2)), (0, .inr (20, 0)), (1, .inl a1)]) C lr_d_M_mark_64 3 rfl rfl (by decide) rfl ?_
            refine lr_goto (pc := 67) (tgt := 2) C lr_d_M_mark_67 (by decide) ?_
            refine lr_sub (ls' := [(0, .inr (20, 0)), (1, .inl a1), (2, .inl (x2 + 1))]) C [2, 3, 0] rfl ?_
            exact ih (x2 + 1) (lr_wr t 55 0 x2.toNatClampNeg (vp_nar .boolean (0 : Int32))) o h kx
          · have h := lr_ps hc7 h
            refine lr_iconst (pc := 58) (v := 1) C lr_d_M_mark_58 (by decide) ?_
            refine lr_goto (pc := 59) (tgt := 63) C lr_d_M_mark_59 (by decide) ?_
            obtain ⟨hb9, h⟩ := lr_gd h
            refine lr_sz55 (pc := 63) C lr_d_M_mark_63 hb9 ?_
            refine lr_iinc (pc := 64) (v := (x2 + 1)) (ls' := [(2, .inl (x2 + 1)), (3, .inl (((8 : Int32) * a1) + x2)), (0, .inr (20, 0)), (1, .inl a1)]) C lr_d_M_mark_64 3 rfl rfl (by decide) rfl ?_
            refine lr_goto (pc := 67) (tgt := 2) C lr_d_M_mark_67 (by decide) ?_
            refine lr_sub (ls' := [(0, .inr (20, 0)), (1, .inl a1), (2, .inl (x2 + 1))]) C [2, 3, 0] rfl ?_
            exact ih (x2 + 1) (lr_wr t 55 0 x2.toNatClampNeg (vp_nar .boolean (1 : Int32))) o h kx
      · have h := lr_ps hc3 h
        refine lr_aload_n (pc := 30) C lr_d_M_mark_30 rfl 1 rfl ?_
        refine lr_iload_n (pc := 31) C lr_d_M_mark_31 rfl 0 rfl ?_
        obtain ⟨u10, hu11, h⟩ := lr_bd h
        refine lr_callVi (pc := 32) (as := [.inl (((8 : Int32) * a1) + x2)]) (st := [.inl x2, .inr (55, 0)]) (fs := fun ad => lr_fs7 t 0 ad) C (lr_r_M_listed hu11) lr_c7_162 lr_d_M_mark_32 rfl rfl (fun _ _ => rfl) (ci := 7) rfl rfl ⟨by decide, by decide⟩ (Nat.le_of_ble_eq_true rfl) ?_
        refine lr_if_ne (pc := 35) (tgt := 58) C lr_d_M_mark_35 (by decide) (fun hc12 => ?_) (fun hc12 => ?_)
        · have h := lr_ng hc12 h
          refine lr_iconst (pc := 58) (v := 1) C lr_d_M_mark_58 (by decide) ?_
          refine lr_goto (pc := 59) (tgt := 63) C lr_d_M_mark_59 (by decide) ?_
          obtain ⟨hb13, h⟩ := lr_gd h
          refine lr_sz55 (pc := 63) C lr_d_M_mark_63 hb13 ?_
          refine lr_iinc (pc := 64) (v := (x2 + 1)) (ls' := [(2, .inl (x2 + 1)), (3, .inl (((8 : Int32) * a1) + x2)), (0, .inr (20, 0)), (1, .inl a1)]) C lr_d_M_mark_64 3 rfl rfl (by decide) rfl ?_
          refine lr_goto (pc := 67) (tgt := 2) C lr_d_M_mark_67 (by decide) ?_
          refine lr_sub (ls' := [(0, .inr (20, 0)), (1, .inl a1), (2, .inl (x2 + 1))]) C [2, 3, 0] rfl ?_
          exact ih (x2 + 1) (lr_wr u10.2 55 0 x2.toNatClampNeg (vp_nar .boolean (1 : Int32))) o h kx
        · have h := lr_ps hc12 h
          refine lr_aload_n (pc := 38) C lr_d_M_mark_38 rfl 1 rfl ?_
          refine lr_g7_74 (pc := 39) C lr_d_M_mark_39 ?_
          refine lr_iload_n (pc := 42) C lr_d_M_mark_42 rfl 2 rfl ?_
          obtain ⟨hb14, h⟩ := lr_gd h
          refine lr_li45 (pc := 43) C lr_d_M_mark_43 hb14 ?_
          refine lr_iconst (pc := 44) (v := 1) C lr_d_M_mark_44 (by decide) ?_
          refine lr_icmp_ne (pc := 45) (tgt := 62) C lr_d_M_mark_45 (by decide) (fun hc15 => ?_) (fun hc15 => ?_)
          · have h := lr_ng hc15 h
            refine lr_iconst (pc := 62) (v := 0) C lr_d_M_mark_62 (by decide) ?_
            obtain ⟨hb16, h⟩ := lr_gd h
            refine lr_sz55 (pc := 63) C lr_d_M_mark_63 hb16 ?_
            refine lr_iinc (pc := 64) (v := (x2 + 1)) (ls' := [(2, .inl (x2 + 1)), (3, .inl (((8 : Int32) * a1) + x2)), (0, .inr (20, 0)), (1, .inl a1)]) C lr_d_M_mark_64 3 rfl rfl (by decide) rfl ?_
            refine lr_goto (pc := 67) (tgt := 2) C lr_d_M_mark_67 (by decide) ?_
            refine lr_sub (ls' := [(0, .inr (20, 0)), (1, .inl a1), (2, .inl (x2 + 1))]) C [2, 3, 0] rfl ?_
            exact ih (x2 + 1) (lr_wr u10.2 55 0 x2.toNatClampNeg (vp_nar .boolean (0 : Int32))) o h kx
          · have h := lr_ps hc15 h
            refine lr_aload_n (pc := 48) C lr_d_M_mark_48 rfl 1 rfl ?_
            refine lr_g7_80 (pc := 49) C lr_d_M_mark_49 ?_
            refine lr_iload_n (pc := 52) C lr_d_M_mark_52 rfl 2 rfl ?_
            refine lr_li47 (pc := 53) C lr_d_M_mark_53 hb14 ?_
            refine lr_iload_n (pc := 54) C lr_d_M_mark_54 rfl 0 rfl ?_
            refine lr_icmp_ne (pc := 55) (tgt := 62) C lr_d_M_mark_55 (by decide) (fun hc17 => ?_) (fun hc17 => ?_)
            · have h := lr_ng hc17 h
              refine lr_iconst (pc := 62) (v := 0) C lr_d_M_mark_62 (by decide) ?_
              obtain ⟨hb18, h⟩ := lr_gd h
              refine lr_sz55 (pc := 63) C lr_d_M_mark_63 hb18 ?_
              refine lr_iinc (pc := 64) (v := (x2 + 1)) (ls' := [(2, .inl (x2 + 1)), (3, .inl (((8 : Int32) * a1) + x2)), (0, .inr (20, 0)), (1, .inl a1)]) C lr_d_M_mark_64 3 rfl rfl (by decide) rfl ?_
              refine lr_goto (pc := 67) (tgt := 2) C lr_d_M_mark_67 (by decide) ?_
              refine lr_sub (ls' := [(0, .inr (20, 0)), (1, .inl a1), (2, .inl (x2 + 1))]) C [2, 3, 0] rfl ?_
              exact ih (x2 + 1) (lr_wr u10.2 55 0 x2.toNatClampNeg (vp_nar .boolean (0 : Int32))) o h kx
            · have h := lr_ps hc17 h
              refine lr_iconst (pc := 58) (v := 1) C lr_d_M_mark_58 (by decide) ?_
              refine lr_goto (pc := 59) (tgt := 63) C lr_d_M_mark_59 (by decide) ?_
              obtain ⟨hb19, h⟩ := lr_gd h
              refine lr_sz55 (pc := 63) C lr_d_M_mark_63 hb19 ?_
              refine lr_iinc (pc := 64) (v := (x2 + 1)) (ls' := [(2, .inl (x2 + 1)), (3, .inl (((8 : Int32) * a1) + x2)), (0, .inr (20, 0)), (1, .inl a1)]) C lr_d_M_mark_64 3 rfl rfl (by decide) rfl ?_
              refine lr_goto (pc := 67) (tgt := 2) C lr_d_M_mark_67 (by decide) ?_
              refine lr_sub (ls' := [(0, .inr (20, 0)), (1, .inl a1), (2, .inl (x2 + 1))]) C [2, 3, 0] rfl ?_
              exact ih (x2 + 1) (lr_wr u10.2 55 0 x2.toNatClampNeg (vp_nar .boolean (1 : Int32))) o h kx
def lr_L_M_mark_72 (a1 : Int32) : Nat → Int32 → lr_S → Option (Int32 × lr_S)
  | 0, _, _ => none
  | f + 1, x2, t => if (3 : Int32) ≤ x2 then (some (x2, t)) else (if lr_in (((3 : Int32) * a1) + x2) 12 = true then ((lr_G_M_keep (lr_rd t 22 0 (((3 : Int32) * a1) + x2).toNatClampNeg) t).bind fun u24 => (lr_L_M_mark_72 a1 f (x2 + 1) u24)) else none)
set_option maxHeartbeats 4000000 in
theorem lr_t_M_mark_72 {X : lr_X} (C : lr_C X lr_m_M_mark.2.1 lr_R7 lr_m_M_mark.2.2.1 lr_m_M_mark.2.2.2.2.1 lr_m_M_mark.2.2.2.2.2 20 60) (a1 : Int32) : ∀ (f : Nat) (x2 : Int32) (t : lr_S) (o : Int32 × lr_S), lr_L_M_mark_72 a1 f x2 t = some o → (lr_T X 97 [(0, .inr (20, 0)), (1, .inl a1), (2, .inl o.1)] [] o.2) → lr_T X 72 [(0, .inr (20, 0)), (1, .inl a1), (2, .inl x2)] [] t := by
  intro f
  induction f with
  | zero => intro x2 t o h; cases h
  | succ f ih =>
    intro x2 t o h kx
    have h := (show (if (3 : Int32) ≤ x2 then (some (x2, t)) else (if lr_in (((3 : Int32) * a1) + x2) 12 = true then ((lr_G_M_keep (lr_rd t 22 0 (((3 : Int32) * a1) + x2).toNatClampNeg) t).bind fun u24 => (lr_L_M_mark_72 a1 f (x2 + 1) u24)) else none)) = some o from h)
    refine lr_iload_n (pc := 72) C lr_d_M_mark_72 rfl 2 rfl ?_
    refine lr_iconst (pc := 73) (v := 3) C lr_d_M_mark_73 (by decide) ?_
    refine lr_icmp_ge (pc := 74) (tgt := 97) C lr_d_M_mark_74 (by decide) (fun hc22 => ?_) (fun hc22 => ?_)
    · have h := lr_ps hc22 h
      refine lr_sub (ls' := [(0, .inr (20, 0)), (1, .inl a1), (2, .inl x2)]) C [0, 1, 2] rfl ?_
      have e := Option.some.inj h
      subst e
      exact kx
    · have h := lr_ng hc22 h
      refine lr_aload_n (pc := 77) C lr_d_M_mark_77 rfl 0 rfl ?_
      refine lr_aload_n (pc := 78) C lr_d_M_mark_78 rfl 0 rfl ?_
      refine lr_g7_13 (pc := 79) C lr_d_M_mark_79 ?_
      refine lr_iconst (pc := 82) (v := 3) C lr_d_M_mark_82 (by decide) ?_
      refine lr_iload_n (pc := 83) C lr_d_M_mark_83 rfl 1 rfl ?_
      refine lr_imul (pc := 84) C lr_d_M_mark_84 ?_
      refine lr_iload_n (pc := 85) C lr_d_M_mark_85 rfl 2 rfl ?_
      refine lr_iadd (pc := 86) C lr_d_M_mark_86 ?_
      obtain ⟨hb23, h⟩ := lr_gd h
      refine lr_li22 (pc := 87) C lr_d_M_mark_87 hb23 ?_
      obtain ⟨u24, hu25, h⟩ := lr_bd h
      refine lr_callVv (pc := 88) (as := [.inl (lr_rd t 22 0 (((3 : Int32) * a1) + x2).toNatClampNeg)]) (st := []) (fs := fun ad => lr_fs7 t 0 ad) C (lr_r_M_keep hu25) lr_c7_165 lr_d_M_mark_88 rfl rfl (fun _ _ => rfl) (ci := 7) rfl rfl ⟨by decide, by decide⟩ (Nat.le_of_ble_eq_true rfl) ?_
      refine lr_iinc (pc := 91) (v := (x2 + 1)) (ls' := [(2, .inl (x2 + 1)), (0, .inr (20, 0)), (1, .inl a1)]) C lr_d_M_mark_91 2 rfl rfl (by decide) rfl ?_
      refine lr_goto (pc := 94) (tgt := 72) C lr_d_M_mark_94 (by decide) ?_
      refine lr_sub (ls' := [(0, .inr (20, 0)), (1, .inl a1), (2, .inl (x2 + 1))]) C [1, 2, 0] rfl ?_
      exact ih (x2 + 1) u24 o h kx
def lr_L_M_mark_99 (a1 : Int32) : Nat → Int32 → lr_S → Option (Int32 × lr_S)
  | 0, _, _ => none
  | f + 1, x2, t => if (lr_rd t 20 0 24) ≤ x2 then (some (x2, t)) else (if lr_in x2 512 = true then (if ((lr_rd t 41 0 x2.toNatClampNeg) / (8 : Int32)) = a1 then ((lr_G_M_pinned x2 t).bind fun u31 => (if u31.1 = 0 then (lr_L_M_mark_99 a1 f (x2 + 1) u31.2) else ((lr_G_M_keep ((lr_rd u31.2 41 0 x2.toNatClampNeg) - (lr_rd u31.2 41 0 x2.toNatClampNeg) / (8 : Int32) * (8 : Int32)) u31.2).bind fun u34 => (lr_L_M_mark_99 a1 f (x2 + 1) u34)))) else (lr_L_M_mark_99 a1 f (x2 + 1) t)) else none)
set_option maxHeartbeats 4000000 in
theorem lr_t_M_mark_99 {X : lr_X} (C : lr_C X lr_m_M_mark.2.1 lr_R7 lr_m_M_mark.2.2.1 lr_m_M_mark.2.2.2.2.1 lr_m_M_mark.2.2.2.2.2 20 60) (a1 : Int32) : ∀ (f : Nat) (x2 : Int32) (t : lr_S) (o : Int32 × lr_S), lr_L_M_mark_99 a1 f x2 t = some o → (lr_T X 147 [(0, .inr (20, 0)), (1, .inl a1), (2, .inl o.1)] [] o.2) → lr_T X 99 [(0, .inr (20, 0)), (1, .inl a1), (2, .inl x2)] [] t := by
  intro f
  induction f with
  | zero => intro x2 t o h; cases h
  | succ f ih =>
    intro x2 t o h kx
    have h := (show (if (lr_rd t 20 0 24) ≤ x2 then (some (x2, t)) else (if lr_in x2 512 = true then (if ((lr_rd t 41 0 x2.toNatClampNeg) / (8 : Int32)) = a1 then ((lr_G_M_pinned x2 t).bind fun u31 => (if u31.1 = 0 then (lr_L_M_mark_99 a1 f (x2 + 1) u31.2) else ((lr_G_M_keep ((lr_rd u31.2 41 0 x2.toNatClampNeg) - (lr_rd u31.2 41 0 x2.toNatClampNeg) / (8 : Int32) * (8 : Int32)) u31.2).bind fun u34 => (lr_L_M_mark_99 a1 f (x2 + 1) u34)))) else (lr_L_M_mark_99 a1 f (x2 + 1) t)) else none)) = some o from h)
    refine lr_iload_n (pc := 99) C lr_d_M_mark_99 rfl 2 rfl ?_
    refine lr_aload_n (pc := 100) C lr_d_M_mark_100 rfl 0 rfl ?_
    refine lr_g7_140 (pc := 101) C lr_d_M_mark_101 ?_
    refine lr_icmp_ge (pc := 104) (tgt := 147) C lr_d_M_mark_104 (by decide) (fun hc28 => ?_) (fun hc28 => ?_)
    · have h := lr_ps hc28 h
      refine lr_sub (ls' := [(0, .inr (20, 0)), (1, .inl a1), (2, .inl x2)]) C [0, 1, 2] rfl ?_
      have e := Option.some.inj h
      subst e
      exact kx
    · have h := lr_ng hc28 h
      refine lr_aload_n (pc := 107) C lr_d_M_mark_107 rfl 0 rfl ?_
      refine lr_g7_65 (pc := 108) C lr_d_M_mark_108 ?_
      refine lr_iload_n (pc := 111) C lr_d_M_mark_111 rfl 2 rfl ?_
      obtain ⟨hb29, h⟩ := lr_gd h
      refine lr_li41 (pc := 112) C lr_d_M_mark_112 hb29 ?_
      refine lr_bipush (pc := 113) (v := 8) C lr_d_M_mark_113 (by decide) ?_
      refine lr_idiv (pc := 115) C lr_d_M_mark_115 (by decide) ?_
      refine lr_iload_n (pc := 116) C lr_d_M_mark_116 rfl 1 rfl ?_
      refine lr_icmp_ne (pc := 117) (tgt := 141) C lr_d_M_mark_117 (by decide) (fun hc30 => ?_) (fun hc30 => ?_)
      · have h := lr_ng hc30 h
        refine lr_iinc (pc := 141) (v := (x2 + 1)) (ls' := [(2, .inl (x2 + 1)), (0, .inr (20, 0)), (1, .inl a1)]) C lr_d_M_mark_141 2 rfl rfl (by decide) rfl ?_
        refine lr_goto (pc := 144) (tgt := 99) C lr_d_M_mark_144 (by decide) ?_
        refine lr_sub (ls' := [(0, .inr (20, 0)), (1, .inl a1), (2, .inl (x2 + 1))]) C [1, 2, 0] rfl ?_
        exact ih (x2 + 1) t o h kx
      · have h := lr_ps hc30 h
        refine lr_aload_n (pc := 120) C lr_d_M_mark_120 rfl 0 rfl ?_
        refine lr_iload_n (pc := 121) C lr_d_M_mark_121 rfl 2 rfl ?_
        obtain ⟨u31, hu32, h⟩ := lr_bd h
        refine lr_callVi (pc := 122) (as := [.inl x2]) (st := []) (fs := fun ad => lr_fs7 t 0 ad) C (lr_r_M_pinned hu32) lr_c7_143 lr_d_M_mark_122 rfl rfl (fun _ _ => rfl) (ci := 7) rfl rfl ⟨by decide, by decide⟩ (Nat.le_of_ble_eq_true rfl) ?_
        refine lr_if_eq (pc := 125) (tgt := 141) C lr_d_M_mark_125 (by decide) (fun hc33 => ?_) (fun hc33 => ?_)
        · have h := lr_ps hc33 h
          refine lr_iinc (pc := 141) (v := (x2 + 1)) (ls' := [(2, .inl (x2 + 1)), (0, .inr (20, 0)), (1, .inl a1)]) C lr_d_M_mark_141 2 rfl rfl (by decide) rfl ?_
          refine lr_goto (pc := 144) (tgt := 99) C lr_d_M_mark_144 (by decide) ?_
          refine lr_sub (ls' := [(0, .inr (20, 0)), (1, .inl a1), (2, .inl (x2 + 1))]) C [1, 2, 0] rfl ?_
          exact ih (x2 + 1) u31.2 o h kx
        · have h := lr_ng hc33 h
          refine lr_aload_n (pc := 128) C lr_d_M_mark_128 rfl 0 rfl ?_
          refine lr_aload_n (pc := 129) C lr_d_M_mark_129 rfl 0 rfl ?_
          refine lr_g7_65 (pc := 130) C lr_d_M_mark_130 ?_
          refine lr_iload_n (pc := 133) C lr_d_M_mark_133 rfl 2 rfl ?_
          refine lr_li41 (pc := 134) C lr_d_M_mark_134 hb29 ?_
          refine lr_bipush (pc := 135) (v := 8) C lr_d_M_mark_135 (by decide) ?_
          refine lr_irem (pc := 137) C lr_d_M_mark_137 (by decide) ?_
          obtain ⟨u34, hu35, h⟩ := lr_bd h
          refine lr_callVv (pc := 138) (as := [.inl ((lr_rd u31.2 41 0 x2.toNatClampNeg) - (lr_rd u31.2 41 0 x2.toNatClampNeg) / (8 : Int32) * (8 : Int32))]) (st := []) (fs := fun ad => lr_fs7 u31.2 0 ad) C (lr_r_M_keep hu35) lr_c7_165 lr_d_M_mark_138 rfl rfl (fun _ _ => rfl) (ci := 7) rfl rfl ⟨by decide, by decide⟩ (Nat.le_of_ble_eq_true rfl) ?_
          refine lr_iinc (pc := 141) (v := (x2 + 1)) (ls' := [(2, .inl (x2 + 1)), (0, .inr (20, 0)), (1, .inl a1)]) C lr_d_M_mark_141 2 rfl rfl (by decide) rfl ?_
          refine lr_goto (pc := 144) (tgt := 99) C lr_d_M_mark_144 (by decide) ?_
          refine lr_sub (ls' := [(0, .inr (20, 0)), (1, .inl a1), (2, .inl (x2 + 1))]) C [1, 2, 0] rfl ?_
          exact ih (x2 + 1) u34 o h kx
def lr_L_M_mark_157 (a1 : Int32) (a2 : Int32) : Nat → Int32 → lr_S → Option (Int32 × lr_S)
  | 0, _, _ => none
  | f + 1, x3, t => if (8 : Int32) ≤ x3 then (some (x3, t)) else (if lr_in x3 8 = true then (if (lr_rd t 55 0 x3.toNatClampNeg) = 0 then (lr_L_M_mark_157 a1 a2 f (x3 + 1) t) else (if lr_in (((8 : Int32) * a1) + x3) 32 = true then (if (lr_rd t 24 0 (((8 : Int32) * a1) + x3).toNatClampNeg) = (1 : Int32) then (if lr_in (((16 : Int32) * a1) + ((2 : Int32) * x3)) 64 = true then ((lr_G_M_keep (lr_rd t 27 0 (((16 : Int32) * a1) + ((2 : Int32) * x3)).toNatClampNeg) t).bind fun u45 => (if lr_in ((((16 : Int32) * a1) + ((2 : Int32) * x3)) + (1 : Int32)) 64 = true then ((lr_G_M_keep (lr_rd u45 27 0 ((((16 : Int32) * a1) + ((2 : Int32) * x3)) + (1 : Int32)).toNatClampNeg) u45).bind fun u48 => (lr_L_M_mark_157 a1 a2 f (x3 + 1) u48)) else none)) else none) else (lr_L_M_mark_157 a1 a2 f (x3 + 1) t)) else none)) else none)
set_option maxHeartbeats 4000000 in
theorem lr_t_M_mark_157 {X : lr_X} (C : lr_C X lr_m_M_mark.2.1 lr_R7 lr_m_M_mark.2.2.1 lr_m_M_mark.2.2.2.2.1 lr_m_M_mark.2.2.2.2.2 20 60) (a1 : Int32) (a2 : Int32) : ∀ (f : Nat) (x3 : Int32) (t : lr_S) (o : Int32 × lr_S), lr_L_M_mark_157 a1 a2 f x3 t = some o → (lr_T X 229 [(0, .inr (20, 0)), (1, .inl a1), (2, .inl a2), (3, .inl o.1)] [] o.2) → lr_T X 157 [(0, .inr (20, 0)), (1, .inl a1), (2, .inl a2), (3, .inl x3)] [] t := by
  intro f
  induction f with
  | zero => intro x3 t o h; cases h
  | succ f ih =>
    intro x3 t o h kx
    have h := (show (if (8 : Int32) ≤ x3 then (some (x3, t)) else (if lr_in x3 8 = true then (if (lr_rd t 55 0 x3.toNatClampNeg) = 0 then (lr_L_M_mark_157 a1 a2 f (x3 + 1) t) else (if lr_in (((8 : Int32) * a1) + x3) 32 = true then (if (lr_rd t 24 0 (((8 : Int32) * a1) + x3).toNatClampNeg) = (1 : Int32) then (if lr_in (((16 : Int32) * a1) + ((2 : Int32) * x3)) 64 = true then ((lr_G_M_keep (lr_rd t 27 0 (((16 : Int32) * a1) + ((2 : Int32) * x3)).toNatClampNeg) t).bind fun u45 => (if lr_in ((((16 : Int32) * a1) + ((2 : Int32) * x3)) + (1 : Int32)) 64 = true then ((lr_G_M_keep (lr_rd u45 27 0 ((((16 : Int32) * a1) + ((2 : Int32) * x3)) + (1 : Int32)).toNatClampNeg) u45).bind fun u48 => (lr_L_M_mark_157 a1 a2 f (x3 + 1) u48)) else none)) else none) else (lr_L_M_mark_157 a1 a2 f (x3 + 1) t)) else none)) else none)) = some o from h)
    refine lr_iload_n (pc := 157) C lr_d_M_mark_157 rfl 3 rfl ?_
    refine lr_bipush (pc := 158) (v := 8) C lr_d_M_mark_158 (by decide) ?_
    refine lr_icmp_ge (pc := 160) (tgt := 229) C lr_d_M_mark_160 (by decide) (fun hc39 => ?_) (fun hc39 => ?_)
    · have h := lr_ps hc39 h
      refine lr_sub (ls' := [(0, .inr (20, 0)), (1, .inl a1), (2, .inl a2), (3, .inl x3)]) C [0, 1, 2, 3] rfl ?_
      have e := Option.some.inj h
      subst e
      exact kx
    · have h := lr_ng hc39 h
      refine lr_aload_n (pc := 163) C lr_d_M_mark_163 rfl 0 rfl ?_
      refine lr_g7_104 (pc := 164) C lr_d_M_mark_164 ?_
      refine lr_iload_n (pc := 167) C lr_d_M_mark_167 rfl 3 rfl ?_
      obtain ⟨hb40, h⟩ := lr_gd h
      refine lr_lz55 (pc := 168) C lr_d_M_mark_168 hb40 ?_
      refine lr_if_eq (pc := 169) (tgt := 223) C lr_d_M_mark_169 (by decide) (fun hc41 => ?_) (fun hc41 => ?_)
      · have h := lr_ps hc41 h
        refine lr_iinc (pc := 223) (v := (x3 + 1)) (ls' := [(3, .inl (x3 + 1)), (0, .inr (20, 0)), (1, .inl a1), (2, .inl a2)]) C lr_d_M_mark_223 3 rfl rfl (by decide) rfl ?_
        refine lr_goto (pc := 226) (tgt := 157) C lr_d_M_mark_226 (by decide) ?_
        refine lr_sub (ls' := [(0, .inr (20, 0)), (1, .inl a1), (2, .inl a2), (3, .inl (x3 + 1))]) C [1, 2, 3, 0] rfl ?_
        exact ih (x3 + 1) t o h kx
      · have h := lr_ng hc41 h
        refine lr_aload_n (pc := 172) C lr_d_M_mark_172 rfl 0 rfl ?_
        refine lr_g7_20 (pc := 173) C lr_d_M_mark_173 ?_
        refine lr_bipush (pc := 176) (v := 8) C lr_d_M_mark_176 (by decide) ?_
        refine lr_iload_n (pc := 178) C lr_d_M_mark_178 rfl 1 rfl ?_
        refine lr_imul (pc := 179) C lr_d_M_mark_179 ?_
        refine lr_iload_n (pc := 180) C lr_d_M_mark_180 rfl 3 rfl ?_
        refine lr_iadd (pc := 181) C lr_d_M_mark_181 ?_
        obtain ⟨hb42, h⟩ := lr_gd h
        refine lr_li24 (pc := 182) C lr_d_M_mark_182 hb42 ?_
        refine lr_iconst (pc := 183) (v := 1) C lr_d_M_mark_183 (by decide) ?_
        refine lr_icmp_ne (pc := 184) (tgt := 223) C lr_d_M_mark_184 (by decide) (fun hc43 => ?_) (fun hc43 => ?_)
        · have h := lr_ng hc43 h
          refine lr_iinc (pc := 223) (v := (x3 + 1)) (ls' := [(3, .inl (x3 + 1)), (0, .inr (20, 0)), (1, .inl a1), (2, .inl a2)]) C lr_d_M_mark_223 3 rfl rfl (by decide) rfl ?_
          refine lr_goto (pc := 226) (tgt := 157) C lr_d_M_mark_226 (by decide) ?_
          refine lr_sub (ls' := [(0, .inr (20, 0)), (1, .inl a1), (2, .inl a2), (3, .inl (x3 + 1))]) C [1, 2, 3, 0] rfl ?_
          exact ih (x3 + 1) t o h kx
        · have h := lr_ps hc43 h
          refine lr_aload_n (pc := 187) C lr_d_M_mark_187 rfl 0 rfl ?_
          refine lr_aload_n (pc := 188) C lr_d_M_mark_188 rfl 0 rfl ?_
          refine lr_g7_29 (pc := 189) C lr_d_M_mark_189 ?_
          refine lr_bipush (pc := 192) (v := 16) C lr_d_M_mark_192 (by decide) ?_
          refine lr_iload_n (pc := 194) C lr_d_M_mark_194 rfl 1 rfl ?_
          refine lr_imul (pc := 195) C lr_d_M_mark_195 ?_
          refine lr_iconst (pc := 196) (v := 2) C lr_d_M_mark_196 (by decide) ?_
          refine lr_iload_n (pc := 197) C lr_d_M_mark_197 rfl 3 rfl ?_
          refine lr_imul (pc := 198) C lr_d_M_mark_198 ?_
          refine lr_iadd (pc := 199) C lr_d_M_mark_199 ?_
          obtain ⟨hb44, h⟩ := lr_gd h
          refine lr_li27 (pc := 200) C lr_d_M_mark_200 hb44 ?_
          obtain ⟨u45, hu46, h⟩ := lr_bd h
          refine lr_callVv (pc := 201) (as := [.inl (lr_rd t 27 0 (((16 : Int32) * a1) + ((2 : Int32) * x3)).toNatClampNeg)]) (st := []) (fs := fun ad => lr_fs7 t 0 ad) C (lr_r_M_keep hu46) lr_c7_165 lr_d_M_mark_201 rfl rfl (fun _ _ => rfl) (ci := 7) rfl rfl ⟨by decide, by decide⟩ (Nat.le_of_ble_eq_true rfl) ?_
          refine lr_aload_n (pc := 204) C lr_d_M_mark_204 rfl 0 rfl ?_
          refine lr_aload_n (pc := 205) C lr_d_M_mark_205 rfl 0 rfl ?_
          refine lr_g7_29 (pc := 206) C lr_d_M_mark_206 ?_
          refine lr_bipush (pc := 209) (v := 16) C lr_d_M_mark_209 (by decide) ?_
          refine lr_iload_n (pc := 211) C lr_d_M_mark_211 rfl 1 rfl ?_
          refine lr_imul (pc := 212) C lr_d_M_mark_212 ?_
          refine lr_iconst (pc := 213) (v := 2) C lr_d_M_mark_213 (by decide) ?_
          refine lr_iload_n (pc := 214) C lr_d_M_mark_214 rfl 3 rfl ?_
          refine lr_imul (pc := 215) C lr_d_M_mark_215 ?_
          refine lr_iadd (pc := 216) C lr_d_M_mark_216 ?_
          refine lr_iconst (pc := 217) (v := 1) C lr_d_M_mark_217 (by decide) ?_
          refine lr_iadd (pc := 218) C lr_d_M_mark_218 ?_
          obtain ⟨hb47, h⟩ := lr_gd h
          refine lr_li27 (pc := 219) C lr_d_M_mark_219 hb47 ?_
          obtain ⟨u48, hu49, h⟩ := lr_bd h
          refine lr_callVv (pc := 220) (as := [.inl (lr_rd u45 27 0 ((((16 : Int32) * a1) + ((2 : Int32) * x3)) + (1 : Int32)).toNatClampNeg)]) (st := []) (fs := fun ad => lr_fs7 u45 0 ad) C (lr_r_M_keep hu49) lr_c7_165 lr_d_M_mark_220 rfl rfl (fun _ _ => rfl) (ci := 7) rfl rfl ⟨by decide, by decide⟩ (Nat.le_of_ble_eq_true rfl) ?_
          refine lr_iinc (pc := 223) (v := (x3 + 1)) (ls' := [(3, .inl (x3 + 1)), (0, .inr (20, 0)), (1, .inl a1), (2, .inl a2)]) C lr_d_M_mark_223 3 rfl rfl (by decide) rfl ?_
          refine lr_goto (pc := 226) (tgt := 157) C lr_d_M_mark_226 (by decide) ?_
          refine lr_sub (ls' := [(0, .inr (20, 0)), (1, .inl a1), (2, .inl a2), (3, .inl (x3 + 1))]) C [1, 2, 3, 0] rfl ?_
          exact ih (x3 + 1) u48 o h kx
def lr_L_M_mark_149 (a1 : Int32) : Nat → Int32 → lr_S → Option (Int32 × lr_S)
  | 0, _, _ => none
  | f + 1, x2, t => if (8 : Int32) ≤ x2 then (some (x2, t)) else ((lr_L_M_mark_157 a1 x2 600 (0 : Int32) t).bind fun u50 => (lr_L_M_mark_149 a1 f (x2 + 1) u50.2))
set_option maxHeartbeats 4000000 in
theorem lr_t_M_mark_149 {X : lr_X} (C : lr_C X lr_m_M_mark.2.1 lr_R7 lr_m_M_mark.2.2.1 lr_m_M_mark.2.2.2.2.1 lr_m_M_mark.2.2.2.2.2 20 60) (a1 : Int32) : ∀ (f : Nat) (x2 : Int32) (t : lr_S) (o : Int32 × lr_S), lr_L_M_mark_149 a1 f x2 t = some o → (lr_T X 235 [(0, .inr (20, 0)), (1, .inl a1), (2, .inl o.1)] [] o.2) → lr_T X 149 [(0, .inr (20, 0)), (1, .inl a1), (2, .inl x2)] [] t := by
  intro f
  induction f with
  | zero => intro x2 t o h; cases h
  | succ f ih =>
    intro x2 t o h kx
    have h := (show (if (8 : Int32) ≤ x2 then (some (x2, t)) else ((lr_L_M_mark_157 a1 x2 600 (0 : Int32) t).bind fun u50 => (lr_L_M_mark_149 a1 f (x2 + 1) u50.2))) = some o from h)
    refine lr_iload_n (pc := 149) C lr_d_M_mark_149 rfl 2 rfl ?_
    refine lr_bipush (pc := 150) (v := 8) C lr_d_M_mark_150 (by decide) ?_
    refine lr_icmp_ge (pc := 152) (tgt := 235) C lr_d_M_mark_152 (by decide) (fun hc38 => ?_) (fun hc38 => ?_)
    · have h := lr_ps hc38 h
      refine lr_sub (ls' := [(0, .inr (20, 0)), (1, .inl a1), (2, .inl x2)]) C [0, 1, 2] rfl ?_
      have e := Option.some.inj h
      subst e
      exact kx
    · have h := lr_ng hc38 h
      refine lr_iconst (pc := 155) (v := 0) C lr_d_M_mark_155 (by decide) ?_
      refine lr_istore_n (pc := 156) (ls' := [(3, .inl (0 : Int32)), (0, .inr (20, 0)), (1, .inl a1), (2, .inl x2)]) C lr_d_M_mark_156 rfl (by decide) rfl ?_
      refine lr_sub (ls' := [(0, .inr (20, 0)), (1, .inl a1), (2, .inl x2), (3, .inl (0 : Int32))]) C [1, 2, 3, 0] rfl ?_
      obtain ⟨u50, hu51, h⟩ := lr_bd h
      refine lr_t_M_mark_157 C a1 x2 600 (0 : Int32) t u50 hu51 ?_
      refine lr_iinc (pc := 229) (v := (x2 + 1)) (ls' := [(2, .inl (x2 + 1)), (0, .inr (20, 0)), (1, .inl a1), (3, .inl u50.1)]) C lr_d_M_mark_229 2 rfl rfl (by decide) rfl ?_
      refine lr_goto (pc := 232) (tgt := 149) C lr_d_M_mark_232 (by decide) ?_
      refine lr_sub (ls' := [(0, .inr (20, 0)), (1, .inl a1), (2, .inl (x2 + 1))]) C [1, 2, 0] rfl ?_
      exact ih (x2 + 1) u50.2 o h kx
def lr_G_M_mark (a1 : Int32) (t : lr_S) : Option (lr_S) := (lr_L_M_mark_2 a1 600 (0 : Int32) t).bind fun u20 => ((lr_L_M_mark_72 a1 600 (0 : Int32) u20.2).bind fun u26 => ((lr_L_M_mark_99 a1 600 (0 : Int32) u26.2).bind fun u36 => ((lr_L_M_mark_149 a1 600 (0 : Int32) u36.2).bind fun u52 => (some u52.2))))
set_option maxHeartbeats 4000000 in
theorem lr_r_M_mark {a1 : Int32} {t o : lr_S} (h : lr_G_M_mark a1 t = some o) : lr_RV 20 60 lr_m_M_mark [.inr (20, 0), .inl a1] t o := by
  refine lr_ofV (own := lr_R7) (by decide) rfl rfl (Nat.le_of_ble_eq_true rfl) (fun X C E => ?_)
  show lr_T X 0 [(0, .inr (20, 0)), (1, .inl a1)] [] t
  have h := (show ((lr_L_M_mark_2 a1 600 (0 : Int32) t).bind fun u20 => ((lr_L_M_mark_72 a1 600 (0 : Int32) u20.2).bind fun u26 => ((lr_L_M_mark_99 a1 600 (0 : Int32) u26.2).bind fun u36 => ((lr_L_M_mark_149 a1 600 (0 : Int32) u36.2).bind fun u52 => (some u52.2))))) = some o from h)
  refine lr_iconst (pc := 0) (v := 0) C lr_d_M_mark_0 (by decide) ?_
  refine lr_istore_n (pc := 1) (ls' := [(2, .inl (0 : Int32)), (0, .inr (20, 0)), (1, .inl a1)]) C lr_d_M_mark_1 rfl (by decide) rfl ?_
  refine lr_sub (ls' := [(0, .inr (20, 0)), (1, .inl a1), (2, .inl (0 : Int32))]) C [1, 2, 0] rfl ?_
  obtain ⟨u20, hu21, h⟩ := lr_bd h
  refine lr_t_M_mark_2 C a1 600 (0 : Int32) t u20 hu21 ?_
  refine lr_iconst (pc := 70) (v := 0) C lr_d_M_mark_70 (by decide) ?_
  refine lr_istore_n (pc := 71) (ls' := [(2, .inl (0 : Int32)), (0, .inr (20, 0)), (1, .inl a1)]) C lr_d_M_mark_71 rfl (by decide) rfl ?_
  refine lr_sub (ls' := [(0, .inr (20, 0)), (1, .inl a1), (2, .inl (0 : Int32))]) C [1, 2, 0] rfl ?_
  obtain ⟨u26, hu27, h⟩ := lr_bd h
  refine lr_t_M_mark_72 C a1 600 (0 : Int32) u20.2 u26 hu27 ?_
  refine lr_iconst (pc := 97) (v := 0) C lr_d_M_mark_97 (by decide) ?_
  refine lr_istore_n (pc := 98) (ls' := [(2, .inl (0 : Int32)), (0, .inr (20, 0)), (1, .inl a1)]) C lr_d_M_mark_98 rfl (by decide) rfl ?_
  refine lr_sub (ls' := [(0, .inr (20, 0)), (1, .inl a1), (2, .inl (0 : Int32))]) C [1, 2, 0] rfl ?_
  obtain ⟨u36, hu37, h⟩ := lr_bd h
  refine lr_t_M_mark_99 C a1 600 (0 : Int32) u26.2 u36 hu37 ?_
  refine lr_iconst (pc := 147) (v := 0) C lr_d_M_mark_147 (by decide) ?_
  refine lr_istore_n (pc := 148) (ls' := [(2, .inl (0 : Int32)), (0, .inr (20, 0)), (1, .inl a1)]) C lr_d_M_mark_148 rfl (by decide) rfl ?_
  refine lr_sub (ls' := [(0, .inr (20, 0)), (1, .inl a1), (2, .inl (0 : Int32))]) C [1, 2, 0] rfl ?_
  obtain ⟨u52, hu53, h⟩ := lr_bd h
  refine lr_t_M_mark_149 C a1 600 (0 : Int32) u36.2 u52 hu53 ?_
  have e := Option.some.inj h
  subst e
  exact lr_vret C E lr_d_M_mark_235
