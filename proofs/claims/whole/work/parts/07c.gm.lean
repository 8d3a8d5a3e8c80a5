def lr_G_M_fetch (a1 : Int32) (a2 : Int32) (a3 : Int32) (a4 : Int32) (t : lr_S) : Option (Int32 × lr_S) := (lr_G_M_at a1 a2 t).bind fun u1 => (if u1.1 < 0 then (some ((0 : Int32), u1.2)) else (if lr_in u1.1 32 = true then (if (lr_rd u1.2 24 0 u1.1.toNatClampNeg) = (1 : Int32) then ((lr_G_M_within a3 (2 : Int32) u1.2).bind fun u6 => (if u6.1 = 0 then (some ((0 : Int32), u6.2)) else ((lr_G_M_within a4 (3 : Int32) u6.2).bind fun u9 => (if u9.1 = 0 then (some ((0 : Int32), u9.2)) else (if lr_in (((2 : Int32) * u1.1) + a3) 64 = true then (if lr_in (((3 : Int32) * a1) + a4) 12 = true then ((some (lr_wr u9.2 22 0 (((3 : Int32) * a1) + a4).toNatClampNeg (lr_rd u9.2 27 0 (((2 : Int32) * u1.1) + a3).toNatClampNeg))).bind fun t14 => (some ((1 : Int32), t14))) else none) else none))))) else (some ((0 : Int32), u1.2))) else none))
set_option maxHeartbeats 4000000 in
theorem lr_r_M_fetch {a1 : Int32} {a2 : Int32} {a3 : Int32} {a4 : Int32} {t : lr_S} {o : Int32 × lr_S} (h : lr_G_M_fetch a1 a2 a3 a4 t = some o) : lr_RI 20 60 lr_m_M_fetch [.inr (20, 0), .inl a1, .inl a2, .inl a3, .inl a4] t o.1 o.2 := by
  refine lr_ofI (ty := .boolean) (own := lr_R7) (by decide) rfl rfl (Nat.le_of_ble_eq_true rfl) (fun X C E => ?_)
  show lr_T X 0 [(0, .inr (20, 0)), (1, .inl a1), (2, .inl a2), (3, .inl a3), (4, .inl a4)] [] t
  have h := (show ((lr_G_M_at a1 a2 t).bind fun u1 => (if u1.1 < 0 then (some ((0 : Int32), u1.2)) else (if lr_in u1.1 32 = true then (if (lr_rd u1.2 24 0 u1.1.toNatClampNeg) = (1 : Int32) then ((lr_G_M_within a3 (2 : Int32) u1.2).bind fun u6 => (if u6.1 = 0 then (some ((0 : Int32), u6.2)) else ((lr_G_M_within a4 (3 : Int32) u6.2).bind fun u9 => (if u9.1 = 0 then (some ((0 : Int32), u9.2)) else (if lr_in (((2 : Int32) * u1.1) + a3) 64 = true then (if lr_in (((3 : Int32) * a1) + a4) 12 = true then ((some (lr_wr u9.2 22 0 (((3 : Int32) * a1) + a4).toNatClampNeg (lr_rd u9.2 27 0 (((2 : Int32) * u1.1) + a3).toNatClampNeg))).bind fun t14 => (some ((1 : Int32), t14))) else none) else none))))) else (some ((0 : Int32), u1.2))) else none))) = some o from h)
  refine lr_aload_n (pc := 0) C lr_d_M_fetch_0 rfl 0 rfl ?_
  refine lr_iload_n (pc := 1) C lr_d_M_fetch_1 rfl 1 rfl ?_
  refine lr_iload_n (pc := 2) C lr_d_M_fetch_2 rfl 2 rfl ?_
  obtain ⟨u1, hu2, h⟩ := lr_bd h
  refine lr_callVi (pc := 3) (as := [.inl a1, .inl a2]) (st := []) (fs := fun ad => lr_fs7 t 0 ad) C (lr_r_M_at hu2) lr_c7_136 lr_d_M_fetch_3 rfl rfl (fun _ _ => rfl) (ci := 7) rfl rfl ⟨by decide, by decide⟩ (Nat.le_of_ble_eq_true rfl) ?_
  refine lr_istore (pc := 6) (ls' := [(5, .inl u1.1), (0, .inr (20, 0)), (1, .inl a1), (2, .inl a2), (3, .inl a3), (4, .inl a4)]) C lr_d_M_fetch_6 (by decide) rfl ?_
  refine lr_iload (pc := 8) C lr_d_M_fetch_8 0 rfl ?_
  refine lr_if_lt (pc := 10) (tgt := 41) C lr_d_M_fetch_10 (by decide) (fun hc3 => ?_) (fun hc3 => ?_)
  · have h := lr_ps hc3 h
    refine lr_iconst (pc := 41) (v := 0) C lr_d_M_fetch_41 (by decide) ?_
    have e := Option.some.inj h
    subst e
    exact lr_iret C E lr_d_M_fetch_42 (by decide)
  · have h := lr_ng hc3 h
    refine lr_aload_n (pc := 13) C lr_d_M_fetch_13 rfl 1 rfl ?_
    refine lr_g7_20 (pc := 14) C lr_d_M_fetch_14 ?_
    refine lr_iload (pc := 17) C lr_d_M_fetch_17 0 rfl ?_
    obtain ⟨hb4, h⟩ := lr_gd h
    refine lr_li24 (pc := 19) C lr_d_M_fetch_19 hb4 ?_
    refine lr_iconst (pc := 20) (v := 1) C lr_d_M_fetch_20 (by decide) ?_
    refine lr_icmp_ne (pc := 21) (tgt := 41) C lr_d_M_fetch_21 (by decide) (fun hc5 => ?_) (fun hc5 => ?_)
    · have h := lr_ng hc5 h
      refine lr_iconst (pc := 41) (v := 0) C lr_d_M_fetch_41 (by decide) ?_
      have e := Option.some.inj h
      subst e
      exact lr_iret C E lr_d_M_fetch_42 (by decide)
    · have h := lr_ps hc5 h
      refine lr_iload_n (pc := 24) C lr_d_M_fetch_24 rfl 4 rfl ?_
      refine lr_iconst (pc := 25) (v := 2) C lr_d_M_fetch_25 (by decide) ?_
      obtain ⟨u6, hu7, h⟩ := lr_bd h
      refine lr_callSi (pc := 26) (as := [.inl a3, .inl (2 : Int32)]) (st := []) C (lr_r_M_within hu7) lr_c7_107 lr_d_M_fetch_26 rfl rfl ⟨by decide, by decide⟩ (Nat.le_of_ble_eq_true rfl) ?_
      refine lr_if_eq (pc := 29) (tgt := 41) C lr_d_M_fetch_29 (by decide) (fun hc8 => ?_) (fun hc8 => ?_)
      · have h := lr_ps hc8 h
        refine lr_iconst (pc := 41) (v := 0) C lr_d_M_fetch_41 (by decide) ?_
        have e := Option.some.inj h
        subst e
        exact lr_iret C E lr_d_M_fetch_42 (by decide)
      · have h := lr_ng hc8 h
        refine lr_iload (pc := 32) C lr_d_M_fetch_32 5 rfl ?_
        refine lr_iconst (pc := 34) (v := 3) C lr_d_M_fetch_34 (by decide) ?_
        obtain ⟨u9, hu10, h⟩ := lr_bd h
        refine lr_callSi (pc := 35) (as := [.inl a4, .inl (3 : Int32)]) (st := []) C (lr_r_M_within hu10) lr_c7_107 lr_d_M_fetch_35 rfl rfl ⟨by decide, by decide⟩ (Nat.le_of_ble_eq_true rfl) ?_
        refine lr_if_ne (pc := 38) (tgt := 43) C lr_d_M_fetch_38 (by decide) (fun hc11 => ?_) (fun hc11 => ?_)
        · have h := lr_ng hc11 h
          refine lr_aload_n (pc := 43) C lr_d_M_fetch_43 rfl 1 rfl ?_
          refine lr_g7_13 (pc := 44) C lr_d_M_fetch_44 ?_
          refine lr_iconst (pc := 47) (v := 3) C lr_d_M_fetch_47 (by decide) ?_
          refine lr_iload_n (pc := 48) C lr_d_M_fetch_48 rfl 2 rfl ?_
          refine lr_imul (pc := 49) C lr_d_M_fetch_49 ?_
          refine lr_iload (pc := 50) C lr_d_M_fetch_50 5 rfl ?_
          refine lr_iadd (pc := 52) C lr_d_M_fetch_52 ?_
          refine lr_aload_n (pc := 53) C lr_d_M_fetch_53 rfl 1 rfl ?_
          refine lr_g7_29 (pc := 54) C lr_d_M_fetch_54 ?_
          refine lr_iconst (pc := 57) (v := 2) C lr_d_M_fetch_57 (by decide) ?_
          refine lr_iload (pc := 58) C lr_d_M_fetch_58 0 rfl ?_
          refine lr_imul (pc := 60) C lr_d_M_fetch_60 ?_
          refine lr_iload_n (pc := 61) C lr_d_M_fetch_61 rfl 4 rfl ?_
          refine lr_iadd (pc := 62) C lr_d_M_fetch_62 ?_
          obtain ⟨hb12, h⟩ := lr_gd h
          refine lr_li27 (pc := 63) C lr_d_M_fetch_63 hb12 ?_
          obtain ⟨hb13, h⟩ := lr_gd h
          refine lr_si22 (pc := 64) C lr_d_M_fetch_64 hb13 ?_
          obtain ⟨t14, ht15, h⟩ := lr_bd h
          rw [Option.some.inj ht15]
          refine lr_iconst (pc := 65) (v := 1) C lr_d_M_fetch_65 (by decide) ?_
          have e := Option.some.inj h
          subst e
          exact lr_iret C E lr_d_M_fetch_66 (by decide)
        · have h := lr_ps hc11 h
          refine lr_iconst (pc := 41) (v := 0) C lr_d_M_fetch_41 (by decide) ?_
          have e := Option.some.inj h
          subst e
          exact lr_iret C E lr_d_M_fetch_42 (by decide)
def lr_G_M_drop (a1 : Int32) (a2 : Int32) (t : lr_S) : Option (Int32 × lr_S) := (lr_G_M_lives a1 t).bind fun u1 => (if u1.1 = 0 then (some ((0 : Int32), u1.2)) else ((lr_G_M_within a2 (3 : Int32) u1.2).bind fun u4 => (if u4.1 = 0 then (some ((0 : Int32), u4.2)) else (if lr_in (((3 : Int32) * a1) + a2) 12 = true then (some ((1 : Int32), (lr_wr u4.2 22 0 (((3 : Int32) * a1) + a2).toNatClampNeg (-1 : Int32)))) else none))))
set_option maxHeartbeats 4000000 in
theorem lr_r_M_drop {a1 : Int32} {a2 : Int32} {t : lr_S} {o : Int32 × lr_S} (h : lr_G_M_drop a1 a2 t = some o) : lr_RI 20 60 lr_m_M_drop [.inr (20, 0), .inl a1, .inl a2] t o.1 o.2 := by
  refine lr_ofI (ty := .boolean) (own := lr_R7) (by decide) rfl rfl (Nat.le_of_ble_eq_true rfl) (fun X C E => ?_)
  show lr_T X 0 [(0, .inr (20, 0)), (1, .inl a1), (2, .inl a2)] [] t
  have h := (show ((lr_G_M_lives a1 t).bind fun u1 => (if u1.1 = 0 then (some ((0 : Int32), u1.2)) else ((lr_G_M_within a2 (3 : Int32) u1.2).bind fun u4 => (if u4.1 = 0 then (some ((0 : Int32), u4.2)) else (if lr_in (((3 : Int32) * a1) + a2) 12 = true then (some ((1 : Int32), (lr_wr u4.2 22 0 (((3 : Int32) * a1) + a2).toNatClampNeg (-1 : Int32)))) else none))))) = some o from h)
  refine lr_aload_n (pc := 0) C lr_d_M_drop_0 rfl 0 rfl ?_
  refine lr_iload_n (pc := 1) C lr_d_M_drop_1 rfl 1 rfl ?_
  obtain ⟨u1, hu2, h⟩ := lr_bd h
  refine lr_callVi (pc := 2) (as := [.inl a1]) (st := []) (fs := fun ad => lr_fs7 t 0 ad) C (lr_r_M_lives hu2) lr_c7_115 lr_d_M_drop_2 rfl rfl (fun _ _ => rfl) (ci := 7) rfl rfl ⟨by decide, by decide⟩ (Nat.le_of_ble_eq_true rfl) ?_
  refine lr_if_eq (pc := 5) (tgt := 16) C lr_d_M_drop_5 (by decide) (fun hc3 => ?_) (fun hc3 => ?_)
  · have h := lr_ps hc3 h
    refine lr_iconst (pc := 16) (v := 0) C lr_d_M_drop_16 (by decide) ?_
    have e := Option.some.inj h
    subst e
    exact lr_iret C E lr_d_M_drop_17 (by decide)
  · have h := lr_ng hc3 h
    refine lr_iload_n (pc := 8) C lr_d_M_drop_8 rfl 2 rfl ?_
    refine lr_iconst (pc := 9) (v := 3) C lr_d_M_drop_9 (by decide) ?_
    obtain ⟨u4, hu5, h⟩ := lr_bd h
    refine lr_callSi (pc := 10) (as := [.inl a2, .inl (3 : Int32)]) (st := []) C (lr_r_M_within hu5) lr_c7_107 lr_d_M_drop_10 rfl rfl ⟨by decide, by decide⟩ (Nat.le_of_ble_eq_true rfl) ?_
    refine lr_if_ne (pc := 13) (tgt := 18) C lr_d_M_drop_13 (by decide) (fun hc6 => ?_) (fun hc6 => ?_)
    · have h := lr_ng hc6 h
      refine lr_aload_n (pc := 18) C lr_d_M_drop_18 rfl 0 rfl ?_
      refine lr_g7_13 (pc := 19) C lr_d_M_drop_19 ?_
      refine lr_iconst (pc := 22) (v := 3) C lr_d_M_drop_22 (by decide) ?_
      refine lr_iload_n (pc := 23) C lr_d_M_drop_23 rfl 1 rfl ?_
      refine lr_imul (pc := 24) C lr_d_M_drop_24 ?_
      refine lr_iload_n (pc := 25) C lr_d_M_drop_25 rfl 2 rfl ?_
      refine lr_iadd (pc := 26) C lr_d_M_drop_26 ?_
      refine lr_iconst (pc := 27) (v := -1) C lr_d_M_drop_27 (by decide) ?_
      obtain ⟨hb7, h⟩ := lr_gd h
      refine lr_si22 (pc := 28) C lr_d_M_drop_28 hb7 ?_
      refine lr_iconst (pc := 29) (v := 1) C lr_d_M_drop_29 (by decide) ?_
      have e := Option.some.inj h
      subst e
      exact lr_iret C E lr_d_M_drop_30 (by decide)
    · have h := lr_ps hc6 h
      refine lr_iconst (pc := 16) (v := 0) C lr_d_M_drop_16 (by decide) ?_
      have e := Option.some.inj h
      subst e
      exact lr_iret C E lr_d_M_drop_17 (by decide)
def lr_G_M_pinned (a1 : Int32) (t : lr_S) : Option (Int32 × lr_S) := if lr_in a1 512 = true then (if (lr_rd t 43 0 a1.toNatClampNeg) = 0 then (if ((lr_rd t 42 0 a1.toNatClampNeg) + (24 : Int32)) ≤ (lr_rd t 20 0 0) then (some ((0 : Int32), t)) else (some ((1 : Int32), t))) else (some ((0 : Int32), t))) else none
set_option maxHeartbeats 4000000 in
theorem lr_r_M_pinned {a1 : Int32} {t : lr_S} {o : Int32 × lr_S} (h : lr_G_M_pinned a1 t = some o) : lr_RI 20 60 lr_m_M_pinned [.inr (20, 0), .inl a1] t o.1 o.2 := by
  refine lr_ofI (ty := .boolean) (own := lr_R7) (by decide) rfl rfl (Nat.le_of_ble_eq_true rfl) (fun X C E => ?_)
  show lr_T X 0 [(0, .inr (20, 0)), (1, .inl a1)] [] t
  have h := (show (if lr_in a1 512 = true then (if (lr_rd t 43 0 a1.toNatClampNeg) = 0 then (if ((lr_rd t 42 0 a1.toNatClampNeg) + (24 : Int32)) ≤ (lr_rd t 20 0 0) then (some ((0 : Int32), t)) else (some ((1 : Int32), t))) else (some ((0 : Int32), t))) else none) = some o from h)
  refine lr_aload_n (pc := 0) C lr_d_M_pinned_0 rfl 0 rfl ?_
  refine lr_g7_71 (pc := 1) C lr_d_M_pinned_1 ?_
  refine lr_iload_n (pc := 4) C lr_d_M_pinned_4 rfl 1 rfl ?_
  obtain ⟨hb1, h⟩ := lr_gd h
  refine lr_lz43 (pc := 5) C lr_d_M_pinned_5 hb1 ?_
  refine lr_if_ne (pc := 6) (tgt := 29) C lr_d_M_pinned_6 (by decide) (fun hc2 => ?_) (fun hc2 => ?_)
  · have h := lr_ng hc2 h
    refine lr_iconst (pc := 29) (v := 0) C lr_d_M_pinned_29 (by decide) ?_
    have e := Option.some.inj h
    subst e
    exact lr_iret C E lr_d_M_pinned_30 (by decide)
  · have h := lr_ps hc2 h
    refine lr_aload_n (pc := 9) C lr_d_M_pinned_9 rfl 0 rfl ?_
    refine lr_g7_119 (pc := 10) C lr_d_M_pinned_10 ?_
    refine lr_aload_n (pc := 13) C lr_d_M_pinned_13 rfl 0 rfl ?_
    refine lr_g7_68 (pc := 14) C lr_d_M_pinned_14 ?_
    refine lr_iload_n (pc := 17) C lr_d_M_pinned_17 rfl 1 rfl ?_
    refine lr_li42 (pc := 18) C lr_d_M_pinned_18 hb1 ?_
    refine lr_bipush (pc := 19) (v := 24) C lr_d_M_pinned_19 (by decide) ?_
    refine lr_iadd (pc := 21) C lr_d_M_pinned_21 ?_
    refine lr_icmp_ge (pc := 22) (tgt := 29) C lr_d_M_pinned_22 (by decide) (fun hc3 => ?_) (fun hc3 => ?_)
    · have h := lr_ps hc3 h
      refine lr_iconst (pc := 29) (v := 0) C lr_d_M_pinned_29 (by decide) ?_
      have e := Option.some.inj h
      subst e
      exact lr_iret C E lr_d_M_pinned_30 (by decide)
    · have h := lr_ng hc3 h
      refine lr_iconst (pc := 25) (v := 1) C lr_d_M_pinned_25 (by decide) ?_
      refine lr_goto (pc := 26) (tgt := 30) C lr_d_M_pinned_26 (by decide) ?_
      have e := Option.some.inj h
      subst e
      exact lr_iret C E lr_d_M_pinned_30 (by decide)
def lr_L_M_pinsOf_4 (a1 : Int32) : Nat → Int32 → Int32 → lr_S → Option (Int32 × Int32 × lr_S)
  | 0, _, _, _ => none
  | f + 1, x2, x3, t => if (lr_rd t 20 0 24) ≤ x3 then (some (x2, x3, t)) else (if lr_in x3 512 = true then (if ((lr_rd t 41 0 x3.toNatClampNeg) / (8 : Int32)) = a1 then ((lr_G_M_pinned x3 t).bind fun u4 => (if u4.1 = 0 then (lr_L_M_pinsOf_4 a1 f x2 (x3 + 1) u4.2) else (lr_L_M_pinsOf_4 a1 f (x2 + (1 : Int32)) (x3 + 1) u4.2))) else (lr_L_M_pinsOf_4 a1 f x2 (x3 + 1) t)) else none)
set_option maxHeartbeats 4000000 in
theorem lr_t_M_pinsOf_4 {X : lr_X} (C : lr_C X lr_m_M_pinsOf.2.1 lr_R7 lr_m_M_pinsOf.2.2.1 lr_m_M_pinsOf.2.2.2.2.1 lr_m_M_pinsOf.2.2.2.2.2 20 60) (a1 : Int32) : ∀ (f : Nat) (x2 : Int32) (x3 : Int32) (t : lr_S) (o : Int32 × Int32 × lr_S), lr_L_M_pinsOf_4 a1 f x2 x3 t = some o → (lr_T X 47 [(0, .inr (20, 0)), (1, .inl a1), (2, .inl o.1), (3, .inl o.2.1)] [] o.2.2) → lr_T X 4 [(0, .inr (20, 0)), (1, .inl a1), (2, .inl x2), (3, .inl x3)] [] t := by
  intro f
  induction f with
  | zero => intro x2 x3 t o h; cases h
  | succ f ih =>
    intro x2 x3 t o h kx
    have h := (show (if (lr_rd t 20 0 24) ≤ x3 then (some (x2, x3, t)) else (if lr_in x3 512 = true then (if ((lr_rd t 41 0 x3.toNatClampNeg) / (8 : Int32)) = a1 then ((lr_G_M_pinned x3 t).bind fun u4 => (if u4.1 = 0 then (lr_L_M_pinsOf_4 a1 f x2 (x3 + 1) u4.2) else (lr_L_M_pinsOf_4 a1 f (x2 + (1 : Int32)) (x3 + 1) u4.2))) else (lr_L_M_pinsOf_4 a1 f x2 (x3 + 1) t)) else none)) = some o from h)
    refine lr_iload_n (pc := 4) C lr_d_M_pinsOf_4 rfl 3 rfl ?_
    refine lr_aload_n (pc := 5) C lr_d_M_pinsOf_5 rfl 0 rfl ?_
    refine lr_g7_140 (pc := 6) C lr_d_M_pinsOf_6 ?_
    refine lr_icmp_ge (pc := 9) (tgt := 47) C lr_d_M_pinsOf_9 (by decide) (fun hc1 => ?_) (fun hc1 => ?_)
    · have h := lr_ps hc1 h
      refine lr_sub (ls' := [(0, .inr (20, 0)), (1, .inl a1), (2, .inl x2), (3, .inl x3)]) C [0, 1, 2, 3] rfl ?_
      have e := Option.some.inj h
      subst e
      exact kx
    · have h := lr_ng hc1 h
      refine lr_aload_n (pc := 12) C lr_d_M_pinsOf_12 rfl 0 rfl ?_
      refine lr_g7_65 (pc := 13) C lr_d_M_pinsOf_13 ?_
      refine lr_iload_n (pc := 16) C lr_d_M_pinsOf_16 rfl 3 rfl ?_
      obtain ⟨hb2, h⟩ := lr_gd h
      refine lr_li41 (pc := 17) C lr_d_M_pinsOf_17 hb2 ?_
      refine lr_bipush (pc := 18) (v := 8) C lr_d_M_pinsOf_18 (by decide) ?_
      refine lr_idiv (pc := 20) C lr_d_M_pinsOf_20 (by decide) ?_
      refine lr_iload_n (pc := 21) C lr_d_M_pinsOf_21 rfl 1 rfl ?_
      refine lr_icmp_ne (pc := 22) (tgt := 39) C lr_d_M_pinsOf_22 (by decide) (fun hc3 => ?_) (fun hc3 => ?_)
      · have h := lr_ng hc3 h
        refine lr_iload_n (pc := 39) C lr_d_M_pinsOf_39 rfl 2 rfl ?_
        refine lr_istore_n (pc := 40) (ls' := [(2, .inl x2), (0, .inr (20, 0)), (1, .inl a1), (3, .inl x3)]) C lr_d_M_pinsOf_40 rfl (by decide) rfl ?_
        refine lr_iinc (pc := 41) (v := (x3 + 1)) (ls' := [(3, .inl (x3 + 1)), (2, .inl x2), (0, .inr (20, 0)), (1, .inl a1)]) C lr_d_M_pinsOf_41 3 rfl rfl (by decide) rfl ?_
        refine lr_goto (pc := 44) (tgt := 4) C lr_d_M_pinsOf_44 (by decide) ?_
        refine lr_sub (ls' := [(0, .inr (20, 0)), (1, .inl a1), (2, .inl x2), (3, .inl (x3 + 1))]) C [2, 3, 1, 0] rfl ?_
        exact ih x2 (x3 + 1) t o h kx
      · have h := lr_ps hc3 h
        refine lr_aload_n (pc := 25) C lr_d_M_pinsOf_25 rfl 0 rfl ?_
        refine lr_iload_n (pc := 26) C lr_d_M_pinsOf_26 rfl 3 rfl ?_
        obtain ⟨u4, hu5, h⟩ := lr_bd h
        refine lr_callVi (pc := 27) (as := [.inl x3]) (st := []) (fs := fun ad => lr_fs7 t 0 ad) C (lr_r_M_pinned hu5) lr_c7_143 lr_d_M_pinsOf_27 rfl rfl (fun _ _ => rfl) (ci := 7) rfl rfl ⟨by decide, by decide⟩ (Nat.le_of_ble_eq_true rfl) ?_
        refine lr_if_eq (pc := 30) (tgt := 39) C lr_d_M_pinsOf_30 (by decide) (fun hc6 => ?_) (fun hc6 => ?_)
        · have h := lr_ps hc6 h
          refine lr_iload_n (pc := 39) C lr_d_M_pinsOf_39 rfl 2 rfl ?_
          refine lr_istore_n (pc := 40) (ls' := [(2, .inl x2), (0, .inr (20, 0)), (1, .inl a1), (3, .inl x3)]) C lr_d_M_pinsOf_40 rfl (by decide) rfl ?_
          refine lr_iinc (pc := 41) (v := (x3 + 1)) (ls' := [(3, .inl (x3 + 1)), (2, .inl x2), (0, .inr (20, 0)), (1, .inl a1)]) C lr_d_M_pinsOf_41 3 rfl rfl (by decide) rfl ?_
          refine lr_goto (pc := 44) (tgt := 4) C lr_d_M_pinsOf_44 (by decide) ?_
          refine lr_sub (ls' := [(0, .inr (20, 0)), (1, .inl a1), (2, .inl x2), (3, .inl (x3 + 1))]) C [2, 3, 1, 0] rfl ?_
          exact ih x2 (x3 + 1) u4.2 o h kx
        · have h := lr_ng hc6 h
          refine lr_iload_n (pc := 33) C lr_d_M_pinsOf_33 rfl 2 rfl ?_
          refine lr_iconst (pc := 34) (v := 1) C lr_d_M_pinsOf_34 (by decide) ?_
          refine lr_iadd (pc := 35) C lr_d_M_pinsOf_35 ?_
          refine lr_goto (pc := 36) (tgt := 40) C lr_d_M_pinsOf_36 (by decide) ?_
          refine lr_istore_n (pc := 40) (ls' := [(2, .inl (x2 + (1 : Int32))), (0, .inr (20, 0)), (1, .inl a1), (3, .inl x3)]) C lr_d_M_pinsOf_40 rfl (by decide) rfl ?_
          refine lr_iinc (pc := 41) (v := (x3 + 1)) (ls' := [(3, .inl (x3 + 1)), (2, .inl (x2 + (1 : Int32))), (0, .inr (20, 0)), (1, .inl a1)]) C lr_d_M_pinsOf_41 3 rfl rfl (by decide) rfl ?_
          refine lr_goto (pc := 44) (tgt := 4) C lr_d_M_pinsOf_44 (by decide) ?_
          refine lr_sub (ls' := [(0, .inr (20, 0)), (1, .inl a1), (2, .inl (x2 + (1 : Int32))), (3, .inl (x3 + 1))]) C [2, 3, 1, 0] rfl ?_
          exact ih (x2 + (1 : Int32)) (x3 + 1) u4.2 o h kx
def lr_G_M_pinsOf (a1 : Int32) (t : lr_S) : Option (Int32 × lr_S) := (lr_L_M_pinsOf_4 a1 600 (0 : Int32) (0 : Int32) t).bind fun u7 => (some (u7.1, u7.2.2))
set_option maxHeartbeats 4000000 in
theorem lr_r_M_pinsOf {a1 : Int32} {t : lr_S} {o : Int32 × lr_S} (h : lr_G_M_pinsOf a1 t = some o) : lr_RI 20 60 lr_m_M_pinsOf [.inr (20, 0), .inl a1] t o.1 o.2 := by
  refine lr_ofI (ty := .int) (own := lr_R7) (by decide) rfl rfl (Nat.le_of_ble_eq_true rfl) (fun X C E => ?_)
  show lr_T X 0 [(0, .inr (20, 0)), (1, .inl a1)] [] t
  have h := (show ((lr_L_M_pinsOf_4 a1 600 (0 : Int32) (0 : Int32) t).bind fun u7 => (some (u7.1, u7.2.2))) = some o from h)
  refine lr_iconst (pc := 0) (v := 0) C lr_d_M_pinsOf_0 (by decide) ?_
  refine lr_istore_n (pc := 1) (ls' := [(2, .inl (0 : Int32)), (0, .inr (20, 0)), (1, .inl a1)]) C lr_d_M_pinsOf_1 rfl (by decide) rfl ?_
  refine lr_iconst (pc := 2) (v := 0) C lr_d_M_pinsOf_2 (by decide) ?_
  refine lr_istore_n (pc := 3) (ls' := [(3, .inl (0 : Int32)), (2, .inl (0 : Int32)), (0, .inr (20, 0)), (1, .inl a1)]) C lr_d_M_pinsOf_3 rfl (by decide) rfl ?_
  refine lr_sub (ls' := [(0, .inr (20, 0)), (1, .inl a1), (2, .inl (0 : Int32)), (3, .inl (0 : Int32))]) C [2, 3, 1, 0] rfl ?_
  obtain ⟨u7, hu8, h⟩ := lr_bd h
  refine lr_t_M_pinsOf_4 C a1 600 (0 : Int32) (0 : Int32) t u7 hu8 ?_
  refine lr_iload_n (pc := 47) C lr_d_M_pinsOf_47 rfl 2 rfl ?_
  have e := Option.some.inj h
  subst e
  exact lr_iret C E lr_d_M_pinsOf_48 rfl
