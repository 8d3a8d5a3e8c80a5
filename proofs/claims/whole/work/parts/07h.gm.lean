def lr_L_M_collect_19 (a1 : Int32) : Nat → Int32 → Int32 → lr_S → Option (Int32 × Int32 × lr_S)
  | 0, _, _, _ => none
  | f + 1, x2, x3, t => if (8 : Int32) ≤ x3 then (some (x2, x3, t)) else (if lr_in (((8 : Int32) * a1) + x3) 32 = true then (if (lr_rd t 24 0 (((8 : Int32) * a1) + x3).toNatClampNeg) = 0 then (lr_L_M_collect_19 a1 f x2 (x3 + 1) t) else (if lr_in x3 8 = true then (if (lr_rd t 55 0 x3.toNatClampNeg) = 0 then (if (lr_rd t 24 0 (((8 : Int32) * a1) + x3).toNatClampNeg) = (2 : Int32) then ((lr_G_M_nextNumber a1 t).bind fun u12 => ((lr_G_M_send (5 : Int32) a1 (lr_rd u12.2 30 0 (((8 : Int32) * a1) + x3).toNatClampNeg) (lr_rd u12.2 25 0 (((8 : Int32) * a1) + x3).toNatClampNeg) u12.1 (0 : Int32) u12.2).bind fun u14 => (lr_L_M_collect_19 a1 f (x2 + 1) (x3 + 1) (lr_wr u14 24 0 (((8 : Int32) * a1) + x3).toNatClampNeg (0 : Int32))))) else (lr_L_M_collect_19 a1 f (x2 + 1) (x3 + 1) (lr_wr t 24 0 (((8 : Int32) * a1) + x3).toNatClampNeg (0 : Int32)))) else (lr_L_M_collect_19 a1 f x2 (x3 + 1) t)) else none)) else none)
set_option maxHeartbeats 4000000 in
theorem lr_t_M_collect_19 {X : lr_X} (C : lr_C X lr_m_M_collect.2.1 lr_R7 lr_m_M_collect.2.2.1 lr_m_M_collect.2.2.2.2.1 lr_m_M_collect.2.2.2.2.2 20 60) (a1 : Int32) : ∀ (f : Nat) (x2 : Int32) (x3 : Int32) (t : lr_S) (o : Int32 × Int32 × lr_S), lr_L_M_collect_19 a1 f x2 x3 t = some o → (lr_T X 110 [(0, .inr (20, 0)), (1, .inl a1), (2, .inl o.1), (3, .inl o.2.1)] [] o.2.2) → lr_T X 19 [(0, .inr (20, 0)), (1, .inl a1), (2, .inl x2), (3, .inl x3)] [] t := by
  intro f
  induction f with
  | zero => intro x2 x3 t o h; cases h
  | succ f ih =>
    intro x2 x3 t o h kx
    have h := (show (if (8 : Int32) ≤ x3 then (some (x2, x3, t)) else (if lr_in (((8 : Int32) * a1) + x3) 32 = true then (if (lr_rd t 24 0 (((8 : Int32) * a1) + x3).toNatClampNeg) = 0 then (lr_L_M_collect_19 a1 f x2 (x3 + 1) t) else (if lr_in x3 8 = true then (if (lr_rd t 55 0 x3.toNatClampNeg) = 0 then (if (lr_rd t 24 0 (((8 : Int32) * a1) + x3).toNatClampNeg) = (2 : Int32) then ((lr_G_M_nextNumber a1 t).bind fun u12 => ((lr_G_M_send (5 : Int32) a1 (lr_rd u12.2 30 0 (((8 : Int32) * a1) + x3).toNatClampNeg) (lr_rd u12.2 25 0 (((8 : Int32) * a1) + x3).toNatClampNeg) u12.1 (0 : Int32) u12.2).bind fun u14 => (lr_L_M_collect_19 a1 f (x2 + 1) (x3 + 1) (lr_wr u14 24 0 (((8 : Int32) * a1) + x3).toNatClampNeg (0 : Int32))))) else (lr_L_M_collect_19 a1 f (x2 + 1) (x3 + 1) (lr_wr t 24 0 (((8 : Int32) * a1) + x3).toNatClampNeg (0 : Int32)))) else (lr_L_M_collect_19 a1 f x2 (x3 + 1) t)) else none)) else none)) = some o from h)
    refine lr_iload_n (pc := 19) C lr_d_M_collect_19 rfl 3 rfl ?_
    refine lr_bipush (pc := 20) (v := 8) C lr_d_M_collect_20 (by decide) ?_
    refine lr_icmp_ge (pc := 22) (tgt := 110) C lr_d_M_collect_22 (by decide) (fun hc6 => ?_) (fun hc6 => ?_)
    · have h := lr_ps hc6 h
      refine lr_sub (ls' := [(0, .inr (20, 0)), (1, .inl a1), (2, .inl x2), (3, .inl x3)]) C [0, 1, 2, 3] rfl ?_
      have e := Option.some.inj h
      subst e
      exact kx
    · have h := lr_ng hc6 h
      refine lr_bipush (pc := 25) (v := 8) C lr_d_M_collect_25 (by decide) ?_
      refine lr_iload_n (pc := 27) C lr_d_M_collect_27 rfl 1 rfl ?_
      refine lr_imul (pc := 28) C lr_d_M_collect_28 ?_
      refine lr_iload_n (pc := 29) C lr_d_M_collect_29 rfl 3 rfl ?_
      refine lr_iadd (pc := 30) C lr_d_M_collect_30 ?_
      refine lr_istore (pc := 31) (ls' := [(4, .inl (((8 : Int32) * a1) + x3)), (0, .inr (20, 0)), (1, .inl a1), (2, .inl x2), (3, .inl x3)]) C lr_d_M_collect_31 (by decide) rfl ?_
      refine lr_aload_n (pc := 33) C lr_d_M_collect_33 rfl 1 rfl ?_
      refine lr_g7_20 (pc := 34) C lr_d_M_collect_34 ?_
      refine lr_iload (pc := 37) C lr_d_M_collect_37 0 rfl ?_
      obtain ⟨hb7, h⟩ := lr_gd h
      refine lr_li24 (pc := 39) C lr_d_M_collect_39 hb7 ?_
      refine lr_if_eq (pc := 40) (tgt := 104) C lr_d_M_collect_40 (by decide) (fun hc8 => ?_) (fun hc8 => ?_)
      · have h := lr_ps hc8 h
        refine lr_iinc (pc := 104) (v := (x3 + 1)) (ls' := [(3, .inl (x3 + 1)), (4, .inl (((8 : Int32) * a1) + x3)), (0, .inr (20, 0)), (1, .inl a1), (2, .inl x2)]) C lr_d_M_collect_104 4 rfl rfl (by decide) rfl ?_
        refine lr_goto (pc := 107) (tgt := 19) C lr_d_M_collect_107 (by decide) ?_
        refine lr_sub (ls' := [(0, .inr (20, 0)), (1, .inl a1), (2, .inl x2), (3, .inl (x3 + 1))]) C [2, 3, 4, 0] rfl ?_
        exact ih x2 (x3 + 1) t o h kx
      · have h := lr_ng hc8 h
        refine lr_aload_n (pc := 43) C lr_d_M_collect_43 rfl 1 rfl ?_
        refine lr_g7_104 (pc := 44) C lr_d_M_collect_44 ?_
        refine lr_iload_n (pc := 47) C lr_d_M_collect_47 rfl 4 rfl ?_
        obtain ⟨hb9, h⟩ := lr_gd h
        refine lr_lz55 (pc := 48) C lr_d_M_collect_48 hb9 ?_
        refine lr_if_ne (pc := 49) (tgt := 104) C lr_d_M_collect_49 (by decide) (fun hc10 => ?_) (fun hc10 => ?_)
        · have h := lr_ng hc10 h
          refine lr_iinc (pc := 104) (v := (x3 + 1)) (ls' := [(3, .inl (x3 + 1)), (4, .inl (((8 : Int32) * a1) + x3)), (0, .inr (20, 0)), (1, .inl a1), (2, .inl x2)]) C lr_d_M_collect_104 4 rfl rfl (by decide) rfl ?_
          refine lr_goto (pc := 107) (tgt := 19) C lr_d_M_collect_107 (by decide) ?_
          refine lr_sub (ls' := [(0, .inr (20, 0)), (1, .inl a1), (2, .inl x2), (3, .inl (x3 + 1))]) C [2, 3, 4, 0] rfl ?_
          exact ih x2 (x3 + 1) t o h kx
        · have h := lr_ps hc10 h
          refine lr_aload_n (pc := 52) C lr_d_M_collect_52 rfl 1 rfl ?_
          refine lr_g7_20 (pc := 53) C lr_d_M_collect_53 ?_
          refine lr_iload (pc := 56) C lr_d_M_collect_56 0 rfl ?_
          refine lr_li24 (pc := 58) C lr_d_M_collect_58 hb7 ?_
          refine lr_iconst (pc := 59) (v := 2) C lr_d_M_collect_59 (by decide) ?_
          refine lr_icmp_ne (pc := 60) (tgt := 93) C lr_d_M_collect_60 (by decide) (fun hc11 => ?_) (fun hc11 => ?_)
          · have h := lr_ng hc11 h
            refine lr_aload_n (pc := 93) C lr_d_M_collect_93 rfl 1 rfl ?_
            refine lr_g7_20 (pc := 94) C lr_d_M_collect_94 ?_
            refine lr_iload (pc := 97) C lr_d_M_collect_97 0 rfl ?_
            refine lr_iconst (pc := 99) (v := 0) C lr_d_M_collect_99 (by decide) ?_
            refine lr_si24 (pc := 100) C lr_d_M_collect_100 hb7 ?_
            refine lr_iinc (pc := 101) (v := (x2 + 1)) (ls' := [(2, .inl (x2 + 1)), (4, .inl (((8 : Int32) * a1) + x3)), (0, .inr (20, 0)), (1, .inl a1), (3, .inl x3)]) C lr_d_M_collect_101 3 rfl rfl (by decide) rfl ?_
            refine lr_iinc (pc := 104) (v := (x3 + 1)) (ls' := [(3, .inl (x3 + 1)), (2, .inl (x2 + 1)), (4, .inl (((8 : Int32) * a1) + x3)), (0, .inr (20, 0)), (1, .inl a1)]) C lr_d_M_collect_104 4 rfl rfl (by decide) rfl ?_
            refine lr_goto (pc := 107) (tgt := 19) C lr_d_M_collect_107 (by decide) ?_
            refine lr_sub (ls' := [(0, .inr (20, 0)), (1, .inl a1), (2, .inl (x2 + 1)), (3, .inl (x3 + 1))]) C [3, 4, 1, 0] rfl ?_
            exact ih (x2 + 1) (x3 + 1) (lr_wr t 24 0 (((8 : Int32) * a1) + x3).toNatClampNeg (0 : Int32)) o h kx
          · have h := lr_ps hc11 h
            refine lr_aload_n (pc := 63) C lr_d_M_collect_63 rfl 1 rfl ?_
            refine lr_iload_n (pc := 64) C lr_d_M_collect_64 rfl 2 rfl ?_
            obtain ⟨u12, hu13, h⟩ := lr_bd h
            refine lr_callVi (pc := 65) (as := [.inl a1]) (st := []) (fs := fun ad => lr_fs7 t 0 ad) C (lr_r_M_nextNumber hu13) lr_c7_122 lr_d_M_collect_65 rfl rfl (fun _ _ => rfl) (ci := 7) rfl rfl ⟨by decide, by decide⟩ (Nat.le_of_ble_eq_true rfl) ?_
            refine lr_istore (pc := 68) (ls' := [(5, .inl u12.1), (4, .inl (((8 : Int32) * a1) + x3)), (0, .inr (20, 0)), (1, .inl a1), (2, .inl x2), (3, .inl x3)]) C lr_d_M_collect_68 (by decide) rfl ?_
            refine lr_aload_n (pc := 70) C lr_d_M_collect_70 rfl 2 rfl ?_
            refine lr_iconst (pc := 71) (v := 5) C lr_d_M_collect_71 (by decide) ?_
            refine lr_iload_n (pc := 72) C lr_d_M_collect_72 rfl 3 rfl ?_
            refine lr_aload_n (pc := 73) C lr_d_M_collect_73 rfl 2 rfl ?_
            refine lr_g7_38 (pc := 74) C lr_d_M_collect_74 ?_
            refine lr_iload (pc := 77) C lr_d_M_collect_77 1 rfl ?_
            refine lr_li30 (pc := 79) C lr_d_M_collect_79 hb7 ?_
            refine lr_aload_n (pc := 80) C lr_d_M_collect_80 rfl 2 rfl ?_
            refine lr_g7_23 (pc := 81) C lr_d_M_collect_81 ?_
            refine lr_iload (pc := 84) C lr_d_M_collect_84 1 rfl ?_
            refine lr_li25 (pc := 86) C lr_d_M_collect_86 hb7 ?_
            refine lr_iload (pc := 87) C lr_d_M_collect_87 0 rfl ?_
            refine lr_iconst (pc := 89) (v := 0) C lr_d_M_collect_89 (by decide) ?_
            obtain ⟨u14, hu15, h⟩ := lr_bd h
            refine lr_callVv (pc := 90) (as := [.inl (5 : Int32), .inl a1, .inl (lr_rd u12.2 30 0 (((8 : Int32) * a1) + x3).toNatClampNeg), .inl (lr_rd u12.2 25 0 (((8 : Int32) * a1) + x3).toNatClampNeg), .inl u12.1, .inl (0 : Int32)]) (st := []) (fs := fun ad => lr_fs7 u12.2 0 ad) C (lr_r_M_send hu15) lr_c7_126 lr_d_M_collect_90 rfl rfl (fun _ _ => rfl) (ci := 7) rfl rfl ⟨by decide, by decide⟩ (Nat.le_of_ble_eq_true rfl) ?_
            refine lr_aload_n (pc := 93) C lr_d_M_collect_93 rfl 2 rfl ?_
            refine lr_g7_20 (pc := 94) C lr_d_M_collect_94 ?_
            refine lr_iload (pc := 97) C lr_d_M_collect_97 1 rfl ?_
            refine lr_iconst (pc := 99) (v := 0) C lr_d_M_collect_99 (by decide) ?_
            refine lr_si24 (pc := 100) C lr_d_M_collect_100 hb7 ?_
            refine lr_iinc (pc := 101) (v := (x2 + 1)) (ls' := [(2, .inl (x2 + 1)), (5, .inl u12.1), (4, .inl (((8 : Int32) * a1) + x3)), (0, .inr (20, 0)), (1, .inl a1), (3, .inl x3)]) C lr_d_M_collect_101 4 rfl rfl (by decide) rfl ?_
            refine lr_iinc (pc := 104) (v := (x3 + 1)) (ls' := [(3, .inl (x3 + 1)), (2, .inl (x2 + 1)), (5, .inl u12.1), (4, .inl (((8 : Int32) * a1) + x3)), (0, .inr (20, 0)), (1, .inl a1)]) C lr_d_M_collect_104 5 rfl rfl (by decide) rfl ?_
            refine lr_goto (pc := 107) (tgt := 19) C lr_d_M_collect_107 (by decide) ?_
            refine lr_sub (ls' := [(0, .inr (20, 0)), (1, .inl a1), (2, .inl (x2 + 1)), (3, .inl (x3 + 1))]) C [4, 5, 1, 0] rfl ?_
            exact ih (x2 + 1) (x3 + 1) (lr_wr u14 24 0 (((8 : Int32) * a1) + x3).toNatClampNeg (0 : Int32)) o h kx
def lr_G_M_collect (a1 : Int32) (t : lr_S) : Option (Int32 × lr_S) := (lr_G_M_lives a1 t).bind fun u1 => (if u1.1 = 0 then (some ((-1 : Int32), u1.2)) else ((lr_G_M_mark a1 u1.2).bind fun u4 => ((lr_L_M_collect_19 a1 600 (0 : Int32) (0 : Int32) u4).bind fun u16 => (some (u16.1, u16.2.2)))))
set_option maxHeartbeats 4000000 in
theorem lr_r_M_collect {a1 : Int32} {t : lr_S} {o : Int32 × lr_S} (h : lr_G_M_collect a1 t = some o) : lr_RI 20 60 lr_m_M_collect [.inr (20, 0), .inl a1] t o.1 o.2 := by
  refine lr_ofI (ty := .int) (own := lr_R7) (by decide) rfl rfl (Nat.le_of_ble_eq_true rfl) (fun X C E => ?_)
  show lr_T X 0 [(0, .inr (20, 0)), (1, .inl a1)] [] t
  have h := (show ((lr_G_M_lives a1 t).bind fun u1 => (if u1.1 = 0 then (some ((-1 : Int32), u1.2)) else ((lr_G_M_mark a1 u1.2).bind fun u4 => ((lr_L_M_collect_19 a1 600 (0 : Int32) (0 : Int32) u4).bind fun u16 => (some (u16.1, u16.2.2)))))) = some o from h)
  refine lr_aload_n (pc := 0) C lr_d_M_collect_0 rfl 0 rfl ?_
  refine lr_iload_n (pc := 1) C lr_d_M_collect_1 rfl 1 rfl ?_
  obtain ⟨u1, hu2, h⟩ := lr_bd h
  refine lr_callVi (pc := 2) (as := [.inl a1]) (st := []) (fs := fun ad => lr_fs7 t 0 ad) C (lr_r_M_lives hu2) lr_c7_115 lr_d_M_collect_2 rfl rfl (fun _ _ => rfl) (ci := 7) rfl rfl ⟨by decide, by decide⟩ (Nat.le_of_ble_eq_true rfl) ?_
  refine lr_if_ne (pc := 5) (tgt := 10) C lr_d_M_collect_5 (by decide) (fun hc3 => ?_) (fun hc3 => ?_)
  · have h := lr_ng hc3 h
    refine lr_aload_n (pc := 10) C lr_d_M_collect_10 rfl 0 rfl ?_
    refine lr_iload_n (pc := 11) C lr_d_M_collect_11 rfl 1 rfl ?_
    obtain ⟨u4, hu5, h⟩ := lr_bd h
    refine lr_callVv (pc := 12) (as := [.inl a1]) (st := []) (fs := fun ad => lr_fs7 u1.2 0 ad) C (lr_r_M_mark hu5) lr_c7_168 lr_d_M_collect_12 rfl rfl (fun _ _ => rfl) (ci := 7) rfl rfl ⟨by decide, by decide⟩ (Nat.le_of_ble_eq_true rfl) ?_
    refine lr_iconst (pc := 15) (v := 0) C lr_d_M_collect_15 (by decide) ?_
    refine lr_istore_n (pc := 16) (ls' := [(2, .inl (0 : Int32)), (0, .inr (20, 0)), (1, .inl a1)]) C lr_d_M_collect_16 rfl (by decide) rfl ?_
    refine lr_iconst (pc := 17) (v := 0) C lr_d_M_collect_17 (by decide) ?_
    refine lr_istore_n (pc := 18) (ls' := [(3, .inl (0 : Int32)), (2, .inl (0 : Int32)), (0, .inr (20, 0)), (1, .inl a1)]) C lr_d_M_collect_18 rfl (by decide) rfl ?_
    refine lr_sub (ls' := [(0, .inr (20, 0)), (1, .inl a1), (2, .inl (0 : Int32)), (3, .inl (0 : Int32))]) C [2, 3, 1, 0] rfl ?_
    obtain ⟨u16, hu17, h⟩ := lr_bd h
    refine lr_t_M_collect_19 C a1 600 (0 : Int32) (0 : Int32) u4 u16 hu17 ?_
    refine lr_iload_n (pc := 110) C lr_d_M_collect_110 rfl 2 rfl ?_
    have e := Option.some.inj h
    subst e
    exact lr_iret C E lr_d_M_collect_111 rfl
  · have h := lr_ps hc3 h
    refine lr_iconst (pc := 8) (v := -1) C lr_d_M_collect_8 (by decide) ?_
    have e := Option.some.inj h
    subst e
    exact lr_iret C E lr_d_M_collect_9 rfl
def lr_G_M_crash (a1 : Int32) (t : lr_S) : Option (Int32 × lr_S) := (lr_G_M_lives a1 t).bind fun u1 => (if u1.1 = 0 then (some ((0 : Int32), u1.2)) else (if lr_in a1 4 = true then (some ((1 : Int32), (lr_wr u1.2 21 0 a1.toNatClampNeg (vp_nar .boolean (1 : Int32))))) else none))
set_option maxHeartbeats 4000000 in
theorem lr_r_M_crash {a1 : Int32} {t : lr_S} {o : Int32 × lr_S} (h : lr_G_M_crash a1 t = some o) : lr_RI 20 60 lr_m_M_crash [.inr (20, 0), .inl a1] t o.1 o.2 := by
  refine lr_ofI (ty := .boolean) (own := lr_R7) (by decide) rfl rfl (Nat.le_of_ble_eq_true rfl) (fun X C E => ?_)
  show lr_T X 0 [(0, .inr (20, 0)), (1, .inl a1)] [] t
  have h := (show ((lr_G_M_lives a1 t).bind fun u1 => (if u1.1 = 0 then (some ((0 : Int32), u1.2)) else (if lr_in a1 4 = true then (some ((1 : Int32), (lr_wr u1.2 21 0 a1.toNatClampNeg (vp_nar .boolean (1 : Int32))))) else none))) = some o from h)
  refine lr_aload_n (pc := 0) C lr_d_M_crash_0 rfl 0 rfl ?_
  refine lr_iload_n (pc := 1) C lr_d_M_crash_1 rfl 1 rfl ?_
  obtain ⟨u1, hu2, h⟩ := lr_bd h
  refine lr_callVi (pc := 2) (as := [.inl a1]) (st := []) (fs := fun ad => lr_fs7 t 0 ad) C (lr_r_M_lives hu2) lr_c7_115 lr_d_M_crash_2 rfl rfl (fun _ _ => rfl) (ci := 7) rfl rfl ⟨by decide, by decide⟩ (Nat.le_of_ble_eq_true rfl) ?_
  refine lr_if_ne (pc := 5) (tgt := 10) C lr_d_M_crash_5 (by decide) (fun hc3 => ?_) (fun hc3 => ?_)
  · have h := lr_ng hc3 h
    refine lr_aload_n (pc := 10) C lr_d_M_crash_10 rfl 0 rfl ?_
    refine lr_g7_7 (pc := 11) C lr_d_M_crash_11 ?_
    refine lr_iload_n (pc := 14) C lr_d_M_crash_14 rfl 1 rfl ?_
    refine lr_iconst (pc := 15) (v := 1) C lr_d_M_crash_15 (by decide) ?_
    obtain ⟨hb4, h⟩ := lr_gd h
    refine lr_sz21 (pc := 16) C lr_d_M_crash_16 hb4 ?_
    refine lr_iconst (pc := 17) (v := 1) C lr_d_M_crash_17 (by decide) ?_
    have e := Option.some.inj h
    subst e
    exact lr_iret C E lr_d_M_crash_18 (by decide)
  · have h := lr_ps hc3 h
    refine lr_iconst (pc := 8) (v := 0) C lr_d_M_crash_8 (by decide) ?_
    have e := Option.some.inj h
    subst e
    exact lr_iret C E lr_d_M_crash_9 (by decide)
def lr_L_M_takeOut_5 (a1 : Int32) : Nat → Int32 → lr_S → Option (Int32 × lr_S)
  | 0, _, _ => none
  | f + 1, x2, t => if (((6 : Int32) * (lr_rd t 20 0 19)) - (6 : Int32)) ≤ x2 then (some (x2, t)) else (if lr_in (x2 + (6 : Int32)) 192 = true then (if lr_in x2 192 = true then (lr_L_M_takeOut_5 a1 f (x2 + 1) (lr_wr t 38 0 x2.toNatClampNeg (lr_rd t 38 0 (x2 + (6 : Int32)).toNatClampNeg))) else none) else none)
set_option maxHeartbeats 4000000 in
theorem lr_t_M_takeOut_5 {X : lr_X} (C : lr_C X lr_m_M_takeOut.2.1 lr_R7 lr_m_M_takeOut.2.2.1 lr_m_M_takeOut.2.2.2.2.1 lr_m_M_takeOut.2.2.2.2.2 20 60) (a1 : Int32) : ∀ (f : Nat) (x2 : Int32) (t : lr_S) (o : Int32 × lr_S), lr_L_M_takeOut_5 a1 f x2 t = some o → (lr_T X 40 [(0, .inr (20, 0)), (1, .inl a1), (2, .inl o.1)] [] o.2) → lr_T X 5 [(0, .inr (20, 0)), (1, .inl a1), (2, .inl x2)] [] t := by
  intro f
  induction f with
  | zero => intro x2 t o h; cases h
  | succ f ih =>
    intro x2 t o h kx
    have h := (show (if (((6 : Int32) * (lr_rd t 20 0 19)) - (6 : Int32)) ≤ x2 then (some (x2, t)) else (if lr_in (x2 + (6 : Int32)) 192 = true then (if lr_in x2 192 = true then (lr_L_M_takeOut_5 a1 f (x2 + 1) (lr_wr t 38 0 x2.toNatClampNeg (lr_rd t 38 0 (x2 + (6 : Int32)).toNatClampNeg))) else none) else none)) = some o from h)
    refine lr_iload_n (pc := 5) C lr_d_M_takeOut_5 rfl 2 rfl ?_
    refine lr_bipush (pc := 6) (v := 6) C lr_d_M_takeOut_6 (by decide) ?_
    refine lr_aload_n (pc := 8) C lr_d_M_takeOut_8 rfl 0 rfl ?_
    refine lr_g7_111 (pc := 9) C lr_d_M_takeOut_9 ?_
    refine lr_imul (pc := 12) C lr_d_M_takeOut_12 ?_
    refine lr_bipush (pc := 13) (v := 6) C lr_d_M_takeOut_13 (by decide) ?_
    refine lr_isub (pc := 15) C lr_d_M_takeOut_15 ?_
    refine lr_icmp_ge (pc := 16) (tgt := 40) C lr_d_M_takeOut_16 (by decide) (fun hc1 => ?_) (fun hc1 => ?_)
    · have h := lr_ps hc1 h
      refine lr_sub (ls' := [(0, .inr (20, 0)), (1, .inl a1), (2, .inl x2)]) C [0, 1, 2] rfl ?_
      have e := Option.some.inj h
      subst e
      exact kx
    · have h := lr_ng hc1 h
      refine lr_aload_n (pc := 19) C lr_d_M_takeOut_19 rfl 0 rfl ?_
      refine lr_g7_59 (pc := 20) C lr_d_M_takeOut_20 ?_
      refine lr_iload_n (pc := 23) C lr_d_M_takeOut_23 rfl 2 rfl ?_
      refine lr_aload_n (pc := 24) C lr_d_M_takeOut_24 rfl 0 rfl ?_
      refine lr_g7_59 (pc := 25) C lr_d_M_takeOut_25 ?_
      refine lr_iload_n (pc := 28) C lr_d_M_takeOut_28 rfl 2 rfl ?_
      refine lr_bipush (pc := 29) (v := 6) C lr_d_M_takeOut_29 (by decide) ?_
      refine lr_iadd (pc := 31) C lr_d_M_takeOut_31 ?_
      obtain ⟨hb2, h⟩ := lr_gd h
      refine lr_li38 (pc := 32) C lr_d_M_takeOut_32 hb2 ?_
      obtain ⟨hb3, h⟩ := lr_gd h
      refine lr_si38 (pc := 33) C lr_d_M_takeOut_33 hb3 ?_
      refine lr_iinc (pc := 34) (v := (x2 + 1)) (ls' := [(2, .inl (x2 + 1)), (0, .inr (20, 0)), (1, .inl a1)]) C lr_d_M_takeOut_34 2 rfl rfl (by decide) rfl ?_
      refine lr_goto (pc := 37) (tgt := 5) C lr_d_M_takeOut_37 (by decide) ?_
      refine lr_sub (ls' := [(0, .inr (20, 0)), (1, .inl a1), (2, .inl (x2 + 1))]) C [1, 2, 0] rfl ?_
      exact ih (x2 + 1) (lr_wr t 38 0 x2.toNatClampNeg (lr_rd t 38 0 (x2 + (6 : Int32)).toNatClampNeg)) o h kx
def lr_G_M_takeOut (a1 : Int32) (t : lr_S) : Option (lr_S) := (lr_L_M_takeOut_5 a1 600 ((6 : Int32) * a1) t).bind fun u4 => (some (lr_wr u4.2 20 0 19 ((lr_rd u4.2 20 0 19) - (1 : Int32))))
set_option maxHeartbeats 4000000 in
theorem lr_r_M_takeOut {a1 : Int32} {t o : lr_S} (h : lr_G_M_takeOut a1 t = some o) : lr_RV 20 60 lr_m_M_takeOut [.inr (20, 0), .inl a1] t o := by
  refine lr_ofV (own := lr_R7) (by decide) rfl rfl (Nat.le_of_ble_eq_true rfl) (fun X C E => ?_)
  show lr_T X 0 [(0, .inr (20, 0)), (1, .inl a1)] [] t
  have h := (show ((lr_L_M_takeOut_5 a1 600 ((6 : Int32) * a1) t).bind fun u4 => (some (lr_wr u4.2 20 0 19 ((lr_rd u4.2 20 0 19) - (1 : Int32))))) = some o from h)
  refine lr_bipush (pc := 0) (v := 6) C lr_d_M_takeOut_0 (by decide) ?_
  refine lr_iload_n (pc := 2) C lr_d_M_takeOut_2 rfl 1 rfl ?_
  refine lr_imul (pc := 3) C lr_d_M_takeOut_3 ?_
  refine lr_istore_n (pc := 4) (ls' := [(2, .inl ((6 : Int32) * a1)), (0, .inr (20, 0)), (1, .inl a1)]) C lr_d_M_takeOut_4 rfl (by decide) rfl ?_
  refine lr_sub (ls' := [(0, .inr (20, 0)), (1, .inl a1), (2, .inl ((6 : Int32) * a1))]) C [1, 2, 0] rfl ?_
  obtain ⟨u4, hu5, h⟩ := lr_bd h
  refine lr_t_M_takeOut_5 C a1 600 ((6 : Int32) * a1) t u4 hu5 ?_
  refine lr_aload_n (pc := 40) C lr_d_M_takeOut_40 rfl 0 rfl ?_
  refine lr_dup (pc := 41) C lr_d_M_takeOut_41 ?_
  refine lr_g7_111 (pc := 42) C lr_d_M_takeOut_42 ?_
  refine lr_iconst (pc := 45) (v := 1) C lr_d_M_takeOut_45 (by decide) ?_
  refine lr_isub (pc := 46) C lr_d_M_takeOut_46 ?_
  refine lr_p7_111 (pc := 47) C lr_d_M_takeOut_47 ?_
  have e := Option.some.inj h
  subst e
  exact lr_vret C E lr_d_M_takeOut_50
