def lr_L_M_listed_4 (a1 : Int32) : Nat → Int32 → Int32 → lr_S → Option (Int32 × Int32 × lr_S)
  | 0, _, _, _ => none
  | f + 1, x2, x3, t => if (4 : Int32) ≤ x3 then (some (x2, x3, t)) else (if x2 = 0 then (if lr_in (((4 : Int32) * a1) + x3) 128 = true then (if (lr_rd t 29 0 (((4 : Int32) * a1) + x3).toNatClampNeg) ≤ (lr_rd t 20 0 0) then (lr_L_M_listed_4 a1 f (0 : Int32) (x3 + 1) t) else (lr_L_M_listed_4 a1 f (1 : Int32) (x3 + 1) t)) else none) else (lr_L_M_listed_4 a1 f (1 : Int32) (x3 + 1) t))
set_option maxHeartbeats 4000000 in
theorem lr_t_M_listed_4 {X : lr_X} (C : lr_C X lr_m_M_listed.2.1 lr_R7 lr_m_M_listed.2.2.1 lr_m_M_listed.2.2.2.2.1 lr_m_M_listed.2.2.2.2.2 20 60) (a1 : Int32) : ∀ (f : Nat) (x2 : Int32) (x3 : Int32) (t : lr_S) (o : Int32 × Int32 × lr_S), lr_L_M_listed_4 a1 f x2 x3 t = some o → (lr_T X 42 [(0, .inr (20, 0)), (1, .inl a1), (2, .inl o.1), (3, .inl o.2.1)] [] o.2.2) → lr_T X 4 [(0, .inr (20, 0)), (1, .inl a1), (2, .inl x2), (3, .inl x3)] [] t := by
  intro f
  induction f with
  | zero => intro x2 x3 t o h; cases h
  | succ f ih =>
    intro x2 x3 t o h kx
    have h := (show (if (4 : Int32) ≤ x3 then (some (x2, x3, t)) else (if x2 = 0 then (if lr_in (((4 : Int32) * a1) + x3) 128 = true then (if (lr_rd t 29 0 (((4 : Int32) * a1) + x3).toNatClampNeg) ≤ (lr_rd t 20 0 0) then (lr_L_M_listed_4 a1 f (0 : Int32) (x3 + 1) t) else (lr_L_M_listed_4 a1 f (1 : Int32) (x3 + 1) t)) else none) else (lr_L_M_listed_4 a1 f (1 : Int32) (x3 + 1) t))) = some o from h)
    refine lr_iload_n (pc := 4) C lr_d_M_listed_4 rfl 3 rfl ?_
    refine lr_iconst (pc := 5) (v := 4) C lr_d_M_listed_5 (by decide) ?_
    refine lr_icmp_ge (pc := 6) (tgt := 42) C lr_d_M_listed_6 (by decide) (fun hc1 => ?_) (fun hc1 => ?_)
    · have h := lr_ps hc1 h
      refine lr_sub (ls' := [(0, .inr (20, 0)), (1, .inl a1), (2, .inl x2), (3, .inl x3)]) C [0, 1, 2, 3] rfl ?_
      have e := Option.some.inj h
      subst e
      exact kx
    · have h := lr_ng hc1 h
      refine lr_iload_n (pc := 9) C lr_d_M_listed_9 rfl 2 rfl ?_
      refine lr_if_ne (pc := 10) (tgt := 30) C lr_d_M_listed_10 (by decide) (fun hc2 => ?_) (fun hc2 => ?_)
      · have h := lr_ng hc2 h
        refine lr_iconst (pc := 30) (v := 1) C lr_d_M_listed_30 (by decide) ?_
        refine lr_goto (pc := 31) (tgt := 35) C lr_d_M_listed_31 (by decide) ?_
        refine lr_istore_n (pc := 35) (ls' := [(2, .inl (1 : Int32)), (0, .inr (20, 0)), (1, .inl a1), (3, .inl x3)]) C lr_d_M_listed_35 rfl (by decide) rfl ?_
        refine lr_iinc (pc := 36) (v := (x3 + 1)) (ls' := [(3, .inl (x3 + 1)), (2, .inl (1 : Int32)), (0, .inr (20, 0)), (1, .inl a1)]) C lr_d_M_listed_36 3 rfl rfl (by decide) rfl ?_
        refine lr_goto (pc := 39) (tgt := 4) C lr_d_M_listed_39 (by decide) ?_
        refine lr_sub (ls' := [(0, .inr (20, 0)), (1, .inl a1), (2, .inl (1 : Int32)), (3, .inl (x3 + 1))]) C [2, 3, 1, 0] rfl ?_
        exact ih (1 : Int32) (x3 + 1) t o h kx
      · have h := lr_ps hc2 h
        refine lr_aload_n (pc := 13) C lr_d_M_listed_13 rfl 0 rfl ?_
        refine lr_g7_35 (pc := 14) C lr_d_M_listed_14 ?_
        refine lr_iconst (pc := 17) (v := 4) C lr_d_M_listed_17 (by decide) ?_
        refine lr_iload_n (pc := 18) C lr_d_M_listed_18 rfl 1 rfl ?_
        refine lr_imul (pc := 19) C lr_d_M_listed_19 ?_
        refine lr_iload_n (pc := 20) C lr_d_M_listed_20 rfl 3 rfl ?_
        refine lr_iadd (pc := 21) C lr_d_M_listed_21 ?_
        obtain ⟨hb3, h⟩ := lr_gd h
        refine lr_li29 (pc := 22) C lr_d_M_listed_22 hb3 ?_
        refine lr_aload_n (pc := 23) C lr_d_M_listed_23 rfl 0 rfl ?_
        refine lr_g7_119 (pc := 24) C lr_d_M_listed_24 ?_
        refine lr_icmp_le (pc := 27) (tgt := 34) C lr_d_M_listed_27 (by decide) (fun hc4 => ?_) (fun hc4 => ?_)
        · have h := lr_ps hc4 h
          refine lr_iconst (pc := 34) (v := 0) C lr_d_M_listed_34 (by decide) ?_
          refine lr_istore_n (pc := 35) (ls' := [(2, .inl (0 : Int32)), (0, .inr (20, 0)), (1, .inl a1), (3, .inl x3)]) C lr_d_M_listed_35 rfl (by decide) rfl ?_
          refine lr_iinc (pc := 36) (v := (x3 + 1)) (ls' := [(3, .inl (x3 + 1)), (2, .inl (0 : Int32)), (0, .inr (20, 0)), (1, .inl a1)]) C lr_d_M_listed_36 3 rfl rfl (by decide) rfl ?_
          refine lr_goto (pc := 39) (tgt := 4) C lr_d_M_listed_39 (by decide) ?_
          refine lr_sub (ls' := [(0, .inr (20, 0)), (1, .inl a1), (2, .inl (0 : Int32)), (3, .inl (x3 + 1))]) C [2, 3, 1, 0] rfl ?_
          exact ih (0 : Int32) (x3 + 1) t o h kx
        · have h := lr_ng hc4 h
          refine lr_iconst (pc := 30) (v := 1) C lr_d_M_listed_30 (by decide) ?_
          refine lr_goto (pc := 31) (tgt := 35) C lr_d_M_listed_31 (by decide) ?_
          refine lr_istore_n (pc := 35) (ls' := [(2, .inl (1 : Int32)), (0, .inr (20, 0)), (1, .inl a1), (3, .inl x3)]) C lr_d_M_listed_35 rfl (by decide) rfl ?_
          refine lr_iinc (pc := 36) (v := (x3 + 1)) (ls' := [(3, .inl (x3 + 1)), (2, .inl (1 : Int32)), (0, .inr (20, 0)), (1, .inl a1)]) C lr_d_M_listed_36 3 rfl rfl (by decide) rfl ?_
          refine lr_goto (pc := 39) (tgt := 4) C lr_d_M_listed_39 (by decide) ?_
          refine lr_sub (ls' := [(0, .inr (20, 0)), (1, .inl a1), (2, .inl (1 : Int32)), (3, .inl (x3 + 1))]) C [2, 3, 1, 0] rfl ?_
          exact ih (1 : Int32) (x3 + 1) t o h kx
def lr_G_M_listed (a1 : Int32) (t : lr_S) : Option (Int32 × lr_S) := (lr_L_M_listed_4 a1 600 (0 : Int32) (0 : Int32) t).bind fun u5 => (if u5.1 = 0 ∨ u5.1 = 1 then some (u5.1, u5.2.2) else none)
set_option maxHeartbeats 4000000 in
theorem lr_r_M_listed {a1 : Int32} {t : lr_S} {o : Int32 × lr_S} (h : lr_G_M_listed a1 t = some o) : lr_RI 20 60 lr_m_M_listed [.inr (20, 0), .inl a1] t o.1 o.2 := by
  refine lr_ofI (ty := .boolean) (own := lr_R7) (by decide) rfl rfl (Nat.le_of_ble_eq_true rfl) (fun X C E => ?_)
  show lr_T X 0 [(0, .inr (20, 0)), (1, .inl a1)] [] t
  have h := (show ((lr_L_M_listed_4 a1 600 (0 : Int32) (0 : Int32) t).bind fun u5 => (if u5.1 = 0 ∨ u5.1 = 1 then some (u5.1, u5.2.2) else none)) = some o from h)
  refine lr_iconst (pc := 0) (v := 0) C lr_d_M_listed_0 (by decide) ?_
  refine lr_istore_n (pc := 1) (ls' := [(2, .inl (0 : Int32)), (0, .inr (20, 0)), (1, .inl a1)]) C lr_d_M_listed_1 rfl (by decide) rfl ?_
  refine lr_iconst (pc := 2) (v := 0) C lr_d_M_listed_2 (by decide) ?_
  refine lr_istore_n (pc := 3) (ls' := [(3, .inl (0 : Int32)), (2, .inl (0 : Int32)), (0, .inr (20, 0)), (1, .inl a1)]) C lr_d_M_listed_3 rfl (by decide) rfl ?_
  refine lr_sub (ls' := [(0, .inr (20, 0)), (1, .inl a1), (2, .inl (0 : Int32)), (3, .inl (0 : Int32))]) C [2, 3, 1, 0] rfl ?_
  obtain ⟨u5, hu6, h⟩ := lr_bd h
  refine lr_t_M_listed_4 C a1 600 (0 : Int32) (0 : Int32) t u5 hu6 ?_
  refine lr_iload_n (pc := 42) C lr_d_M_listed_42 rfl 2 rfl ?_
  obtain ⟨hz7, h⟩ := lr_gd h
  have e := Option.some.inj h
  subst e
  exact lr_iret C E lr_d_M_listed_43 (lr_nz hz7)
def lr_G_M_keep (a1 : Int32) (t : lr_S) : Option (lr_S) := if a1 < 0 then (some t) else (if lr_in a1 8 = true then (some (lr_wr t 55 0 a1.toNatClampNeg (vp_nar .boolean (1 : Int32)))) else none)
set_option maxHeartbeats 4000000 in
theorem lr_r_M_keep {a1 : Int32} {t o : lr_S} (h : lr_G_M_keep a1 t = some o) : lr_RV 20 60 lr_m_M_keep [.inr (20, 0), .inl a1] t o := by
  refine lr_ofV (own := lr_R7) (by decide) rfl rfl (Nat.le_of_ble_eq_true rfl) (fun X C E => ?_)
  show lr_T X 0 [(0, .inr (20, 0)), (1, .inl a1)] [] t
  have h := (show (if a1 < 0 then (some t) else (if lr_in a1 8 = true then (some (lr_wr t 55 0 a1.toNatClampNeg (vp_nar .boolean (1 : Int32)))) else none)) = some o from h)
  refine lr_iload_n (pc := 0) C lr_d_M_keep_0 rfl 1 rfl ?_
  refine lr_if_lt (pc := 1) (tgt := 11) C lr_d_M_keep_1 (by decide) (fun hc1 => ?_) (fun hc1 => ?_)
  · have h := lr_ps hc1 h
    have e := Option.some.inj h
    subst e
    exact lr_vret C E lr_d_M_keep_11
  · have h := lr_ng hc1 h
    refine lr_aload_n (pc := 4) C lr_d_M_keep_4 rfl 0 rfl ?_
    refine lr_g7_104 (pc := 5) C lr_d_M_keep_5 ?_
    refine lr_iload_n (pc := 8) C lr_d_M_keep_8 rfl 1 rfl ?_
    refine lr_iconst (pc := 9) (v := 1) C lr_d_M_keep_9 (by decide) ?_
    obtain ⟨hb2, h⟩ := lr_gd h
    refine lr_sz55 (pc := 10) C lr_d_M_keep_10 hb2 ?_
    have e := Option.some.inj h
    subst e
    exact lr_vret C E lr_d_M_keep_11
