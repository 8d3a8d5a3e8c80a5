def lr_L_Node_markKeptSlots_2 (a0 : Nat) : Nat → Int32 → lr_S → Option (Int32 × lr_S)
  | 0, _, _ => none
  | f + 1, x1, t => if (8 : Int32) ≤ x1 then (some (x1, t)) else (if lr_in x1 8 = true then ((lr_G_Slot_isListed (8 * a0 + x1.toNatClampNeg) (lr_rd t 1 0 0) t).bind fun u3 => (lr_L_Node_markKeptSlots_2 a0 f (x1 + 1) (lr_wr u3.2 16 a0 x1.toNatClampNeg (vp_nar .boolean u3.1)))) else none)
set_option maxHeartbeats 4000000 in
theorem lr_t_Node_markKeptSlots_2 {X : lr_X} (C : lr_C X lr_m_Node_markKeptSlots.2.1 lr_R2 lr_m_Node_markKeptSlots.2.2.1 lr_m_Node_markKeptSlots.2.2.2.2.1 lr_m_Node_markKeptSlots.2.2.2.2.2 0 20) (a0 : Nat) : ∀ (f : Nat) (x1 : Int32) (t : lr_S) (o : Int32 × lr_S), lr_L_Node_markKeptSlots_2 a0 f x1 t = some o → (lr_T X 36 [(0, .inr (5, a0)), (1, .inl o.1)] [] o.2) → lr_T X 2 [(0, .inr (5, a0)), (1, .inl x1)] [] t := by
  intro f
  induction f with
  | zero => intro x1 t o h; cases h
  | succ f ih =>
    intro x1 t o h kx
    have h := (show (if (8 : Int32) ≤ x1 then (some (x1, t)) else (if lr_in x1 8 = true then ((lr_G_Slot_isListed (8 * a0 + x1.toNatClampNeg) (lr_rd t 1 0 0) t).bind fun u3 => (lr_L_Node_markKeptSlots_2 a0 f (x1 + 1) (lr_wr u3.2 16 a0 x1.toNatClampNeg (vp_nar .boolean u3.1)))) else none)) = some o from h)
    refine lr_iload_n (pc := 2) C lr_d_Node_markKeptSlots_2 rfl 1 rfl ?_
    refine lr_bipush (pc := 3) (v := 8) C lr_d_Node_markKeptSlots_3 (by decide) ?_
    refine lr_icmp_ge (pc := 5) (tgt := 36) C lr_d_Node_markKeptSlots_5 (by decide) (fun hc1 => ?_) (fun hc1 => ?_)
    · have h := lr_ps hc1 h
      refine lr_sub (ls' := [(0, .inr (5, a0)), (1, .inl x1)]) C [0, 1] rfl ?_
      have e := Option.some.inj h
      subst e
      exact kx
    · have h := lr_ng hc1 h
      refine lr_aload_n (pc := 8) C lr_d_Node_markKeptSlots_8 rfl 0 rfl ?_
      refine lr_g2_54 (pc := 9) C lr_d_Node_markKeptSlots_9 ?_
      refine lr_iload_n (pc := 12) C lr_d_Node_markKeptSlots_12 rfl 1 rfl ?_
      refine lr_aload_n (pc := 13) C lr_d_Node_markKeptSlots_13 rfl 0 rfl ?_
      refine lr_g2_21 (pc := 14) C lr_d_Node_markKeptSlots_14 ?_
      refine lr_iload_n (pc := 17) C lr_d_Node_markKeptSlots_17 rfl 1 rfl ?_
      obtain ⟨hb2, h⟩ := lr_gd h
      refine lr_a6 (pc := 18) C lr_d_Node_markKeptSlots_18 hb2 ?_
      refine lr_aload_n (pc := 19) C lr_d_Node_markKeptSlots_19 rfl 0 rfl ?_
      refine lr_g2_15 (pc := 20) C lr_d_Node_markKeptSlots_20 ?_
      refine lr_g2_71 (pc := 23) C lr_d_Node_markKeptSlots_23 ?_
      obtain ⟨u3, hu4, h⟩ := lr_bd h
      refine lr_callVi (pc := 26) (as := [.inl (lr_rd t 1 0 0)]) (st := [.inl x1, .inr (16, a0)]) (fs := fun ad => lr_fs5 t (8 * a0 + x1.toNatClampNeg) ad) C (lr_r_Slot_isListed hu4) lr_c2_233 lr_d_Node_markKeptSlots_26 rfl rfl (fun _ _ => rfl) (ci := 5) rfl rfl ⟨by decide, by decide⟩ (Nat.le_of_ble_eq_true rfl) ?_
      refine lr_sz16 (pc := 29) C lr_d_Node_markKeptSlots_29 hb2 ?_
      refine lr_iinc (pc := 30) (v := (x1 + 1)) (ls' := [(1, .inl (x1 + 1)), (0, .inr (5, a0))]) C lr_d_Node_markKeptSlots_30 1 rfl rfl (by decide) rfl ?_
      refine lr_goto (pc := 33) (tgt := 2) C lr_d_Node_markKeptSlots_33 (by decide) ?_
      refine lr_sub (ls' := [(0, .inr (5, a0)), (1, .inl (x1 + 1))]) C [1, 0] rfl ?_
      exact ih (x1 + 1) (lr_wr u3.2 16 a0 x1.toNatClampNeg (vp_nar .boolean u3.1)) o h kx
def lr_L_Node_markKeptSlots_38 (a0 : Nat) : Nat → Int32 → lr_S → Option (Int32 × lr_S)
  | 0, _, _ => none
  | f + 1, x1, t => if (3 : Int32) ≤ x1 then (some (x1, t)) else (if lr_in x1 3 = true then ((lr_G_Node_keep a0 (lr_rd t 11 a0 x1.toNatClampNeg) t).bind fun u9 => (lr_L_Node_markKeptSlots_38 a0 f (x1 + 1) u9)) else none)
set_option maxHeartbeats 4000000 in
theorem lr_t_Node_markKeptSlots_38 {X : lr_X} (C : lr_C X lr_m_Node_markKeptSlots.2.1 lr_R2 lr_m_Node_markKeptSlots.2.2.1 lr_m_Node_markKeptSlots.2.2.2.2.1 lr_m_Node_markKeptSlots.2.2.2.2.2 0 20) (a0 : Nat) : ∀ (f : Nat) (x1 : Int32) (t : lr_S) (o : Int32 × lr_S), lr_L_Node_markKeptSlots_38 a0 f x1 t = some o → (lr_T X 59 [(0, .inr (5, a0)), (1, .inl o.1)] [] o.2) → lr_T X 38 [(0, .inr (5, a0)), (1, .inl x1)] [] t := by
  intro f
  induction f with
  | zero => intro x1 t o h; cases h
  | succ f ih =>
    intro x1 t o h kx
    have h := (show (if (3 : Int32) ≤ x1 then (some (x1, t)) else (if lr_in x1 3 = true then ((lr_G_Node_keep a0 (lr_rd t 11 a0 x1.toNatClampNeg) t).bind fun u9 => (lr_L_Node_markKeptSlots_38 a0 f (x1 + 1) u9)) else none)) = some o from h)
    refine lr_iload_n (pc := 38) C lr_d_Node_markKeptSlots_38 rfl 1 rfl ?_
    refine lr_iconst (pc := 39) (v := 3) C lr_d_Node_markKeptSlots_39 (by decide) ?_
    refine lr_icmp_ge (pc := 40) (tgt := 59) C lr_d_Node_markKeptSlots_40 (by decide) (fun hc7 => ?_) (fun hc7 => ?_)
    · have h := lr_ps hc7 h
      refine lr_sub (ls' := [(0, .inr (5, a0)), (1, .inl x1)]) C [0, 1] rfl ?_
      have e := Option.some.inj h
      subst e
      exact kx
    · have h := lr_ng hc7 h
      refine lr_aload_n (pc := 43) C lr_d_Node_markKeptSlots_43 rfl 0 rfl ?_
      refine lr_aload_n (pc := 44) C lr_d_Node_markKeptSlots_44 rfl 0 rfl ?_
      refine lr_g2_26 (pc := 45) C lr_d_Node_markKeptSlots_45 ?_
      refine lr_iload_n (pc := 48) C lr_d_Node_markKeptSlots_48 rfl 1 rfl ?_
      obtain ⟨hb8, h⟩ := lr_gd h
      refine lr_li11 (pc := 49) C lr_d_Node_markKeptSlots_49 hb8 ?_
      obtain ⟨u9, hu10, h⟩ := lr_bd h
      refine lr_callVv (pc := 50) (as := [.inl (lr_rd t 11 a0 x1.toNatClampNeg)]) (st := []) (fs := fun ad => lr_fs2 t a0 ad) C (lr_r_Node_keep hu10) lr_c2_236 lr_d_Node_markKeptSlots_50 rfl rfl (fun _ _ => rfl) (ci := 2) rfl rfl ⟨by decide, by decide⟩ (Nat.le_of_ble_eq_true rfl) ?_
      refine lr_iinc (pc := 53) (v := (x1 + 1)) (ls' := [(1, .inl (x1 + 1)), (0, .inr (5, a0))]) C lr_d_Node_markKeptSlots_53 1 rfl rfl (by decide) rfl ?_
      refine lr_goto (pc := 56) (tgt := 38) C lr_d_Node_markKeptSlots_56 (by decide) ?_
      refine lr_sub (ls' := [(0, .inr (5, a0)), (1, .inl (x1 + 1))]) C [1, 0] rfl ?_
      exact ih (x1 + 1) u9 o h kx
def lr_L_Node_markKeptSlots_61 (a0 : Nat) : Nat → Int32 → lr_S → Option (Int32 × lr_S)
  | 0, _, _ => none
  | f + 1, x1, t => if (6 : Int32) ≤ x1 then (some (x1, t)) else (if lr_in x1 6 = true then ((lr_G_Node_isLive a0 (6 * a0 + x1.toNatClampNeg) t).bind fun u15 => (if u15.1 = 0 then (lr_L_Node_markKeptSlots_61 a0 f (x1 + 1) u15.2) else ((lr_G_Node_keep a0 (lr_rd u15.2 13 (6 * a0 + x1.toNatClampNeg) 1) u15.2).bind fun u18 => (lr_L_Node_markKeptSlots_61 a0 f (x1 + 1) u18)))) else none)
set_option maxHeartbeats 4000000 in
theorem lr_t_Node_markKeptSlots_61 {X : lr_X} (C : lr_C X lr_m_Node_markKeptSlots.2.1 lr_R2 lr_m_Node_markKeptSlots.2.2.1 lr_m_Node_markKeptSlots.2.2.2.2.1 lr_m_Node_markKeptSlots.2.2.2.2.2 0 20) (a0 : Nat) : ∀ (f : Nat) (x1 : Int32) (t : lr_S) (o : Int32 × lr_S), lr_L_Node_markKeptSlots_61 a0 f x1 t = some o → (lr_T X 99 [(0, .inr (5, a0)), (1, .inl o.1)] [] o.2) → lr_T X 61 [(0, .inr (5, a0)), (1, .inl x1)] [] t := by
  intro f
  induction f with
  | zero => intro x1 t o h; cases h
  | succ f ih =>
    intro x1 t o h kx
    have h := (show (if (6 : Int32) ≤ x1 then (some (x1, t)) else (if lr_in x1 6 = true then ((lr_G_Node_isLive a0 (6 * a0 + x1.toNatClampNeg) t).bind fun u15 => (if u15.1 = 0 then (lr_L_Node_markKeptSlots_61 a0 f (x1 + 1) u15.2) else ((lr_G_Node_keep a0 (lr_rd u15.2 13 (6 * a0 + x1.toNatClampNeg) 1) u15.2).bind fun u18 => (lr_L_Node_markKeptSlots_61 a0 f (x1 + 1) u18)))) else none)) = some o from h)
    refine lr_iload_n (pc := 61) C lr_d_Node_markKeptSlots_61 rfl 1 rfl ?_
    refine lr_bipush (pc := 62) (v := 6) C lr_d_Node_markKeptSlots_62 (by decide) ?_
    refine lr_icmp_ge (pc := 64) (tgt := 99) C lr_d_Node_markKeptSlots_64 (by decide) (fun hc13 => ?_) (fun hc13 => ?_)
    · have h := lr_ps hc13 h
      refine lr_sub (ls' := [(0, .inr (5, a0)), (1, .inl x1)]) C [0, 1] rfl ?_
      have e := Option.some.inj h
      subst e
      exact kx
    · have h := lr_ng hc13 h
      refine lr_aload_n (pc := 67) C lr_d_Node_markKeptSlots_67 rfl 0 rfl ?_
      refine lr_aload_n (pc := 68) C lr_d_Node_markKeptSlots_68 rfl 0 rfl ?_
      refine lr_g2_32 (pc := 69) C lr_d_Node_markKeptSlots_69 ?_
      refine lr_iload_n (pc := 72) C lr_d_Node_markKeptSlots_72 rfl 1 rfl ?_
      obtain ⟨hb14, h⟩ := lr_gd h
      refine lr_a12 (pc := 73) C lr_d_Node_markKeptSlots_73 hb14 ?_
      obtain ⟨u15, hu16, h⟩ := lr_bd h
      refine lr_callVi (pc := 74) (as := [.inr (13, (6 * a0 + x1.toNatClampNeg))]) (st := []) (fs := fun ad => lr_fs2 t a0 ad) C (lr_r_Node_isLive hu16) lr_c2_82 lr_d_Node_markKeptSlots_74 rfl rfl (fun _ _ => rfl) (ci := 2) rfl rfl ⟨by decide, by decide⟩ (Nat.le_of_ble_eq_true rfl) ?_
      refine lr_if_eq (pc := 77) (tgt := 93) C lr_d_Node_markKeptSlots_77 (by decide) (fun hc17 => ?_) (fun hc17 => ?_)
      · have h := lr_ps hc17 h
        refine lr_iinc (pc := 93) (v := (x1 + 1)) (ls' := [(1, .inl (x1 + 1)), (0, .inr (5, a0))]) C lr_d_Node_markKeptSlots_93 1 rfl rfl (by decide) rfl ?_
        refine lr_goto (pc := 96) (tgt := 61) C lr_d_Node_markKeptSlots_96 (by decide) ?_
        refine lr_sub (ls' := [(0, .inr (5, a0)), (1, .inl (x1 + 1))]) C [1, 0] rfl ?_
        exact ih (x1 + 1) u15.2 o h kx
      · have h := lr_ng hc17 h
        refine lr_aload_n (pc := 80) C lr_d_Node_markKeptSlots_80 rfl 0 rfl ?_
        refine lr_aload_n (pc := 81) C lr_d_Node_markKeptSlots_81 rfl 0 rfl ?_
        refine lr_g2_32 (pc := 82) C lr_d_Node_markKeptSlots_82 ?_
        refine lr_iload_n (pc := 85) C lr_d_Node_markKeptSlots_85 rfl 1 rfl ?_
        refine lr_a12 (pc := 86) C lr_d_Node_markKeptSlots_86 hb14 ?_
        refine lr_g2_98 (pc := 87) C lr_d_Node_markKeptSlots_87 ?_
        obtain ⟨u18, hu19, h⟩ := lr_bd h
        refine lr_callVv (pc := 90) (as := [.inl (lr_rd u15.2 13 (6 * a0 + x1.toNatClampNeg) 1)]) (st := []) (fs := fun ad => lr_fs2 u15.2 a0 ad) C (lr_r_Node_keep hu19) lr_c2_236 lr_d_Node_markKeptSlots_90 rfl rfl (fun _ _ => rfl) (ci := 2) rfl rfl ⟨by decide, by decide⟩ (Nat.le_of_ble_eq_true rfl) ?_
        refine lr_iinc (pc := 93) (v := (x1 + 1)) (ls' := [(1, .inl (x1 + 1)), (0, .inr (5, a0))]) C lr_d_Node_markKeptSlots_93 1 rfl rfl (by decide) rfl ?_
        refine lr_goto (pc := 96) (tgt := 61) C lr_d_Node_markKeptSlots_96 (by decide) ?_
        refine lr_sub (ls' := [(0, .inr (5, a0)), (1, .inl (x1 + 1))]) C [1, 0] rfl ?_
        exact ih (x1 + 1) u18 o h kx
def lr_L_Node_markKeptSlots_123 (a0 : Nat) : Nat → Int32 → lr_S → Option (Int32 × lr_S)
  | 0, _, _ => none
  | f + 1, x1, t => if (8 : Int32) ≤ x1 then (some (x1, t)) else ((lr_G_Node_keepWhatFieldsReferTo a0 t).bind fun u24 => (lr_L_Node_markKeptSlots_123 a0 f (x1 + 1) u24))
set_option maxHeartbeats 4000000 in
theorem lr_t_Node_markKeptSlots_123 {X : lr_X} (C : lr_C X lr_m_Node_markKeptSlots.2.1 lr_R2 lr_m_Node_markKeptSlots.2.2.1 lr_m_Node_markKeptSlots.2.2.2.2.1 lr_m_Node_markKeptSlots.2.2.2.2.2 0 20) (a0 : Nat) : ∀ (f : Nat) (x1 : Int32) (t : lr_S) (o : Int32 × lr_S), lr_L_Node_markKeptSlots_123 a0 f x1 t = some o → (lr_T X 139 [(0, .inr (5, a0)), (1, .inl o.1)] [] o.2) → lr_T X 123 [(0, .inr (5, a0)), (1, .inl x1)] [] t := by
  intro f
  induction f with
  | zero => intro x1 t o h; cases h
  | succ f ih =>
    intro x1 t o h kx
    have h := (show (if (8 : Int32) ≤ x1 then (some (x1, t)) else ((lr_G_Node_keepWhatFieldsReferTo a0 t).bind fun u24 => (lr_L_Node_markKeptSlots_123 a0 f (x1 + 1) u24))) = some o from h)
    refine lr_iload_n (pc := 123) C lr_d_Node_markKeptSlots_123 rfl 1 rfl ?_
    refine lr_bipush (pc := 124) (v := 8) C lr_d_Node_markKeptSlots_124 (by decide) ?_
    refine lr_icmp_ge (pc := 126) (tgt := 139) C lr_d_Node_markKeptSlots_126 (by decide) (fun hc23 => ?_) (fun hc23 => ?_)
    · have h := lr_ps hc23 h
      refine lr_sub (ls' := [(0, .inr (5, a0)), (1, .inl x1)]) C [0, 1] rfl ?_
      have e := Option.some.inj h
      subst e
      exact kx
    · have h := lr_ng hc23 h
      refine lr_aload_n (pc := 129) C lr_d_Node_markKeptSlots_129 rfl 0 rfl ?_
      obtain ⟨u24, hu25, h⟩ := lr_bd h
      refine lr_callVv (pc := 130) (as := []) (st := []) (fs := fun ad => lr_fs2 t a0 ad) C (lr_r_Node_keepWhatFieldsReferTo hu25) lr_c2_240 lr_d_Node_markKeptSlots_130 rfl rfl (fun _ _ => rfl) (ci := 2) rfl rfl ⟨by decide, by decide⟩ (Nat.le_of_ble_eq_true rfl) ?_
      refine lr_iinc (pc := 133) (v := (x1 + 1)) (ls' := [(1, .inl (x1 + 1)), (0, .inr (5, a0))]) C lr_d_Node_markKeptSlots_133 1 rfl rfl (by decide) rfl ?_
      refine lr_goto (pc := 136) (tgt := 123) C lr_d_Node_markKeptSlots_136 (by decide) ?_
      refine lr_sub (ls' := [(0, .inr (5, a0)), (1, .inl (x1 + 1))]) C [1, 0] rfl ?_
      exact ih (x1 + 1) u24 o h kx
def lr_G_Node_markKeptSlots (n : Nat) (t : lr_S) : Option (lr_S) := (lr_L_Node_markKeptSlots_2 n 600 (0 : Int32) t).bind fun u5 => ((lr_L_Node_markKeptSlots_38 n 600 (0 : Int32) u5.2).bind fun u11 => ((lr_L_Node_markKeptSlots_61 n 600 (0 : Int32) u11.2).bind fun u20 => (if (lr_rd u20.2 14 n 0) = (1 : Int32) then ((lr_G_Node_keep n (lr_rd u20.2 14 n 2) u20.2).bind fun u28 => ((lr_L_Node_markKeptSlots_123 n 600 (0 : Int32) u28).bind fun u30 => (some u30.2))) else ((lr_L_Node_markKeptSlots_123 n 600 (0 : Int32) u20.2).bind fun u26 => (some u26.2)))))
set_option maxHeartbeats 4000000 in
theorem lr_r_Node_markKeptSlots {n : Nat} {t o : lr_S} (h : lr_G_Node_markKeptSlots n t = some o) : lr_RV 0 20 lr_m_Node_markKeptSlots [.inr (5, n)] t o := by
  refine lr_ofV (own := lr_R2) (by decide) rfl rfl (Nat.le_of_ble_eq_true rfl) (fun X C E => ?_)
  show lr_T X 0 [(0, .inr (5, n))] [] t
  have h := (show ((lr_L_Node_markKeptSlots_2 n 600 (0 : Int32) t).bind fun u5 => ((lr_L_Node_markKeptSlots_38 n 600 (0 : Int32) u5.2).bind fun u11 => ((lr_L_Node_markKeptSlots_61 n 600 (0 : Int32) u11.2).bind fun u20 => (if (lr_rd u20.2 14 n 0) = (1 : Int32) then ((lr_G_Node_keep n (lr_rd u20.2 14 n 2) u20.2).bind fun u28 => ((lr_L_Node_markKeptSlots_123 n 600 (0 : Int32) u28).bind fun u30 => (some u30.2))) else ((lr_L_Node_markKeptSlots_123 n 600 (0 : Int32) u20.2).bind fun u26 => (some u26.2)))))) = some o from h)
  refine lr_iconst (pc := 0) (v := 0) C lr_d_Node_markKeptSlots_0 (by decide) ?_
  refine lr_istore_n (pc := 1) (ls' := [(1, .inl (0 : Int32)), (0, .inr (5, n))]) C lr_d_Node_markKeptSlots_1 rfl (by decide) rfl ?_
  refine lr_sub (ls' := [(0, .inr (5, n)), (1, .inl (0 : Int32))]) C [1, 0] rfl ?_
  obtain ⟨u5, hu6, h⟩ := lr_bd h
  refine lr_t_Node_markKeptSlots_2 C n 600 (0 : Int32) t u5 hu6 ?_
  refine lr_iconst (pc := 36) (v := 0) C lr_d_Node_markKeptSlots_36 (by decide) ?_
  refine lr_istore_n (pc := 37) (ls' := [(1, .inl (0 : Int32)), (0, .inr (5, n))]) C lr_d_Node_markKeptSlots_37 rfl (by decide) rfl ?_
  refine lr_sub (ls' := [(0, .inr (5, n)), (1, .inl (0 : Int32))]) C [1, 0] rfl ?_
  obtain ⟨u11, hu12, h⟩ := lr_bd h
  refine lr_t_Node_markKeptSlots_38 C n 600 (0 : Int32) u5.2 u11 hu12 ?_
  refine lr_iconst (pc := 59) (v := 0) C lr_d_Node_markKeptSlots_59 (by decide) ?_
  refine lr_istore_n (pc := 60) (ls' := [(1, .inl (0 : Int32)), (0, .inr (5, n))]) C lr_d_Node_markKeptSlots_60 rfl (by decide) rfl ?_
  refine lr_sub (ls' := [(0, .inr (5, n)), (1, .inl (0 : Int32))]) C [1, 0] rfl ?_
  obtain ⟨u20, hu21, h⟩ := lr_bd h
  refine lr_t_Node_markKeptSlots_61 C n 600 (0 : Int32) u11.2 u20 hu21 ?_
  refine lr_aload_n (pc := 99) C lr_d_Node_markKeptSlots_99 rfl 0 rfl ?_
  refine lr_g2_40 (pc := 100) C lr_d_Node_markKeptSlots_100 ?_
  refine lr_g2_44 (pc := 103) C lr_d_Node_markKeptSlots_103 ?_
  refine lr_iconst (pc := 106) (v := 1) C lr_d_Node_markKeptSlots_106 (by decide) ?_
  refine lr_icmp_ne (pc := 107) (tgt := 121) C lr_d_Node_markKeptSlots_107 (by decide) (fun hc22 => ?_) (fun hc22 => ?_)
  · have h := lr_ng hc22 h
    refine lr_iconst (pc := 121) (v := 0) C lr_d_Node_markKeptSlots_121 (by decide) ?_
    refine lr_istore_n (pc := 122) (ls' := [(1, .inl (0 : Int32)), (0, .inr (5, n))]) C lr_d_Node_markKeptSlots_122 rfl (by decide) rfl ?_
    refine lr_sub (ls' := [(0, .inr (5, n)), (1, .inl (0 : Int32))]) C [1, 0] rfl ?_
    obtain ⟨u26, hu27, h⟩ := lr_bd h
    refine lr_t_Node_markKeptSlots_123 C n 600 (0 : Int32) u20.2 u26 hu27 ?_
    have e := Option.some.inj h
    subst e
    exact lr_vret C E lr_d_Node_markKeptSlots_139
  · have h := lr_ps hc22 h
    refine lr_aload_n (pc := 110) C lr_d_Node_markKeptSlots_110 rfl 0 rfl ?_
    refine lr_aload_n (pc := 111) C lr_d_Node_markKeptSlots_111 rfl 0 rfl ?_
    refine lr_g2_40 (pc := 112) C lr_d_Node_markKeptSlots_112 ?_
    refine lr_g2_104 (pc := 115) C lr_d_Node_markKeptSlots_115 ?_
    obtain ⟨u28, hu29, h⟩ := lr_bd h
    refine lr_callVv (pc := 118) (as := [.inl (lr_rd u20.2 14 n 2)]) (st := []) (fs := fun ad => lr_fs2 u20.2 n ad) C (lr_r_Node_keep hu29) lr_c2_236 lr_d_Node_markKeptSlots_118 rfl rfl (fun _ _ => rfl) (ci := 2) rfl rfl ⟨by decide, by decide⟩ (Nat.le_of_ble_eq_true rfl) ?_
    refine lr_iconst (pc := 121) (v := 0) C lr_d_Node_markKeptSlots_121 (by decide) ?_
    refine lr_istore_n (pc := 122) (ls' := [(1, .inl (0 : Int32)), (0, .inr (5, n))]) C lr_d_Node_markKeptSlots_122 rfl (by decide) rfl ?_
    refine lr_sub (ls' := [(0, .inr (5, n)), (1, .inl (0 : Int32))]) C [1, 0] rfl ?_
    obtain ⟨u30, hu31, h⟩ := lr_bd h
    refine lr_t_Node_markKeptSlots_123 C n 600 (0 : Int32) u28 u30 hu31 ?_
    have e := Option.some.inj h
    subst e
    exact lr_vret C E lr_d_Node_markKeptSlots_139
def lr_L_Node_emptyUnkeptSlots_8 (a0 : Nat) : Nat → Int32 → Int32 → lr_S → Option (Int32 × Int32 × lr_S)
  | 0, _, _, _ => none
  | f + 1, x1, x2, t => if (8 : Int32) ≤ x2 then (some (x1, x2, t)) else (if lr_in x2 8 = true then (if (lr_rd t 7 (8 * a0 + x2.toNatClampNeg) 0) = 0 then (lr_L_Node_emptyUnkeptSlots_8 a0 f x1 (x2 + 1) t) else (if (lr_rd t 16 a0 x2.toNatClampNeg) = 0 then (if (lr_rd t 7 (8 * a0 + x2.toNatClampNeg) 0) = (2 : Int32) then ((lr_G_Node_sendClean a0 (8 * a0 + x2.toNatClampNeg) t).bind fun u8 => (lr_L_Node_emptyUnkeptSlots_8 a0 f (x1 + 1) (x2 + 1) (lr_wr u8 7 (8 * a0 + x2.toNatClampNeg) 0 (0 : Int32)))) else (lr_L_Node_emptyUnkeptSlots_8 a0 f (x1 + 1) (x2 + 1) (lr_wr t 7 (8 * a0 + x2.toNatClampNeg) 0 (0 : Int32)))) else (lr_L_Node_emptyUnkeptSlots_8 a0 f x1 (x2 + 1) t))) else none)
set_option maxHeartbeats 4000000 in
theorem lr_t_Node_emptyUnkeptSlots_8 {X : lr_X} (C : lr_C X lr_m_Node_emptyUnkeptSlots.2.1 lr_R2 lr_m_Node_emptyUnkeptSlots.2.2.1 lr_m_Node_emptyUnkeptSlots.2.2.2.2.1 lr_m_Node_emptyUnkeptSlots.2.2.2.2.2 0 20) (a0 : Nat) : ∀ (f : Nat) (x1 : Int32) (x2 : Int32) (t : lr_S) (o : Int32 × Int32 × lr_S), lr_L_Node_emptyUnkeptSlots_8 a0 f x1 x2 t = some o → (lr_T X 64 [(0, .inr (5, a0)), (1, .inl o.1), (2, .inl o.2.1)] [] o.2.2) → lr_T X 8 [(0, .inr (5, a0)), (1, .inl x1), (2, .inl x2)] [] t := by
  intro f
  induction f with
  | zero => intro x1 x2 t o h; cases h
  | succ f ih =>
    intro x1 x2 t o h kx
    have h := (show (if (8 : Int32) ≤ x2 then (some (x1, x2, t)) else (if lr_in x2 8 = true then (if (lr_rd t 7 (8 * a0 + x2.toNatClampNeg) 0) = 0 then (lr_L_Node_emptyUnkeptSlots_8 a0 f x1 (x2 + 1) t) else (if (lr_rd t 16 a0 x2.toNatClampNeg) = 0 then (if (lr_rd t 7 (8 * a0 + x2.toNatClampNeg) 0) = (2 : Int32) then ((lr_G_Node_sendClean a0 (8 * a0 + x2.toNatClampNeg) t).bind fun u8 => (lr_L_Node_emptyUnkeptSlots_8 a0 f (x1 + 1) (x2 + 1) (lr_wr u8 7 (8 * a0 + x2.toNatClampNeg) 0 (0 : Int32)))) else (lr_L_Node_emptyUnkeptSlots_8 a0 f (x1 + 1) (x2 + 1) (lr_wr t 7 (8 * a0 + x2.toNatClampNeg) 0 (0 : Int32)))) else (lr_L_Node_emptyUnkeptSlots_8 a0 f x1 (x2 + 1) t))) else none)) = some o from h)
    refine lr_iload_n (pc := 8) C lr_d_Node_emptyUnkeptSlots_8 rfl 2 rfl ?_
    refine lr_bipush (pc := 9) (v := 8) C lr_d_Node_emptyUnkeptSlots_9 (by decide) ?_
    refine lr_icmp_ge (pc := 11) (tgt := 64) C lr_d_Node_emptyUnkeptSlots_11 (by decide) (fun hc3 => ?_) (fun hc3 => ?_)
    · have h := lr_ps hc3 h
      refine lr_sub (ls' := [(0, .inr (5, a0)), (1, .inl x1), (2, .inl x2)]) C [0, 1, 2] rfl ?_
      have e := Option.some.inj h
      subst e
      exact kx
    · have h := lr_ng hc3 h
      refine lr_aload_n (pc := 14) C lr_d_Node_emptyUnkeptSlots_14 rfl 0 rfl ?_
      refine lr_g2_21 (pc := 15) C lr_d_Node_emptyUnkeptSlots_15 ?_
      refine lr_iload_n (pc := 18) C lr_d_Node_emptyUnkeptSlots_18 rfl 2 rfl ?_
      obtain ⟨hb4, h⟩ := lr_gd h
      refine lr_a6 (pc := 19) C lr_d_Node_emptyUnkeptSlots_19 hb4 ?_
      refine lr_astore_n (pc := 20) (ls' := [(3, .inr (7, (8 * a0 + x2.toNatClampNeg))), (0, .inr (5, a0)), (1, .inl x1), (2, .inl x2)]) C lr_d_Node_emptyUnkeptSlots_20 rfl (by decide) rfl ?_
      refine lr_aload_n (pc := 21) C lr_d_Node_emptyUnkeptSlots_21 rfl 0 rfl ?_
      refine lr_g2_65 (pc := 22) C lr_d_Node_emptyUnkeptSlots_22 ?_
      refine lr_if_eq (pc := 25) (tgt := 58) C lr_d_Node_emptyUnkeptSlots_25 (by decide) (fun hc5 => ?_) (fun hc5 => ?_)
      · have h := lr_ps hc5 h
        refine lr_iinc (pc := 58) (v := (x2 + 1)) (ls' := [(2, .inl (x2 + 1)), (3, .inr (7, (8 * a0 + x2.toNatClampNeg))), (0, .inr (5, a0)), (1, .inl x1)]) C lr_d_Node_emptyUnkeptSlots_58 3 rfl rfl (by decide) rfl ?_
        refine lr_goto (pc := 61) (tgt := 8) C lr_d_Node_emptyUnkeptSlots_61 (by decide) ?_
        refine lr_sub (ls' := [(0, .inr (5, a0)), (1, .inl x1), (2, .inl (x2 + 1))]) C [2, 3, 0] rfl ?_
        exact ih x1 (x2 + 1) t o h kx
      · have h := lr_ng hc5 h
        refine lr_aload_n (pc := 28) C lr_d_Node_emptyUnkeptSlots_28 rfl 1 rfl ?_
        refine lr_g2_54 (pc := 29) C lr_d_Node_emptyUnkeptSlots_29 ?_
        refine lr_iload_n (pc := 32) C lr_d_Node_emptyUnkeptSlots_32 rfl 3 rfl ?_
        refine lr_lz16 (pc := 33) C lr_d_Node_emptyUnkeptSlots_33 hb4 ?_
        refine lr_if_ne (pc := 34) (tgt := 58) C lr_d_Node_emptyUnkeptSlots_34 (by decide) (fun hc6 => ?_) (fun hc6 => ?_)
        · have h := lr_ng hc6 h
          refine lr_iinc (pc := 58) (v := (x2 + 1)) (ls' := [(2, .inl (x2 + 1)), (3, .inr (7, (8 * a0 + x2.toNatClampNeg))), (0, .inr (5, a0)), (1, .inl x1)]) C lr_d_Node_emptyUnkeptSlots_58 3 rfl rfl (by decide) rfl ?_
          refine lr_goto (pc := 61) (tgt := 8) C lr_d_Node_emptyUnkeptSlots_61 (by decide) ?_
          refine lr_sub (ls' := [(0, .inr (5, a0)), (1, .inl x1), (2, .inl (x2 + 1))]) C [2, 3, 0] rfl ?_
          exact ih x1 (x2 + 1) t o h kx
        · have h := lr_ps hc6 h
          refine lr_aload_n (pc := 37) C lr_d_Node_emptyUnkeptSlots_37 rfl 0 rfl ?_
          refine lr_g2_65 (pc := 38) C lr_d_Node_emptyUnkeptSlots_38 ?_
          refine lr_iconst (pc := 41) (v := 2) C lr_d_Node_emptyUnkeptSlots_41 (by decide) ?_
          refine lr_icmp_ne (pc := 42) (tgt := 50) C lr_d_Node_emptyUnkeptSlots_42 (by decide) (fun hc7 => ?_) (fun hc7 => ?_)
          · have h := lr_ng hc7 h
            refine lr_aload_n (pc := 50) C lr_d_Node_emptyUnkeptSlots_50 rfl 0 rfl ?_
            refine lr_iconst (pc := 51) (v := 0) C lr_d_Node_emptyUnkeptSlots_51 (by decide) ?_
            refine lr_p2_65 (pc := 52) C lr_d_Node_emptyUnkeptSlots_52 ?_
            refine lr_iinc (pc := 55) (v := (x1 + 1)) (ls' := [(1, .inl (x1 + 1)), (3, .inr (7, (8 * a0 + x2.toNatClampNeg))), (0, .inr (5, a0)), (2, .inl x2)]) C lr_d_Node_emptyUnkeptSlots_55 2 rfl rfl (by decide) rfl ?_
            refine lr_iinc (pc := 58) (v := (x2 + 1)) (ls' := [(2, .inl (x2 + 1)), (1, .inl (x1 + 1)), (3, .inr (7, (8 * a0 + x2.toNatClampNeg))), (0, .inr (5, a0))]) C lr_d_Node_emptyUnkeptSlots_58 3 rfl rfl (by decide) rfl ?_
            refine lr_goto (pc := 61) (tgt := 8) C lr_d_Node_emptyUnkeptSlots_61 (by decide) ?_
            refine lr_sub (ls' := [(0, .inr (5, a0)), (1, .inl (x1 + 1)), (2, .inl (x2 + 1))]) C [3, 1, 0] rfl ?_
            exact ih (x1 + 1) (x2 + 1) (lr_wr t 7 (8 * a0 + x2.toNatClampNeg) 0 (0 : Int32)) o h kx
          · have h := lr_ps hc7 h
            refine lr_aload_n (pc := 45) C lr_d_Node_emptyUnkeptSlots_45 rfl 1 rfl ?_
            refine lr_aload_n (pc := 46) C lr_d_Node_emptyUnkeptSlots_46 rfl 0 rfl ?_
            obtain ⟨u8, hu9, h⟩ := lr_bd h
            refine lr_callVv (pc := 47) (as := [.inr (7, (8 * a0 + x2.toNatClampNeg))]) (st := []) (fs := fun ad => lr_fs2 t a0 ad) C (lr_r_Node_sendClean hu9) lr_c2_230 lr_d_Node_emptyUnkeptSlots_47 rfl rfl (fun _ _ => rfl) (ci := 2) rfl rfl ⟨by decide, by decide⟩ (Nat.le_of_ble_eq_true rfl) ?_
            refine lr_aload_n (pc := 50) C lr_d_Node_emptyUnkeptSlots_50 rfl 0 rfl ?_
            refine lr_iconst (pc := 51) (v := 0) C lr_d_Node_emptyUnkeptSlots_51 (by decide) ?_
            refine lr_p2_65 (pc := 52) C lr_d_Node_emptyUnkeptSlots_52 ?_
            refine lr_iinc (pc := 55) (v := (x1 + 1)) (ls' := [(1, .inl (x1 + 1)), (3, .inr (7, (8 * a0 + x2.toNatClampNeg))), (0, .inr (5, a0)), (2, .inl x2)]) C lr_d_Node_emptyUnkeptSlots_55 2 rfl rfl (by decide) rfl ?_
            refine lr_iinc (pc := 58) (v := (x2 + 1)) (ls' := [(2, .inl (x2 + 1)), (1, .inl (x1 + 1)), (3, .inr (7, (8 * a0 + x2.toNatClampNeg))), (0, .inr (5, a0))]) C lr_d_Node_emptyUnkeptSlots_58 3 rfl rfl (by decide) rfl ?_
            refine lr_goto (pc := 61) (tgt := 8) C lr_d_Node_emptyUnkeptSlots_61 (by decide) ?_
            refine lr_sub (ls' := [(0, .inr (5, a0)), (1, .inl (x1 + 1)), (2, .inl (x2 + 1))]) C [3, 1, 0] rfl ?_
            exact ih (x1 + 1) (x2 + 1) (lr_wr u8 7 (8 * a0 + x2.toNatClampNeg) 0 (0 : Int32)) o h kx
def lr_G_Node_emptyUnkeptSlots (n : Nat) (t : lr_S) : Option (Int32 × lr_S) := (lr_G_Node_markKeptSlots n t).bind fun u1 => ((lr_L_Node_emptyUnkeptSlots_8 n 600 (0 : Int32) (0 : Int32) u1).bind fun u10 => (some (u10.1, u10.2.2)))
set_option maxHeartbeats 4000000 in
theorem lr_r_Node_emptyUnkeptSlots {n : Nat} {t : lr_S} {o : Int32 × lr_S} (h : lr_G_Node_emptyUnkeptSlots n t = some o) : lr_RI 0 20 lr_m_Node_emptyUnkeptSlots [.inr (5, n)] t o.1 o.2 := by
  refine lr_ofI (ty := .int) (own := lr_R2) (by decide) rfl rfl (Nat.le_of_ble_eq_true rfl) (fun X C E => ?_)
  show lr_T X 0 [(0, .inr (5, n))] [] t
  have h := (show ((lr_G_Node_markKeptSlots n t).bind fun u1 => ((lr_L_Node_emptyUnkeptSlots_8 n 600 (0 : Int32) (0 : Int32) u1).bind fun u10 => (some (u10.1, u10.2.2)))) = some o from h)
  refine lr_aload_n (pc := 0) C lr_d_Node_emptyUnkeptSlots_0 rfl 0 rfl ?_
  obtain ⟨u1, hu2, h⟩ := lr_bd h
  refine lr_callVv (pc := 1) (as := []) (st := []) (fs := fun ad => lr_fs2 t n ad) C (lr_r_Node_markKeptSlots hu2) lr_c2_227 lr_d_Node_emptyUnkeptSlots_1 rfl rfl (fun _ _ => rfl) (ci := 2) rfl rfl ⟨by decide, by decide⟩ (Nat.le_of_ble_eq_true rfl) ?_
  refine lr_iconst (pc := 4) (v := 0) C lr_d_Node_emptyUnkeptSlots_4 (by decide) ?_
  refine lr_istore_n (pc := 5) (ls' := [(1, .inl (0 : Int32)), (0, .inr (5, n))]) C lr_d_Node_emptyUnkeptSlots_5 rfl (by decide) rfl ?_
  refine lr_iconst (pc := 6) (v := 0) C lr_d_Node_emptyUnkeptSlots_6 (by decide) ?_
  refine lr_istore_n (pc := 7) (ls' := [(2, .inl (0 : Int32)), (1, .inl (0 : Int32)), (0, .inr (5, n))]) C lr_d_Node_emptyUnkeptSlots_7 rfl (by decide) rfl ?_
  refine lr_sub (ls' := [(0, .inr (5, n)), (1, .inl (0 : Int32)), (2, .inl (0 : Int32))]) C [2, 1, 0] rfl ?_
  obtain ⟨u10, hu11, h⟩ := lr_bd h
  refine lr_t_Node_emptyUnkeptSlots_8 C n 600 (0 : Int32) (0 : Int32) u1 u10 hu11 ?_
  refine lr_iload_n (pc := 64) C lr_d_Node_emptyUnkeptSlots_64 rfl 1 rfl ?_
  have e := Option.some.inj h
  subst e
  exact lr_iret C E lr_d_Node_emptyUnkeptSlots_65 rfl
def lr_G_Request_part (n : Nat) (a1 : Int32) (t : lr_S) : Option (Int32 × lr_S) := if a1 = (0 : Int32) then (some ((lr_rd t 14 n 0), t)) else (if a1 = (1 : Int32) then (some ((lr_rd t 14 n 1), t)) else (if a1 = (2 : Int32) then (some ((lr_rd t 14 n 5), t)) else (some ((-1 : Int32), t))))
set_option maxHeartbeats 4000000 in
theorem lr_r_Request_part {n : Nat} {a1 : Int32} {t : lr_S} {o : Int32 × lr_S} (h : lr_G_Request_part n a1 t = some o) : lr_RI 0 20 lr_m_Request_part [.inr (14, n), .inl a1] t o.1 o.2 := by
  refine lr_ofI (ty := .int) (own := lr_R4) (by decide) rfl rfl (Nat.le_of_ble_eq_true rfl) (fun X C E => ?_)
  show lr_T X 0 [(0, .inr (14, n)), (1, .inl a1)] [] t
  have h := (show (if a1 = (0 : Int32) then (some ((lr_rd t 14 n 0), t)) else (if a1 = (1 : Int32) then (some ((lr_rd t 14 n 1), t)) else (if a1 = (2 : Int32) then (some ((lr_rd t 14 n 5), t)) else (some ((-1 : Int32), t))))) = some o from h)
  refine lr_iload_n (pc := 0) C lr_d_Request_part_0 rfl 1 rfl ?_
  by_cases hc1 : a1 = (0 : Int32)
  · have h := lr_ps hc1 h
    refine lr_tabIn (off := 27) (tgt := 28) C lr_d_Request_part_1 0 (by rw [hc1]; decide) (by decide) (by decide) ?_
    refine lr_aload_n (pc := 28) C lr_d_Request_part_28 rfl 0 rfl ?_
    refine lr_g4_9 (pc := 29) C lr_d_Request_part_29 ?_
    have e := Option.some.inj h
    subst e
    exact lr_iret C E lr_d_Request_part_32 rfl
  have h := lr_ng hc1 h
  by_cases hc2 : a1 = (1 : Int32)
  · have h := lr_ps hc2 h
    refine lr_tabIn (off := 32) (tgt := 33) C lr_d_Request_part_1 1 (by rw [hc2]; decide) (by decide) (by decide) ?_
    refine lr_aload_n (pc := 33) C lr_d_Request_part_33 rfl 0 rfl ?_
    refine lr_g4_15 (pc := 34) C lr_d_Request_part_34 ?_
    have e := Option.some.inj h
    subst e
    exact lr_iret C E lr_d_Request_part_37 rfl
  have h := lr_ng hc2 h
  by_cases hc3 : a1 = (2 : Int32)
  · have h := lr_ps hc3 h
    refine lr_tabIn (off := 37) (tgt := 38) C lr_d_Request_part_1 2 (by rw [hc3]; decide) (by decide) (by decide) ?_
    refine lr_aload_n (pc := 38) C lr_d_Request_part_38 rfl 0 rfl ?_
    refine lr_g4_18 (pc := 39) C lr_d_Request_part_39 ?_
    have e := Option.some.inj h
    subst e
    exact lr_iret C E lr_d_Request_part_42 rfl
  have h := lr_ng hc3 h
  refine lr_tabOut (tgt := 43) C lr_d_Request_part_1 (lr_tout (fun v h1 h2 h3 => by rcases (show v = 0 ∨ v = 1 ∨ v = 2 by omega) with rfl | rfl | rfl <;> first | exact hc1 (Int32.toInt_inj.mp (h3.trans (by decide))) | exact hc2 (Int32.toInt_inj.mp (h3.trans (by decide))) | exact hc3 (Int32.toInt_inj.mp (h3.trans (by decide))))) (by decide) ?_
  refine lr_iconst (pc := 43) (v := -1) C lr_d_Request_part_43 (by decide) ?_
  have e := Option.some.inj h
  subst e
  exact lr_iret C E lr_d_Request_part_44 rfl
