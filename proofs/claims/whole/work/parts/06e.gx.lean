def lr_L_Node_receiveTaken_2 (a0 : Nat) (a1 : Nat) : Nat → Int32 → lr_S → Option ((Int32 × lr_S) ⊕ (Int32 × lr_S))
  | 0, _, _ => none
  | f + 1, x2, t => if (6 : Int32) ≤ x2 then (some (.inr (x2, t))) else (if lr_in x2 6 = true then ((lr_G_Node_isLive a0 (6 * a0 + x2.toNatClampNeg) t).bind fun u3 => (if u3.1 = 0 then (lr_L_Node_receiveTaken_2 a0 a1 f (x2 + 1) u3.2) else (if (lr_rd u3.2 13 (6 * a0 + x2.toNatClampNeg) 0) = (lr_rd u3.2 3 a1 4) then (some (.inl ((1 : Int32), (lr_wr u3.2 13 (6 * a0 + x2.toNatClampNeg) 2 (lr_rd u3.2 1 0 0))))) else (lr_L_Node_receiveTaken_2 a0 a1 f (x2 + 1) u3.2)))) else none)
set_option maxHeartbeats 4000000 in
theorem lr_t_Node_receiveTaken_2 {X : lr_X} (C : lr_C X lr_m_Node_receiveTaken.2.1 lr_R2 lr_m_Node_receiveTaken.2.2.1 lr_m_Node_receiveTaken.2.2.2.2.1 lr_m_Node_receiveTaken.2.2.2.2.2 0 20) (a0 : Nat) (a1 : Nat) : ∀ (f : Nat) (x2 : Int32) (t : lr_S) (o : (Int32 × lr_S) ⊕ (Int32 × lr_S)), lr_L_Node_receiveTaken_2 a0 a1 f x2 t = some o → (∀ u, o = .inl u → lr_EI X .boolean u.1 u.2) → (∀ u, o = .inr u → lr_T X 53 [(0, .inr (5, a0)), (1, .inr (3, a1)), (2, .inl u.1)] [] u.2) → lr_T X 2 [(0, .inr (5, a0)), (1, .inr (3, a1)), (2, .inl x2)] [] t := by
  intro f
  induction f with
  | zero => intro x2 t o h; cases h
  | succ f ih =>
    intro x2 t o h kr kx
    have h := (show (if (6 : Int32) ≤ x2 then (some (.inr (x2, t))) else (if lr_in x2 6 = true then ((lr_G_Node_isLive a0 (6 * a0 + x2.toNatClampNeg) t).bind fun u3 => (if u3.1 = 0 then (lr_L_Node_receiveTaken_2 a0 a1 f (x2 + 1) u3.2) else (if (lr_rd u3.2 13 (6 * a0 + x2.toNatClampNeg) 0) = (lr_rd u3.2 3 a1 4) then (some (.inl ((1 : Int32), (lr_wr u3.2 13 (6 * a0 + x2.toNatClampNeg) 2 (lr_rd u3.2 1 0 0))))) else (lr_L_Node_receiveTaken_2 a0 a1 f (x2 + 1) u3.2)))) else none)) = some o from h)
    refine lr_iload_n (pc := 2) C lr_d_Node_receiveTaken_2 rfl 2 rfl ?_
    refine lr_bipush (pc := 3) (v := 6) C lr_d_Node_receiveTaken_3 (by decide) ?_
    refine lr_icmp_ge (pc := 5) (tgt := 53) C lr_d_Node_receiveTaken_5 (by decide) (fun hc1 => ?_) (fun hc1 => ?_)
    · have h := lr_ps hc1 h
      refine lr_sub (ls' := [(0, .inr (5, a0)), (1, .inr (3, a1)), (2, .inl x2)]) C [0, 1, 2] rfl ?_
      have e := Option.some.inj h
      subst e
      exact kx _ rfl
    · have h := lr_ng hc1 h
      refine lr_aload_n (pc := 8) C lr_d_Node_receiveTaken_8 rfl 0 rfl ?_
      refine lr_g2_32 (pc := 9) C lr_d_Node_receiveTaken_9 ?_
      refine lr_iload_n (pc := 12) C lr_d_Node_receiveTaken_12 rfl 2 rfl ?_
      obtain ⟨hb2, h⟩ := lr_gd h
      refine lr_a12 (pc := 13) C lr_d_Node_receiveTaken_13 hb2 ?_
      refine lr_astore_n (pc := 14) (ls' := [(3, .inr (13, (6 * a0 + x2.toNatClampNeg))), (0, .inr (5, a0)), (1, .inr (3, a1)), (2, .inl x2)]) C lr_d_Node_receiveTaken_14 rfl (by decide) rfl ?_
      refine lr_aload_n (pc := 15) C lr_d_Node_receiveTaken_15 rfl 1 rfl ?_
      refine lr_aload_n (pc := 16) C lr_d_Node_receiveTaken_16 rfl 0 rfl ?_
      obtain ⟨u3, hu4, h⟩ := lr_bd h
      refine lr_callVi (pc := 17) (as := [.inr (13, (6 * a0 + x2.toNatClampNeg))]) (st := []) (fs := fun ad => lr_fs2 t a0 ad) C (lr_r_Node_isLive hu4) lr_c2_82 lr_d_Node_receiveTaken_17 rfl rfl (fun _ _ => rfl) (ci := 2) rfl rfl ⟨by decide, by decide⟩ (Nat.le_of_ble_eq_true rfl) ?_
      refine lr_if_eq (pc := 20) (tgt := 47) C lr_d_Node_receiveTaken_20 (by decide) (fun hc5 => ?_) (fun hc5 => ?_)
      · have h := lr_ps hc5 h
        refine lr_iinc (pc := 47) (v := (x2 + 1)) (ls' := [(2, .inl (x2 + 1)), (3, .inr (13, (6 * a0 + x2.toNatClampNeg))), (0, .inr (5, a0)), (1, .inr (3, a1))]) C lr_d_Node_receiveTaken_47 3 rfl rfl (by decide) rfl ?_
        refine lr_goto (pc := 50) (tgt := 2) C lr_d_Node_receiveTaken_50 (by decide) ?_
        refine lr_sub (ls' := [(0, .inr (5, a0)), (1, .inr (3, a1)), (2, .inl (x2 + 1))]) C [2, 3, 0] rfl ?_
        exact ih (x2 + 1) u3.2 o h kr kx
      · have h := lr_ng hc5 h
        refine lr_aload_n (pc := 23) C lr_d_Node_receiveTaken_23 rfl 0 rfl ?_
        refine lr_g2_97 (pc := 24) C lr_d_Node_receiveTaken_24 ?_
        refine lr_aload_n (pc := 27) C lr_d_Node_receiveTaken_27 rfl 2 rfl ?_
        refine lr_g2_184 (pc := 28) C lr_d_Node_receiveTaken_28 ?_
        refine lr_icmp_ne (pc := 31) (tgt := 47) C lr_d_Node_receiveTaken_31 (by decide) (fun hc6 => ?_) (fun hc6 => ?_)
        · have h := lr_ng hc6 h
          refine lr_iinc (pc := 47) (v := (x2 + 1)) (ls' := [(2, .inl (x2 + 1)), (3, .inr (13, (6 * a0 + x2.toNatClampNeg))), (0, .inr (5, a0)), (1, .inr (3, a1))]) C lr_d_Node_receiveTaken_47 3 rfl rfl (by decide) rfl ?_
          refine lr_goto (pc := 50) (tgt := 2) C lr_d_Node_receiveTaken_50 (by decide) ?_
          refine lr_sub (ls' := [(0, .inr (5, a0)), (1, .inr (3, a1)), (2, .inl (x2 + 1))]) C [2, 3, 0] rfl ?_
          exact ih (x2 + 1) u3.2 o h kr kx
        · have h := lr_ps hc6 h
          refine lr_aload_n (pc := 34) C lr_d_Node_receiveTaken_34 rfl 0 rfl ?_
          refine lr_aload_n (pc := 35) C lr_d_Node_receiveTaken_35 rfl 1 rfl ?_
          refine lr_g2_15 (pc := 36) C lr_d_Node_receiveTaken_36 ?_
          refine lr_g2_71 (pc := 39) C lr_d_Node_receiveTaken_39 ?_
          refine lr_p2_79 (pc := 42) C lr_d_Node_receiveTaken_42 ?_
          refine lr_iconst (pc := 45) (v := 1) C lr_d_Node_receiveTaken_45 (by decide) ?_
          have e := Option.some.inj h
          subst e
          exact lr_iret C (kr _ rfl) lr_d_Node_receiveTaken_46 (by decide)
def lr_G_Node_receiveTaken (n : Nat) (a1 : Nat) (t : lr_S) : Option (Int32 × lr_S) := (lr_L_Node_receiveTaken_2 n a1 600 (0 : Int32) t).bind fun u7 => Sum.elim (fun v9 => some v9) (fun v9 => some ((0 : Int32), v9.2)) u7
set_option maxHeartbeats 4000000 in
theorem lr_r_Node_receiveTaken {n : Nat} {a1 : Nat} {t : lr_S} {o : Int32 × lr_S} (h : lr_G_Node_receiveTaken n a1 t = some o) : lr_RI 0 20 lr_m_Node_receiveTaken [.inr (5, n), .inr (3, a1)] t o.1 o.2 := by
  refine lr_ofI (ty := .boolean) (own := lr_R2) (by decide) rfl rfl (Nat.le_of_ble_eq_true rfl) (fun X C E => ?_)
  show lr_T X 0 [(0, .inr (5, n)), (1, .inr (3, a1))] [] t
  have h := (show ((lr_L_Node_receiveTaken_2 n a1 600 (0 : Int32) t).bind fun u7 => Sum.elim (fun v9 => some v9) (fun v9 => some ((0 : Int32), v9.2)) u7) = some o from h)
  refine lr_iconst (pc := 0) (v := 0) C lr_d_Node_receiveTaken_0 (by decide) ?_
  refine lr_istore_n (pc := 1) (ls' := [(2, .inl (0 : Int32)), (0, .inr (5, n)), (1, .inr (3, a1))]) C lr_d_Node_receiveTaken_1 rfl (by decide) rfl ?_
  refine lr_sub (ls' := [(0, .inr (5, n)), (1, .inr (3, a1)), (2, .inl (0 : Int32))]) C [1, 2, 0] rfl ?_
  obtain ⟨u7, hu8, h⟩ := lr_bd h
  refine lr_t_Node_receiveTaken_2 C n a1 600 (0 : Int32) t u7 hu8 (fun v9 e10 => ?_) (fun v9 e10 => ?_)
  · subst e10
    have e := Option.some.inj h
    subst e
    exact E
  · subst e10
    have h := (show (some ((0 : Int32), v9.2)) = some o from h)
    refine lr_iconst (pc := 53) (v := 0) C lr_d_Node_receiveTaken_53 (by decide) ?_
    have e := Option.some.inj h
    subst e
    exact lr_iret C E lr_d_Node_receiveTaken_54 (by decide)
def lr_G_Node_receiveDirty (n : Nat) (a1 : Nat) (t : lr_S) : Option (Int32 × lr_S) := (lr_G_Node_slotWith n (lr_rd t 3 a1 3) t).bind fun u1 => (if u1.1 = (-1 : Int32) then ((lr_G_Network_send (4 : Int32) (lr_rd u1.2 5 n 0) (lr_rd t 3 a1 1) (lr_rd u1.2 3 a1 3) (lr_rd u1.2 3 a1 4) (lr_rd u1.2 3 a1 5) u1.2).bind fun u16 => (some ((1 : Int32), u16))) else (if lr_in u1.1 8 = true then (if lr_in (lr_rd t 3 a1 1) 4 = true then (if (lr_rd u1.2 3 a1 4) ≤ (lr_rd u1.2 9 (8 * n + u1.1.toNatClampNeg) (lr_rd t 3 a1 1).toNatClampNeg) then (if (lr_rd u1.2 1 0 0) < (lr_rd u1.2 10 (8 * n + u1.1.toNatClampNeg) (lr_rd t 3 a1 1).toNatClampNeg) then ((lr_G_Network_send (3 : Int32) (lr_rd u1.2 5 n 0) (lr_rd t 3 a1 1) (lr_rd u1.2 3 a1 3) (lr_rd u1.2 3 a1 4) (lr_rd u1.2 3 a1 5) u1.2).bind fun u8 => (some ((1 : Int32), u8))) else (some ((0 : Int32), u1.2))) else ((some (lr_wr u1.2 9 (8 * n + u1.1.toNatClampNeg) (lr_rd t 3 a1 1).toNatClampNeg (lr_rd u1.2 3 a1 4))).bind fun t10 => ((some (lr_wr t10 10 (8 * n + u1.1.toNatClampNeg) (lr_rd t 3 a1 1).toNatClampNeg ((lr_rd t10 1 0 0) + (24 : Int32)))).bind fun t12 => ((lr_G_Network_send (3 : Int32) (lr_rd t12 5 n 0) (lr_rd t 3 a1 1) (lr_rd t12 3 a1 3) (lr_rd t12 3 a1 4) (lr_rd t12 3 a1 5) t12).bind fun u14 => (some ((1 : Int32), u14)))))) else none) else none))
set_option maxHeartbeats 4000000 in
theorem lr_r_Node_receiveDirty {n : Nat} {a1 : Nat} {t : lr_S} {o : Int32 × lr_S} (h : lr_G_Node_receiveDirty n a1 t = some o) : lr_RI 0 20 lr_m_Node_receiveDirty [.inr (5, n), .inr (3, a1)] t o.1 o.2 := by
  refine lr_ofI (ty := .boolean) (own := lr_R2) (by decide) rfl rfl (Nat.le_of_ble_eq_true rfl) (fun X C E => ?_)
  show lr_T X 0 [(0, .inr (5, n)), (1, .inr (3, a1))] [] t
  have h := (show ((lr_G_Node_slotWith n (lr_rd t 3 a1 3) t).bind fun u1 => (if u1.1 = (-1 : Int32) then ((lr_G_Network_send (4 : Int32) (lr_rd u1.2 5 n 0) (lr_rd t 3 a1 1) (lr_rd u1.2 3 a1 3) (lr_rd u1.2 3 a1 4) (lr_rd u1.2 3 a1 5) u1.2).bind fun u16 => (some ((1 : Int32), u16))) else (if lr_in u1.1 8 = true then (if lr_in (lr_rd t 3 a1 1) 4 = true then (if (lr_rd u1.2 3 a1 4) ≤ (lr_rd u1.2 9 (8 * n + u1.1.toNatClampNeg) (lr_rd t 3 a1 1).toNatClampNeg) then (if (lr_rd u1.2 1 0 0) < (lr_rd u1.2 10 (8 * n + u1.1.toNatClampNeg) (lr_rd t 3 a1 1).toNatClampNeg) then ((lr_G_Network_send (3 : Int32) (lr_rd u1.2 5 n 0) (lr_rd t 3 a1 1) (lr_rd u1.2 3 a1 3) (lr_rd u1.2 3 a1 4) (lr_rd u1.2 3 a1 5) u1.2).bind fun u8 => (some ((1 : Int32), u8))) else (some ((0 : Int32), u1.2))) else ((some (lr_wr u1.2 9 (8 * n + u1.1.toNatClampNeg) (lr_rd t 3 a1 1).toNatClampNeg (lr_rd u1.2 3 a1 4))).bind fun t10 => ((some (lr_wr t10 10 (8 * n + u1.1.toNatClampNeg) (lr_rd t 3 a1 1).toNatClampNeg ((lr_rd t10 1 0 0) + (24 : Int32)))).bind fun t12 => ((lr_G_Network_send (3 : Int32) (lr_rd t12 5 n 0) (lr_rd t 3 a1 1) (lr_rd t12 3 a1 3) (lr_rd t12 3 a1 4) (lr_rd t12 3 a1 5) t12).bind fun u14 => (some ((1 : Int32), u14)))))) else none) else none))) = some o from h)
  refine lr_aload_n (pc := 0) C lr_d_Node_receiveDirty_0 rfl 1 rfl ?_
  refine lr_g2_181 (pc := 1) C lr_d_Node_receiveDirty_1 ?_
  refine lr_istore_n (pc := 4) (ls' := [(2, .inl (lr_rd t 3 a1 1)), (0, .inr (5, n)), (1, .inr (3, a1))]) C lr_d_Node_receiveDirty_4 rfl (by decide) rfl ?_
  refine lr_aload_n (pc := 5) C lr_d_Node_receiveDirty_5 rfl 1 rfl ?_
  refine lr_aload_n (pc := 6) C lr_d_Node_receiveDirty_6 rfl 2 rfl ?_
  refine lr_g2_167 (pc := 7) C lr_d_Node_receiveDirty_7 ?_
  obtain ⟨u1, hu2, h⟩ := lr_bd h
  refine lr_callVi (pc := 10) (as := [.inl (lr_rd t 3 a1 3)]) (st := []) (fs := fun ad => lr_fs2 t n ad) C (lr_r_Node_slotWith hu2) lr_c2_168 lr_d_Node_receiveDirty_10 rfl rfl (fun _ _ => rfl) (ci := 2) rfl rfl ⟨by decide, by decide⟩ (Nat.le_of_ble_eq_true rfl) ?_
  refine lr_istore_n (pc := 13) (ls' := [(3, .inl u1.1), (2, .inl (lr_rd t 3 a1 1)), (0, .inr (5, n)), (1, .inr (3, a1))]) C lr_d_Node_receiveDirty_13 rfl (by decide) rfl ?_
  refine lr_iload_n (pc := 14) C lr_d_Node_receiveDirty_14 rfl 0 rfl ?_
  refine lr_iconst (pc := 15) (v := -1) C lr_d_Node_receiveDirty_15 (by decide) ?_
  refine lr_icmp_ne (pc := 16) (tgt := 46) C lr_d_Node_receiveDirty_16 (by decide) (fun hc3 => ?_) (fun hc3 => ?_)
  · have h := lr_ng hc3 h
    refine lr_aload_n (pc := 46) C lr_d_Node_receiveDirty_46 rfl 2 rfl ?_
    refine lr_g2_21 (pc := 47) C lr_d_Node_receiveDirty_47 ?_
    refine lr_iload_n (pc := 50) C lr_d_Node_receiveDirty_50 rfl 0 rfl ?_
    obtain ⟨hb4, h⟩ := lr_gd h
    refine lr_a6 (pc := 51) C lr_d_Node_receiveDirty_51 hb4 ?_
    refine lr_astore (pc := 52) (ls' := [(4, .inr (7, (8 * n + u1.1.toNatClampNeg))), (3, .inl u1.1), (2, .inl (lr_rd t 3 a1 1)), (0, .inr (5, n)), (1, .inr (3, a1))]) C lr_d_Node_receiveDirty_52 (by decide) rfl ?_
    refine lr_aload_n (pc := 54) C lr_d_Node_receiveDirty_54 rfl 4 rfl ?_
    refine lr_g2_184 (pc := 55) C lr_d_Node_receiveDirty_55 ?_
    refine lr_aload (pc := 58) C lr_d_Node_receiveDirty_58 0 rfl ?_
    refine lr_g2_189 (pc := 60) C lr_d_Node_receiveDirty_60 ?_
    refine lr_iload_n (pc := 63) C lr_d_Node_receiveDirty_63 rfl 2 rfl ?_
    obtain ⟨hb5, h⟩ := lr_gd h
    refine lr_li9 (pc := 64) C lr_d_Node_receiveDirty_64 hb5 ?_
    refine lr_icmp_le (pc := 65) (tgt := 99) C lr_d_Node_receiveDirty_65 (by decide) (fun hc6 => ?_) (fun hc6 => ?_)
    · have h := lr_ps hc6 h
      refine lr_aload_n (pc := 99) C lr_d_Node_receiveDirty_99 rfl 3 rfl ?_
      refine lr_g2_15 (pc := 100) C lr_d_Node_receiveDirty_100 ?_
      refine lr_g2_71 (pc := 103) C lr_d_Node_receiveDirty_103 ?_
      refine lr_aload (pc := 106) C lr_d_Node_receiveDirty_106 0 rfl ?_
      refine lr_g2_192 (pc := 108) C lr_d_Node_receiveDirty_108 ?_
      refine lr_iload_n (pc := 111) C lr_d_Node_receiveDirty_111 rfl 2 rfl ?_
      refine lr_li10 (pc := 112) C lr_d_Node_receiveDirty_112 hb5 ?_
      refine lr_icmp_lt (pc := 113) (tgt := 118) C lr_d_Node_receiveDirty_113 (by decide) (fun hc7 => ?_) (fun hc7 => ?_)
      · have h := lr_ps hc7 h
        refine lr_aload_n (pc := 118) C lr_d_Node_receiveDirty_118 rfl 3 rfl ?_
        refine lr_g2_15 (pc := 119) C lr_d_Node_receiveDirty_119 ?_
        refine lr_iconst (pc := 122) (v := 3) C lr_d_Node_receiveDirty_122 (by decide) ?_
        refine lr_aload_n (pc := 123) C lr_d_Node_receiveDirty_123 rfl 3 rfl ?_
        refine lr_g2_9 (pc := 124) C lr_d_Node_receiveDirty_124 ?_
        refine lr_iload_n (pc := 127) C lr_d_Node_receiveDirty_127 rfl 2 rfl ?_
        refine lr_aload_n (pc := 128) C lr_d_Node_receiveDirty_128 rfl 4 rfl ?_
        refine lr_g2_167 (pc := 129) C lr_d_Node_receiveDirty_129 ?_
        refine lr_aload_n (pc := 132) C lr_d_Node_receiveDirty_132 rfl 4 rfl ?_
        refine lr_g2_184 (pc := 133) C lr_d_Node_receiveDirty_133 ?_
        refine lr_aload_n (pc := 136) C lr_d_Node_receiveDirty_136 rfl 4 rfl ?_
        refine lr_g2_171 (pc := 137) C lr_d_Node_receiveDirty_137 ?_
        obtain ⟨u8, hu9, h⟩ := lr_bd h
        refine lr_callVv (pc := 140) (as := [.inl (3 : Int32), .inl (lr_rd u1.2 5 n 0), .inl (lr_rd t 3 a1 1), .inl (lr_rd u1.2 3 a1 3), .inl (lr_rd u1.2 3 a1 4), .inl (lr_rd u1.2 3 a1 5)]) (st := []) (fs := fun ad => lr_fs1 u1.2 0 ad) C (lr_r_Network_send hu9) lr_c2_93 lr_d_Node_receiveDirty_140 rfl rfl (fun _ _ => rfl) (ci := 1) rfl rfl ⟨by decide, by decide⟩ (Nat.le_of_ble_eq_true rfl) ?_
        refine lr_iconst (pc := 143) (v := 1) C lr_d_Node_receiveDirty_143 (by decide) ?_
        have e := Option.some.inj h
        subst e
        exact lr_iret C E lr_d_Node_receiveDirty_144 (by decide)
      · have h := lr_ng hc7 h
        refine lr_iconst (pc := 116) (v := 0) C lr_d_Node_receiveDirty_116 (by decide) ?_
        have e := Option.some.inj h
        subst e
        exact lr_iret C E lr_d_Node_receiveDirty_117 (by decide)
    · have h := lr_ng hc6 h
      refine lr_aload (pc := 68) C lr_d_Node_receiveDirty_68 0 rfl ?_
      refine lr_g2_189 (pc := 70) C lr_d_Node_receiveDirty_70 ?_
      refine lr_iload_n (pc := 73) C lr_d_Node_receiveDirty_73 rfl 2 rfl ?_
      refine lr_aload_n (pc := 74) C lr_d_Node_receiveDirty_74 rfl 4 rfl ?_
      refine lr_g2_184 (pc := 75) C lr_d_Node_receiveDirty_75 ?_
      refine lr_si9 (pc := 78) C lr_d_Node_receiveDirty_78 hb5 ?_
      obtain ⟨t10, ht11, h⟩ := lr_bd h
      rw [Option.some.inj ht11]
      refine lr_aload (pc := 79) C lr_d_Node_receiveDirty_79 0 rfl ?_
      refine lr_g2_192 (pc := 81) C lr_d_Node_receiveDirty_81 ?_
      refine lr_iload_n (pc := 84) C lr_d_Node_receiveDirty_84 rfl 2 rfl ?_
      refine lr_aload_n (pc := 85) C lr_d_Node_receiveDirty_85 rfl 3 rfl ?_
      refine lr_g2_15 (pc := 86) C lr_d_Node_receiveDirty_86 ?_
      refine lr_g2_71 (pc := 89) C lr_d_Node_receiveDirty_89 ?_
      refine lr_bipush (pc := 92) (v := 24) C lr_d_Node_receiveDirty_92 (by decide) ?_
      refine lr_iadd (pc := 94) C lr_d_Node_receiveDirty_94 ?_
      refine lr_si10 (pc := 95) C lr_d_Node_receiveDirty_95 hb5 ?_
      obtain ⟨t12, ht13, h⟩ := lr_bd h
      rw [Option.some.inj ht13]
      refine lr_goto (pc := 96) (tgt := 118) C lr_d_Node_receiveDirty_96 (by decide) ?_
      refine lr_aload_n (pc := 118) C lr_d_Node_receiveDirty_118 rfl 3 rfl ?_
      refine lr_g2_15 (pc := 119) C lr_d_Node_receiveDirty_119 ?_
      refine lr_iconst (pc := 122) (v := 3) C lr_d_Node_receiveDirty_122 (by decide) ?_
      refine lr_aload_n (pc := 123) C lr_d_Node_receiveDirty_123 rfl 3 rfl ?_
      refine lr_g2_9 (pc := 124) C lr_d_Node_receiveDirty_124 ?_
      refine lr_iload_n (pc := 127) C lr_d_Node_receiveDirty_127 rfl 2 rfl ?_
      refine lr_aload_n (pc := 128) C lr_d_Node_receiveDirty_128 rfl 4 rfl ?_
      refine lr_g2_167 (pc := 129) C lr_d_Node_receiveDirty_129 ?_
      refine lr_aload_n (pc := 132) C lr_d_Node_receiveDirty_132 rfl 4 rfl ?_
      refine lr_g2_184 (pc := 133) C lr_d_Node_receiveDirty_133 ?_
      refine lr_aload_n (pc := 136) C lr_d_Node_receiveDirty_136 rfl 4 rfl ?_
      refine lr_g2_171 (pc := 137) C lr_d_Node_receiveDirty_137 ?_
      obtain ⟨u14, hu15, h⟩ := lr_bd h
      refine lr_callVv (pc := 140) (as := [.inl (3 : Int32), .inl (lr_rd t12 5 n 0), .inl (lr_rd t 3 a1 1), .inl (lr_rd t12 3 a1 3), .inl (lr_rd t12 3 a1 4), .inl (lr_rd t12 3 a1 5)]) (st := []) (fs := fun ad => lr_fs1 t12 0 ad) C (lr_r_Network_send hu15) lr_c2_93 lr_d_Node_receiveDirty_140 rfl rfl (fun _ _ => rfl) (ci := 1) rfl rfl ⟨by decide, by decide⟩ (Nat.le_of_ble_eq_true rfl) ?_
      refine lr_iconst (pc := 143) (v := 1) C lr_d_Node_receiveDirty_143 (by decide) ?_
      have e := Option.some.inj h
      subst e
      exact lr_iret C E lr_d_Node_receiveDirty_144 (by decide)
  · have h := lr_ps hc3 h
    refine lr_aload_n (pc := 19) C lr_d_Node_receiveDirty_19 rfl 2 rfl ?_
    refine lr_g2_15 (pc := 20) C lr_d_Node_receiveDirty_20 ?_
    refine lr_iconst (pc := 23) (v := 4) C lr_d_Node_receiveDirty_23 (by decide) ?_
    refine lr_aload_n (pc := 24) C lr_d_Node_receiveDirty_24 rfl 2 rfl ?_
    refine lr_g2_9 (pc := 25) C lr_d_Node_receiveDirty_25 ?_
    refine lr_iload_n (pc := 28) C lr_d_Node_receiveDirty_28 rfl 1 rfl ?_
    refine lr_aload_n (pc := 29) C lr_d_Node_receiveDirty_29 rfl 3 rfl ?_
    refine lr_g2_167 (pc := 30) C lr_d_Node_receiveDirty_30 ?_
    refine lr_aload_n (pc := 33) C lr_d_Node_receiveDirty_33 rfl 3 rfl ?_
    refine lr_g2_184 (pc := 34) C lr_d_Node_receiveDirty_34 ?_
    refine lr_aload_n (pc := 37) C lr_d_Node_receiveDirty_37 rfl 3 rfl ?_
    refine lr_g2_171 (pc := 38) C lr_d_Node_receiveDirty_38 ?_
    obtain ⟨u16, hu17, h⟩ := lr_bd h
    refine lr_callVv (pc := 41) (as := [.inl (4 : Int32), .inl (lr_rd u1.2 5 n 0), .inl (lr_rd t 3 a1 1), .inl (lr_rd u1.2 3 a1 3), .inl (lr_rd u1.2 3 a1 4), .inl (lr_rd u1.2 3 a1 5)]) (st := []) (fs := fun ad => lr_fs1 u1.2 0 ad) C (lr_r_Network_send hu17) lr_c2_93 lr_d_Node_receiveDirty_41 rfl rfl (fun _ _ => rfl) (ci := 1) rfl rfl ⟨by decide, by decide⟩ (Nat.le_of_ble_eq_true rfl) ?_
    refine lr_iconst (pc := 44) (v := 1) C lr_d_Node_receiveDirty_44 (by decide) ?_
    have e := Option.some.inj h
    subst e
    exact lr_iret C E lr_d_Node_receiveDirty_45 (by decide)
def lr_G_Node_concerns (n : Nat) (a1 : Nat) (a2 : Int32) (t : lr_S) : Option (Int32 × lr_S) := if a2 = (-1 : Int32) then (some ((0 : Int32), t)) else (if lr_in a2 8 = true then ((lr_G_Slot_isFreshSurrogate (8 * n + a2.toNatClampNeg) (lr_rd t 1 0 0) t).bind fun u3 => (if u3.1 = 0 then (some ((0 : Int32), u3.2)) else (if (lr_rd u3.2 3 a1 4) < (lr_rd u3.2 7 (8 * n + a2.toNatClampNeg) 7) then (some ((0 : Int32), u3.2)) else (some ((1 : Int32), u3.2))))) else none)
set_option maxHeartbeats 4000000 in
theorem lr_r_Node_concerns {n : Nat} {a1 : Nat} {a2 : Int32} {t : lr_S} {o : Int32 × lr_S} (h : lr_G_Node_concerns n a1 a2 t = some o) : lr_RI 0 20 lr_m_Node_concerns [.inr (5, n), .inr (3, a1), .inl a2] t o.1 o.2 := by
  refine lr_ofI (ty := .boolean) (own := lr_R2) (by decide) rfl rfl (Nat.le_of_ble_eq_true rfl) (fun X C E => ?_)
  show lr_T X 0 [(0, .inr (5, n)), (1, .inr (3, a1)), (2, .inl a2)] [] t
  have h := (show (if a2 = (-1 : Int32) then (some ((0 : Int32), t)) else (if lr_in a2 8 = true then ((lr_G_Slot_isFreshSurrogate (8 * n + a2.toNatClampNeg) (lr_rd t 1 0 0) t).bind fun u3 => (if u3.1 = 0 then (some ((0 : Int32), u3.2)) else (if (lr_rd u3.2 3 a1 4) < (lr_rd u3.2 7 (8 * n + a2.toNatClampNeg) 7) then (some ((0 : Int32), u3.2)) else (some ((1 : Int32), u3.2))))) else none)) = some o from h)
  refine lr_iload_n (pc := 0) C lr_d_Node_concerns_0 rfl 2 rfl ?_
  refine lr_iconst (pc := 1) (v := -1) C lr_d_Node_concerns_1 (by decide) ?_
  refine lr_icmp_eq (pc := 2) (tgt := 44) C lr_d_Node_concerns_2 (by decide) (fun hc1 => ?_) (fun hc1 => ?_)
  · have h := lr_ps hc1 h
    refine lr_iconst (pc := 44) (v := 0) C lr_d_Node_concerns_44 (by decide) ?_
    have e := Option.some.inj h
    subst e
    exact lr_iret C E lr_d_Node_concerns_45 (by decide)
  · have h := lr_ng hc1 h
    refine lr_aload_n (pc := 5) C lr_d_Node_concerns_5 rfl 0 rfl ?_
    refine lr_g2_21 (pc := 6) C lr_d_Node_concerns_6 ?_
    refine lr_iload_n (pc := 9) C lr_d_Node_concerns_9 rfl 2 rfl ?_
    obtain ⟨hb2, h⟩ := lr_gd h
    refine lr_a6 (pc := 10) C lr_d_Node_concerns_10 hb2 ?_
    refine lr_aload_n (pc := 11) C lr_d_Node_concerns_11 rfl 0 rfl ?_
    refine lr_g2_15 (pc := 12) C lr_d_Node_concerns_12 ?_
    refine lr_g2_71 (pc := 15) C lr_d_Node_concerns_15 ?_
    obtain ⟨u3, hu4, h⟩ := lr_bd h
    refine lr_callVi (pc := 18) (as := [.inl (lr_rd t 1 0 0)]) (st := []) (fs := fun ad => lr_fs5 t (8 * n + a2.toNatClampNeg) ad) C (lr_r_Slot_isFreshSurrogate hu4) lr_c2_132 lr_d_Node_concerns_18 rfl rfl (fun _ _ => rfl) (ci := 5) rfl rfl ⟨by decide, by decide⟩ (Nat.le_of_ble_eq_true rfl) ?_
    refine lr_if_eq (pc := 21) (tgt := 44) C lr_d_Node_concerns_21 (by decide) (fun hc5 => ?_) (fun hc5 => ?_)
    · have h := lr_ps hc5 h
      refine lr_iconst (pc := 44) (v := 0) C lr_d_Node_concerns_44 (by decide) ?_
      have e := Option.some.inj h
      subst e
      exact lr_iret C E lr_d_Node_concerns_45 (by decide)
    · have h := lr_ng hc5 h
      refine lr_aload_n (pc := 24) C lr_d_Node_concerns_24 rfl 1 rfl ?_
      refine lr_g2_184 (pc := 25) C lr_d_Node_concerns_25 ?_
      refine lr_aload_n (pc := 28) C lr_d_Node_concerns_28 rfl 0 rfl ?_
      refine lr_g2_21 (pc := 29) C lr_d_Node_concerns_29 ?_
      refine lr_iload_n (pc := 32) C lr_d_Node_concerns_32 rfl 2 rfl ?_
      refine lr_a6 (pc := 33) C lr_d_Node_concerns_33 hb2 ?_
      refine lr_g2_125 (pc := 34) C lr_d_Node_concerns_34 ?_
      refine lr_icmp_lt (pc := 37) (tgt := 44) C lr_d_Node_concerns_37 (by decide) (fun hc6 => ?_) (fun hc6 => ?_)
      · have h := lr_ps hc6 h
        refine lr_iconst (pc := 44) (v := 0) C lr_d_Node_concerns_44 (by decide) ?_
        have e := Option.some.inj h
        subst e
        exact lr_iret C E lr_d_Node_concerns_45 (by decide)
      · have h := lr_ng hc6 h
        refine lr_iconst (pc := 40) (v := 1) C lr_d_Node_concerns_40 (by decide) ?_
        refine lr_goto (pc := 41) (tgt := 45) C lr_d_Node_concerns_41 (by decide) ?_
        have e := Option.some.inj h
        subst e
        exact lr_iret C E lr_d_Node_concerns_45 (by decide)
def lr_G_Node_receiveListed (n : Nat) (a1 : Nat) (t : lr_S) : Option (Int32 × lr_S) := (lr_G_Node_slotWith n (lr_rd t 3 a1 3) t).bind fun u1 => ((lr_G_Node_concerns n a1 u1.1 u1.2).bind fun u3 => (if u3.1 = 0 then (some ((0 : Int32), u3.2)) else (if lr_in u1.1 8 = true then ((some (lr_wr u3.2 7 (8 * n + u1.1.toNatClampNeg) 9 (if (lr_rd u3.2 7 (8 * n + u1.1.toNatClampNeg) 9) < ((lr_rd u3.2 3 a1 5) + (24 : Int32)) then ((lr_rd u3.2 3 a1 5) + (24 : Int32)) else (lr_rd u3.2 7 (8 * n + u1.1.toNatClampNeg) 9)))).bind fun t7 => (if (lr_rd t7 7 (8 * n + u1.1.toNatClampNeg) 10) = 0 then ((lr_G_Network_send (1 : Int32) (lr_rd (lr_wr t7 7 (8 * n + u1.1.toNatClampNeg) 10 (1 : Int32)) 5 n 0) (lr_rd (lr_wr t7 7 (8 * n + u1.1.toNatClampNeg) 10 (1 : Int32)) 7 (8 * n + u1.1.toNatClampNeg) 11) (lr_rd (lr_wr t7 7 (8 * n + u1.1.toNatClampNeg) 10 (1 : Int32)) 7 (8 * n + u1.1.toNatClampNeg) 1) (lr_rd (lr_wr t7 7 (8 * n + u1.1.toNatClampNeg) 10 (1 : Int32)) 7 (8 * n + u1.1.toNatClampNeg) 12) (0 : Int32) (lr_wr t7 7 (8 * n + u1.1.toNatClampNeg) 10 (1 : Int32))).bind fun u10 => (some ((1 : Int32), u10))) else (some ((1 : Int32), t7)))) else none)))
set_option maxHeartbeats 4000000 in
theorem lr_r_Node_receiveListed {n : Nat} {a1 : Nat} {t : lr_S} {o : Int32 × lr_S} (h : lr_G_Node_receiveListed n a1 t = some o) : lr_RI 0 20 lr_m_Node_receiveListed [.inr (5, n), .inr (3, a1)] t o.1 o.2 := by
  refine lr_ofI (ty := .boolean) (own := lr_R2) (by decide) rfl rfl (Nat.le_of_ble_eq_true rfl) (fun X C E => ?_)
  show lr_T X 0 [(0, .inr (5, n)), (1, .inr (3, a1))] [] t
  have h := (show ((lr_G_Node_slotWith n (lr_rd t 3 a1 3) t).bind fun u1 => ((lr_G_Node_concerns n a1 u1.1 u1.2).bind fun u3 => (if u3.1 = 0 then (some ((0 : Int32), u3.2)) else (if lr_in u1.1 8 = true then ((some (lr_wr u3.2 7 (8 * n + u1.1.toNatClampNeg) 9 (if (lr_rd u3.2 7 (8 * n + u1.1.toNatClampNeg) 9) < ((lr_rd u3.2 3 a1 5) + (24 : Int32)) then ((lr_rd u3.2 3 a1 5) + (24 : Int32)) else (lr_rd u3.2 7 (8 * n + u1.1.toNatClampNeg) 9)))).bind fun t7 => (if (lr_rd t7 7 (8 * n + u1.1.toNatClampNeg) 10) = 0 then ((lr_G_Network_send (1 : Int32) (lr_rd (lr_wr t7 7 (8 * n + u1.1.toNatClampNeg) 10 (1 : Int32)) 5 n 0) (lr_rd (lr_wr t7 7 (8 * n + u1.1.toNatClampNeg) 10 (1 : Int32)) 7 (8 * n + u1.1.toNatClampNeg) 11) (lr_rd (lr_wr t7 7 (8 * n + u1.1.toNatClampNeg) 10 (1 : Int32)) 7 (8 * n + u1.1.toNatClampNeg) 1) (lr_rd (lr_wr t7 7 (8 * n + u1.1.toNatClampNeg) 10 (1 : Int32)) 7 (8 * n + u1.1.toNatClampNeg) 12) (0 : Int32) (lr_wr t7 7 (8 * n + u1.1.toNatClampNeg) 10 (1 : Int32))).bind fun u10 => (some ((1 : Int32), u10))) else (some ((1 : Int32), t7)))) else none)))) = some o from h)
  refine lr_aload_n (pc := 0) C lr_d_Node_receiveListed_0 rfl 0 rfl ?_
  refine lr_aload_n (pc := 1) C lr_d_Node_receiveListed_1 rfl 1 rfl ?_
  refine lr_g2_167 (pc := 2) C lr_d_Node_receiveListed_2 ?_
  obtain ⟨u1, hu2, h⟩ := lr_bd h
  refine lr_callVi (pc := 5) (as := [.inl (lr_rd t 3 a1 3)]) (st := []) (fs := fun ad => lr_fs2 t n ad) C (lr_r_Node_slotWith hu2) lr_c2_168 lr_d_Node_receiveListed_5 rfl rfl (fun _ _ => rfl) (ci := 2) rfl rfl ⟨by decide, by decide⟩ (Nat.le_of_ble_eq_true rfl) ?_
  refine lr_istore_n (pc := 8) (ls' := [(2, .inl u1.1), (0, .inr (5, n)), (1, .inr (3, a1))]) C lr_d_Node_receiveListed_8 rfl (by decide) rfl ?_
  refine lr_aload_n (pc := 9) C lr_d_Node_receiveListed_9 rfl 1 rfl ?_
  refine lr_aload_n (pc := 10) C lr_d_Node_receiveListed_10 rfl 2 rfl ?_
  refine lr_iload_n (pc := 11) C lr_d_Node_receiveListed_11 rfl 0 rfl ?_
  obtain ⟨u3, hu4, h⟩ := lr_bd h
  refine lr_callVi (pc := 12) (as := [.inr (3, a1), .inl u1.1]) (st := []) (fs := fun ad => lr_fs2 u1.2 n ad) C (lr_r_Node_concerns hu4) lr_c2_195 lr_d_Node_receiveListed_12 rfl rfl (fun _ _ => rfl) (ci := 2) rfl rfl ⟨by decide, by decide⟩ (Nat.le_of_ble_eq_true rfl) ?_
  refine lr_if_ne (pc := 15) (tgt := 20) C lr_d_Node_receiveListed_15 (by decide) (fun hc5 => ?_) (fun hc5 => ?_)
  · have h := lr_ng hc5 h
    refine lr_aload_n (pc := 20) C lr_d_Node_receiveListed_20 rfl 1 rfl ?_
    refine lr_g2_21 (pc := 21) C lr_d_Node_receiveListed_21 ?_
    refine lr_iload_n (pc := 24) C lr_d_Node_receiveListed_24 rfl 0 rfl ?_
    obtain ⟨hb6, h⟩ := lr_gd h
    refine lr_a6 (pc := 25) C lr_d_Node_receiveListed_25 hb6 ?_
    refine lr_astore_n (pc := 26) (ls' := [(3, .inr (7, (8 * n + u1.1.toNatClampNeg))), (2, .inl u1.1), (0, .inr (5, n)), (1, .inr (3, a1))]) C lr_d_Node_receiveListed_26 rfl (by decide) rfl ?_
    refine lr_aload_n (pc := 27) C lr_d_Node_receiveListed_27 rfl 0 rfl ?_
    refine lr_aload_n (pc := 28) C lr_d_Node_receiveListed_28 rfl 0 rfl ?_
    refine lr_g2_118 (pc := 29) C lr_d_Node_receiveListed_29 ?_
    refine lr_aload_n (pc := 32) C lr_d_Node_receiveListed_32 rfl 3 rfl ?_
    refine lr_g2_171 (pc := 33) C lr_d_Node_receiveListed_33 ?_
    refine lr_bipush (pc := 36) (v := 24) C lr_d_Node_receiveListed_36 (by decide) ?_
    refine lr_iadd (pc := 38) C lr_d_Node_receiveListed_38 ?_
    refine lr_mx2_199 (pc := 39) C lr_d_Node_receiveListed_39 (by decide) (Nat.le_of_ble_eq_true rfl) ?_
    refine lr_p2_118 (pc := 42) C lr_d_Node_receiveListed_42 ?_
    obtain ⟨t7, ht8, h⟩ := lr_bd h
    rw [Option.some.inj ht8]
    refine lr_aload_n (pc := 45) C lr_d_Node_receiveListed_45 rfl 0 rfl ?_
    refine lr_g2_115 (pc := 46) C lr_d_Node_receiveListed_46 ?_
    refine lr_if_ne (pc := 49) (tgt := 82) C lr_d_Node_receiveListed_49 (by decide) (fun hc9 => ?_) (fun hc9 => ?_)
    · have h := lr_ng hc9 h
      refine lr_iconst (pc := 82) (v := 1) C lr_d_Node_receiveListed_82 (by decide) ?_
      have e := Option.some.inj h
      subst e
      exact lr_iret C E lr_d_Node_receiveListed_83 (by decide)
    · have h := lr_ps hc9 h
      refine lr_aload_n (pc := 52) C lr_d_Node_receiveListed_52 rfl 0 rfl ?_
      refine lr_iconst (pc := 53) (v := 1) C lr_d_Node_receiveListed_53 (by decide) ?_
      refine lr_p2_115 (pc := 54) C lr_d_Node_receiveListed_54 (by decide) (by decide) ?_
      refine lr_aload_n (pc := 57) C lr_d_Node_receiveListed_57 rfl 2 rfl ?_
      refine lr_g2_15 (pc := 58) C lr_d_Node_receiveListed_58 ?_
      refine lr_iconst (pc := 61) (v := 1) C lr_d_Node_receiveListed_61 (by decide) ?_
      refine lr_aload_n (pc := 62) C lr_d_Node_receiveListed_62 rfl 2 rfl ?_
      refine lr_g2_9 (pc := 63) C lr_d_Node_receiveListed_63 ?_
      refine lr_aload_n (pc := 66) C lr_d_Node_receiveListed_66 rfl 0 rfl ?_
      refine lr_g2_205 (pc := 67) C lr_d_Node_receiveListed_67 ?_
      refine lr_aload_n (pc := 70) C lr_d_Node_receiveListed_70 rfl 0 rfl ?_
      refine lr_g2_68 (pc := 71) C lr_d_Node_receiveListed_71 ?_
      refine lr_aload_n (pc := 74) C lr_d_Node_receiveListed_74 rfl 0 rfl ?_
      refine lr_g2_208 (pc := 75) C lr_d_Node_receiveListed_75 ?_
      refine lr_iconst (pc := 78) (v := 0) C lr_d_Node_receiveListed_78 (by decide) ?_
      obtain ⟨u10, hu11, h⟩ := lr_bd h
      refine lr_callVv (pc := 79) (as := [.inl (1 : Int32), .inl (lr_rd (lr_wr t7 7 (8 * n + u1.1.toNatClampNeg) 10 (1 : Int32)) 5 n 0), .inl (lr_rd (lr_wr t7 7 (8 * n + u1.1.toNatClampNeg) 10 (1 : Int32)) 7 (8 * n + u1.1.toNatClampNeg) 11), .inl (lr_rd (lr_wr t7 7 (8 * n + u1.1.toNatClampNeg) 10 (1 : Int32)) 7 (8 * n + u1.1.toNatClampNeg) 1), .inl (lr_rd (lr_wr t7 7 (8 * n + u1.1.toNatClampNeg) 10 (1 : Int32)) 7 (8 * n + u1.1.toNatClampNeg) 12), .inl (0 : Int32)]) (st := []) (fs := fun ad => lr_fs1 (lr_wr t7 7 (8 * n + u1.1.toNatClampNeg) 10 (1 : Int32)) 0 ad) C (lr_r_Network_send hu11) lr_c2_93 lr_d_Node_receiveListed_79 rfl rfl (fun _ _ => rfl) (ci := 1) rfl rfl ⟨by decide, by decide⟩ (Nat.le_of_ble_eq_true rfl) ?_
      refine lr_iconst (pc := 82) (v := 1) C lr_d_Node_receiveListed_82 (by decide) ?_
      have e := Option.some.inj h
      subst e
      exact lr_iret C E lr_d_Node_receiveListed_83 (by decide)
  · have h := lr_ps hc5 h
    refine lr_iconst (pc := 18) (v := 0) C lr_d_Node_receiveListed_18 (by decide) ?_
    have e := Option.some.inj h
    subst e
    exact lr_iret C E lr_d_Node_receiveListed_19 (by decide)
def lr_G_Node_receiveGone (n : Nat) (a1 : Nat) (t : lr_S) : Option (Int32 × lr_S) := (lr_G_Node_slotWith n (lr_rd t 3 a1 3) t).bind fun u1 => ((lr_G_Node_concerns n a1 u1.1 u1.2).bind fun u3 => (if u3.1 = 0 then (some ((0 : Int32), u3.2)) else (if lr_in u1.1 8 = true then (some ((1 : Int32), (lr_wr u3.2 7 (8 * n + u1.1.toNatClampNeg) 9 (lr_rd u3.2 1 0 0)))) else none)))
set_option maxHeartbeats 4000000 in
theorem lr_r_Node_receiveGone {n : Nat} {a1 : Nat} {t : lr_S} {o : Int32 × lr_S} (h : lr_G_Node_receiveGone n a1 t = some o) : lr_RI 0 20 lr_m_Node_receiveGone [.inr (5, n), .inr (3, a1)] t o.1 o.2 := by
  refine lr_ofI (ty := .boolean) (own := lr_R2) (by decide) rfl rfl (Nat.le_of_ble_eq_true rfl) (fun X C E => ?_)
  show lr_T X 0 [(0, .inr (5, n)), (1, .inr (3, a1))] [] t
  have h := (show ((lr_G_Node_slotWith n (lr_rd t 3 a1 3) t).bind fun u1 => ((lr_G_Node_concerns n a1 u1.1 u1.2).bind fun u3 => (if u3.1 = 0 then (some ((0 : Int32), u3.2)) else (if lr_in u1.1 8 = true then (some ((1 : Int32), (lr_wr u3.2 7 (8 * n + u1.1.toNatClampNeg) 9 (lr_rd u3.2 1 0 0)))) else none)))) = some o from h)
  refine lr_aload_n (pc := 0) C lr_d_Node_receiveGone_0 rfl 0 rfl ?_
  refine lr_aload_n (pc := 1) C lr_d_Node_receiveGone_1 rfl 1 rfl ?_
  refine lr_g2_167 (pc := 2) C lr_d_Node_receiveGone_2 ?_
  obtain ⟨u1, hu2, h⟩ := lr_bd h
  refine lr_callVi (pc := 5) (as := [.inl (lr_rd t 3 a1 3)]) (st := []) (fs := fun ad => lr_fs2 t n ad) C (lr_r_Node_slotWith hu2) lr_c2_168 lr_d_Node_receiveGone_5 rfl rfl (fun _ _ => rfl) (ci := 2) rfl rfl ⟨by decide, by decide⟩ (Nat.le_of_ble_eq_true rfl) ?_
  refine lr_istore_n (pc := 8) (ls' := [(2, .inl u1.1), (0, .inr (5, n)), (1, .inr (3, a1))]) C lr_d_Node_receiveGone_8 rfl (by decide) rfl ?_
  refine lr_aload_n (pc := 9) C lr_d_Node_receiveGone_9 rfl 1 rfl ?_
  refine lr_aload_n (pc := 10) C lr_d_Node_receiveGone_10 rfl 2 rfl ?_
  refine lr_iload_n (pc := 11) C lr_d_Node_receiveGone_11 rfl 0 rfl ?_
  obtain ⟨u3, hu4, h⟩ := lr_bd h
  refine lr_callVi (pc := 12) (as := [.inr (3, a1), .inl u1.1]) (st := []) (fs := fun ad => lr_fs2 u1.2 n ad) C (lr_r_Node_concerns hu4) lr_c2_195 lr_d_Node_receiveGone_12 rfl rfl (fun _ _ => rfl) (ci := 2) rfl rfl ⟨by decide, by decide⟩ (Nat.le_of_ble_eq_true rfl) ?_
  refine lr_if_ne (pc := 15) (tgt := 20) C lr_d_Node_receiveGone_15 (by decide) (fun hc5 => ?_) (fun hc5 => ?_)
  · have h := lr_ng hc5 h
    refine lr_aload_n (pc := 20) C lr_d_Node_receiveGone_20 rfl 1 rfl ?_
    refine lr_g2_21 (pc := 21) C lr_d_Node_receiveGone_21 ?_
    refine lr_iload_n (pc := 24) C lr_d_Node_receiveGone_24 rfl 0 rfl ?_
    obtain ⟨hb6, h⟩ := lr_gd h
    refine lr_a6 (pc := 25) C lr_d_Node_receiveGone_25 hb6 ?_
    refine lr_aload_n (pc := 26) C lr_d_Node_receiveGone_26 rfl 1 rfl ?_
    refine lr_g2_15 (pc := 27) C lr_d_Node_receiveGone_27 ?_
    refine lr_g2_71 (pc := 30) C lr_d_Node_receiveGone_30 ?_
    refine lr_p2_118 (pc := 33) C lr_d_Node_receiveGone_33 ?_
    refine lr_iconst (pc := 36) (v := 1) C lr_d_Node_receiveGone_36 (by decide) ?_
    have e := Option.some.inj h
    subst e
    exact lr_iret C E lr_d_Node_receiveGone_37 (by decide)
  · have h := lr_ps hc5 h
    refine lr_iconst (pc := 18) (v := 0) C lr_d_Node_receiveGone_18 (by decide) ?_
    have e := Option.some.inj h
    subst e
    exact lr_iret C E lr_d_Node_receiveGone_19 (by decide)
