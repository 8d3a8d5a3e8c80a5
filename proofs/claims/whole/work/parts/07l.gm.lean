def lr_G_M_callComes (a1 : Int32) (a2 : Int32) (t : lr_S) : Option (Int32 × lr_S) := if lr_in (((4 : Int32) * a1) + a2) 16 = true then (if (lr_rd t 51 0 (((4 : Int32) * a1) + a2).toNatClampNeg) ≤ (lr_rd t 40 0 (4 : Int32).toNatClampNeg) then (if (lr_rd t 40 0 (4 : Int32).toNatClampNeg) ≤ (lr_rd t 51 0 (((4 : Int32) * a1) + a2).toNatClampNeg) then ((lr_G_M_send (lr_rd t 52 0 (((4 : Int32) * a1) + a2).toNatClampNeg) a1 a2 (lr_rd t 53 0 (((4 : Int32) * a1) + a2).toNatClampNeg) (lr_rd t 51 0 (((4 : Int32) * a1) + a2).toNatClampNeg) (lr_rd t 54 0 (((4 : Int32) * a1) + a2).toNatClampNeg) t).bind fun u4 => (some ((1 : Int32), u4))) else ((lr_G_M_find a1 (1 : Int32) (lr_rd t 40 0 (3 : Int32).toNatClampNeg) t).bind fun u6 => (if u6.1 < 0 then ((some (lr_wr u6.2 51 0 (((4 : Int32) * a1) + a2).toNatClampNeg (lr_rd u6.2 40 0 (4 : Int32).toNatClampNeg))).bind fun t9 => ((some (lr_wr t9 53 0 (((4 : Int32) * a1) + a2).toNatClampNeg (lr_rd t9 40 0 (3 : Int32).toNatClampNeg))).bind fun t11 => ((some (lr_wr (lr_wr t11 52 0 (((4 : Int32) * a1) + a2).toNatClampNeg (8 : Int32)) 54 0 (((4 : Int32) * a1) + a2).toNatClampNeg (0 : Int32))).bind fun t13 => ((lr_G_M_send (lr_rd t13 52 0 (((4 : Int32) * a1) + a2).toNatClampNeg) a1 a2 (lr_rd t13 53 0 (((4 : Int32) * a1) + a2).toNatClampNeg) (lr_rd t13 51 0 (((4 : Int32) * a1) + a2).toNatClampNeg) (lr_rd t13 54 0 (((4 : Int32) * a1) + a2).toNatClampNeg) t13).bind fun u15 => (some ((1 : Int32), u15)))))) else (if lr_in u6.1 32 = true then ((some (lr_wr u6.2 26 0 u6.1.toNatClampNeg ((lr_rd u6.2 26 0 u6.1.toNatClampNeg) + (lr_rd u6.2 40 0 (5 : Int32).toNatClampNeg)))).bind fun t18 => ((some (lr_wr t18 51 0 (((4 : Int32) * a1) + a2).toNatClampNeg (lr_rd t18 40 0 (4 : Int32).toNatClampNeg))).bind fun t20 => ((some (lr_wr t20 53 0 (((4 : Int32) * a1) + a2).toNatClampNeg (lr_rd t20 40 0 (3 : Int32).toNatClampNeg))).bind fun t22 => ((some (lr_wr (lr_wr t22 52 0 (((4 : Int32) * a1) + a2).toNatClampNeg (7 : Int32)) 54 0 (((4 : Int32) * a1) + a2).toNatClampNeg (lr_rd (lr_wr t22 52 0 (((4 : Int32) * a1) + a2).toNatClampNeg (7 : Int32)) 26 0 u6.1.toNatClampNeg))).bind fun t24 => ((lr_G_M_send (lr_rd t24 52 0 (((4 : Int32) * a1) + a2).toNatClampNeg) a1 a2 (lr_rd t24 53 0 (((4 : Int32) * a1) + a2).toNatClampNeg) (lr_rd t24 51 0 (((4 : Int32) * a1) + a2).toNatClampNeg) (lr_rd t24 54 0 (((4 : Int32) * a1) + a2).toNatClampNeg) t24).bind fun u26 => (some ((1 : Int32), u26))))))) else none)))) else (some ((0 : Int32), t))) else none
set_option maxHeartbeats 4000000 in
theorem lr_r_M_callComes {a1 : Int32} {a2 : Int32} {t : lr_S} {o : Int32 × lr_S} (h : lr_G_M_callComes a1 a2 t = some o) : lr_RI 20 60 lr_m_M_callComes [.inr (20, 0), .inl a1, .inl a2] t o.1 o.2 := by
  refine lr_ofI (ty := .boolean) (own := lr_R7) (by decide) rfl rfl (Nat.le_of_ble_eq_true rfl) (fun X C E => ?_)
  show lr_T X 0 [(0, .inr (20, 0)), (1, .inl a1), (2, .inl a2)] [] t
  have h := (show (if lr_in (((4 : Int32) * a1) + a2) 16 = true then (if (lr_rd t 51 0 (((4 : Int32) * a1) + a2).toNatClampNeg) ≤ (lr_rd t 40 0 (4 : Int32).toNatClampNeg) then (if (lr_rd t 40 0 (4 : Int32).toNatClampNeg) ≤ (lr_rd t 51 0 (((4 : Int32) * a1) + a2).toNatClampNeg) then ((lr_G_M_send (lr_rd t 52 0 (((4 : Int32) * a1) + a2).toNatClampNeg) a1 a2 (lr_rd t 53 0 (((4 : Int32) * a1) + a2).toNatClampNeg) (lr_rd t 51 0 (((4 : Int32) * a1) + a2).toNatClampNeg) (lr_rd t 54 0 (((4 : Int32) * a1) + a2).toNatClampNeg) t).bind fun u4 => (some ((1 : Int32), u4))) else ((lr_G_M_find a1 (1 : Int32) (lr_rd t 40 0 (3 : Int32).toNatClampNeg) t).bind fun u6 => (if u6.1 < 0 then ((some (lr_wr u6.2 51 0 (((4 : Int32) * a1) + a2).toNatClampNeg (lr_rd u6.2 40 0 (4 : Int32).toNatClampNeg))).bind fun t9 => ((some (lr_wr t9 53 0 (((4 : Int32) * a1) + a2).toNatClampNeg (lr_rd t9 40 0 (3 : Int32).toNatClampNeg))).bind fun t11 => ((some (lr_wr (lr_wr t11 52 0 (((4 : Int32) * a1) + a2).toNatClampNeg (8 : Int32)) 54 0 (((4 : Int32) * a1) + a2).toNatClampNeg (0 : Int32))).bind fun t13 => ((lr_G_M_send (lr_rd t13 52 0 (((4 : Int32) * a1) + a2).toNatClampNeg) a1 a2 (lr_rd t13 53 0 (((4 : Int32) * a1) + a2).toNatClampNeg) (lr_rd t13 51 0 (((4 : Int32) * a1) + a2).toNatClampNeg) (lr_rd t13 54 0 (((4 : Int32) * a1) + a2).toNatClampNeg) t13).bind fun u15 => (some ((1 : Int32), u15)))))) else (if lr_in u6.1 32 = true then ((some (lr_wr u6.2 26 0 u6.1.toNatClampNeg ((lr_rd u6.2 26 0 u6.1.toNatClampNeg) + (lr_rd u6.2 40 0 (5 : Int32).toNatClampNeg)))).bind fun t18 => ((some (lr_wr t18 51 0 (((4 : Int32) * a1) + a2).toNatClampNeg (lr_rd t18 40 0 (4 : Int32).toNatClampNeg))).bind fun t20 => ((some (lr_wr t20 53 0 (((4 : Int32) * a1) + a2).toNatClampNeg (lr_rd t20 40 0 (3 : Int32).toNatClampNeg))).bind fun t22 => ((some (lr_wr (lr_wr t22 52 0 (((4 : Int32) * a1) + a2).toNatClampNeg (7 : Int32)) 54 0 (((4 : Int32) * a1) + a2).toNatClampNeg (lr_rd (lr_wr t22 52 0 (((4 : Int32) * a1) + a2).toNatClampNeg (7 : Int32)) 26 0 u6.1.toNatClampNeg))).bind fun t24 => ((lr_G_M_send (lr_rd t24 52 0 (((4 : Int32) * a1) + a2).toNatClampNeg) a1 a2 (lr_rd t24 53 0 (((4 : Int32) * a1) + a2).toNatClampNeg) (lr_rd t24 51 0 (((4 : Int32) * a1) + a2).toNatClampNeg) (lr_rd t24 54 0 (((4 : Int32) * a1) + a2).toNatClampNeg) t24).bind fun u26 => (some ((1 : Int32), u26))))))) else none)))) else (some ((0 : Int32), t))) else none) = some o from h)
  refine lr_iconst (pc := 0) (v := 4) C lr_d_M_callComes_0 (by decide) ?_
  refine lr_iload_n (pc := 1) C lr_d_M_callComes_1 rfl 1 rfl ?_
  refine lr_imul (pc := 2) C lr_d_M_callComes_2 ?_
  refine lr_iload_n (pc := 3) C lr_d_M_callComes_3 rfl 2 rfl ?_
  refine lr_iadd (pc := 4) C lr_d_M_callComes_4 ?_
  refine lr_istore_n (pc := 5) (ls' := [(3, .inl (((4 : Int32) * a1) + a2)), (0, .inr (20, 0)), (1, .inl a1), (2, .inl a2)]) C lr_d_M_callComes_5 rfl (by decide) rfl ?_
  refine lr_aload_n (pc := 6) C lr_d_M_callComes_6 rfl 1 rfl ?_
  refine lr_g7_62 (pc := 7) C lr_d_M_callComes_7 ?_
  refine lr_iconst (pc := 10) (v := 4) C lr_d_M_callComes_10 (by decide) ?_
  refine lr_li40 (pc := 11) C lr_d_M_callComes_11 (by decide) ?_
  refine lr_aload_n (pc := 12) C lr_d_M_callComes_12 rfl 1 rfl ?_
  refine lr_g7_92 (pc := 13) C lr_d_M_callComes_13 ?_
  refine lr_iload_n (pc := 16) C lr_d_M_callComes_16 rfl 0 rfl ?_
  obtain ⟨hb1, h⟩ := lr_gd h
  refine lr_li51 (pc := 17) C lr_d_M_callComes_17 hb1 ?_
  refine lr_icmp_ge (pc := 18) (tgt := 23) C lr_d_M_callComes_18 (by decide) (fun hc2 => ?_) (fun hc2 => ?_)
  · have h := lr_ps hc2 h
    refine lr_aload_n (pc := 23) C lr_d_M_callComes_23 rfl 1 rfl ?_
    refine lr_g7_62 (pc := 24) C lr_d_M_callComes_24 ?_
    refine lr_iconst (pc := 27) (v := 4) C lr_d_M_callComes_27 (by decide) ?_
    refine lr_li40 (pc := 28) C lr_d_M_callComes_28 (by decide) ?_
    refine lr_aload_n (pc := 29) C lr_d_M_callComes_29 rfl 1 rfl ?_
    refine lr_g7_92 (pc := 30) C lr_d_M_callComes_30 ?_
    refine lr_iload_n (pc := 33) C lr_d_M_callComes_33 rfl 0 rfl ?_
    refine lr_li51 (pc := 34) C lr_d_M_callComes_34 hb1 ?_
    refine lr_icmp_le (pc := 35) (tgt := 142) C lr_d_M_callComes_35 (by decide) (fun hc3 => ?_) (fun hc3 => ?_)
    · have h := lr_ps hc3 h
      refine lr_aload_n (pc := 142) C lr_d_M_callComes_142 rfl 1 rfl ?_
      refine lr_aload_n (pc := 143) C lr_d_M_callComes_143 rfl 1 rfl ?_
      refine lr_g7_95 (pc := 144) C lr_d_M_callComes_144 ?_
      refine lr_iload_n (pc := 147) C lr_d_M_callComes_147 rfl 0 rfl ?_
      refine lr_li52 (pc := 148) C lr_d_M_callComes_148 hb1 ?_
      refine lr_iload_n (pc := 149) C lr_d_M_callComes_149 rfl 2 rfl ?_
      refine lr_iload_n (pc := 150) C lr_d_M_callComes_150 rfl 3 rfl ?_
      refine lr_aload_n (pc := 151) C lr_d_M_callComes_151 rfl 1 rfl ?_
      refine lr_g7_98 (pc := 152) C lr_d_M_callComes_152 ?_
      refine lr_iload_n (pc := 155) C lr_d_M_callComes_155 rfl 0 rfl ?_
      refine lr_li53 (pc := 156) C lr_d_M_callComes_156 hb1 ?_
      refine lr_aload_n (pc := 157) C lr_d_M_callComes_157 rfl 1 rfl ?_
      refine lr_g7_92 (pc := 158) C lr_d_M_callComes_158 ?_
      refine lr_iload_n (pc := 161) C lr_d_M_callComes_161 rfl 0 rfl ?_
      refine lr_li51 (pc := 162) C lr_d_M_callComes_162 hb1 ?_
      refine lr_aload_n (pc := 163) C lr_d_M_callComes_163 rfl 1 rfl ?_
      refine lr_g7_101 (pc := 164) C lr_d_M_callComes_164 ?_
      refine lr_iload_n (pc := 167) C lr_d_M_callComes_167 rfl 0 rfl ?_
      refine lr_li54 (pc := 168) C lr_d_M_callComes_168 hb1 ?_
      obtain ⟨u4, hu5, h⟩ := lr_bd h
      refine lr_callVv (pc := 169) (as := [.inl (lr_rd t 52 0 (((4 : Int32) * a1) + a2).toNatClampNeg), .inl a1, .inl a2, .inl (lr_rd t 53 0 (((4 : Int32) * a1) + a2).toNatClampNeg), .inl (lr_rd t 51 0 (((4 : Int32) * a1) + a2).toNatClampNeg), .inl (lr_rd t 54 0 (((4 : Int32) * a1) + a2).toNatClampNeg)]) (st := []) (fs := fun ad => lr_fs7 t 0 ad) C (lr_r_M_send hu5) lr_c7_126 lr_d_M_callComes_169 rfl rfl (fun _ _ => rfl) (ci := 7) rfl rfl ⟨by decide, by decide⟩ (Nat.le_of_ble_eq_true rfl) ?_
      refine lr_iconst (pc := 172) (v := 1) C lr_d_M_callComes_172 (by decide) ?_
      have e := Option.some.inj h
      subst e
      exact lr_iret C E lr_d_M_callComes_173 (by decide)
    · have h := lr_ng hc3 h
      refine lr_aload_n (pc := 38) C lr_d_M_callComes_38 rfl 1 rfl ?_
      refine lr_iload_n (pc := 39) C lr_d_M_callComes_39 rfl 2 rfl ?_
      refine lr_iconst (pc := 40) (v := 1) C lr_d_M_callComes_40 (by decide) ?_
      refine lr_aload_n (pc := 41) C lr_d_M_callComes_41 rfl 1 rfl ?_
      refine lr_g7_62 (pc := 42) C lr_d_M_callComes_42 ?_
      refine lr_iconst (pc := 45) (v := 3) C lr_d_M_callComes_45 (by decide) ?_
      refine lr_li40 (pc := 46) C lr_d_M_callComes_46 (by decide) ?_
      obtain ⟨u6, hu7, h⟩ := lr_bd h
      refine lr_callVi (pc := 47) (as := [.inl a1, .inl (1 : Int32), .inl (lr_rd t 40 0 (3 : Int32).toNatClampNeg)]) (st := []) (fs := fun ad => lr_fs7 t 0 ad) C (lr_r_M_find hu7) lr_c7_199 lr_d_M_callComes_47 rfl rfl (fun _ _ => rfl) (ci := 7) rfl rfl ⟨by decide, by decide⟩ (Nat.le_of_ble_eq_true rfl) ?_
      refine lr_istore (pc := 50) (ls' := [(4, .inl u6.1), (3, .inl (((4 : Int32) * a1) + a2)), (0, .inr (20, 0)), (1, .inl a1), (2, .inl a2)]) C lr_d_M_callComes_50 (by decide) rfl ?_
      refine lr_iload (pc := 52) C lr_d_M_callComes_52 0 rfl ?_
      refine lr_if_lt (pc := 54) (tgt := 78) C lr_d_M_callComes_54 (by decide) (fun hc8 => ?_) (fun hc8 => ?_)
      · have h := lr_ps hc8 h
        refine lr_aload_n (pc := 78) C lr_d_M_callComes_78 rfl 2 rfl ?_
        refine lr_g7_92 (pc := 79) C lr_d_M_callComes_79 ?_
        refine lr_iload_n (pc := 82) C lr_d_M_callComes_82 rfl 1 rfl ?_
        refine lr_aload_n (pc := 83) C lr_d_M_callComes_83 rfl 2 rfl ?_
        refine lr_g7_62 (pc := 84) C lr_d_M_callComes_84 ?_
        refine lr_iconst (pc := 87) (v := 4) C lr_d_M_callComes_87 (by decide) ?_
        refine lr_li40 (pc := 88) C lr_d_M_callComes_88 (by decide) ?_
        refine lr_si51 (pc := 89) C lr_d_M_callComes_89 hb1 ?_
        obtain ⟨t9, ht10, h⟩ := lr_bd h
        rw [Option.some.inj ht10]
        refine lr_aload_n (pc := 90) C lr_d_M_callComes_90 rfl 2 rfl ?_
        refine lr_g7_98 (pc := 91) C lr_d_M_callComes_91 ?_
        refine lr_iload_n (pc := 94) C lr_d_M_callComes_94 rfl 1 rfl ?_
        refine lr_aload_n (pc := 95) C lr_d_M_callComes_95 rfl 2 rfl ?_
        refine lr_g7_62 (pc := 96) C lr_d_M_callComes_96 ?_
        refine lr_iconst (pc := 99) (v := 3) C lr_d_M_callComes_99 (by decide) ?_
        refine lr_li40 (pc := 100) C lr_d_M_callComes_100 (by decide) ?_
        refine lr_si53 (pc := 101) C lr_d_M_callComes_101 hb1 ?_
        obtain ⟨t11, ht12, h⟩ := lr_bd h
        rw [Option.some.inj ht12]
        refine lr_aload_n (pc := 102) C lr_d_M_callComes_102 rfl 2 rfl ?_
        refine lr_g7_95 (pc := 103) C lr_d_M_callComes_103 ?_
        refine lr_iload_n (pc := 106) C lr_d_M_callComes_106 rfl 1 rfl ?_
        refine lr_iload (pc := 107) C lr_d_M_callComes_107 0 rfl ?_
        refine lr_if_lt (pc := 109) (tgt := 117) C lr_d_M_callComes_109 (by decide) (fun _ => ?_) (fun hc => (by first | exact absurd hc hc8 | exact absurd hc8 hc | exact absurd hc (Int32.not_le.mpr hc8) | exact absurd hc8 (Int32.not_lt.mpr hc) | exact absurd (Int32.not_le.mp hc) hc8 | exact absurd (Int32.not_lt.mp hc) hc8 | exact absurd hc (Int32.not_lt.mpr hc8) | exact hc (Int32.not_lt.mp hc8) | exact hc (Int32.not_le.mp hc8) : False).elim)
        refine lr_bipush (pc := 117) (v := 8) C lr_d_M_callComes_117 (by decide) ?_
        refine lr_si52 (pc := 119) C lr_d_M_callComes_119 hb1 ?_
        refine lr_aload_n (pc := 120) C lr_d_M_callComes_120 rfl 2 rfl ?_
        refine lr_g7_101 (pc := 121) C lr_d_M_callComes_121 ?_
        refine lr_iload_n (pc := 124) C lr_d_M_callComes_124 rfl 1 rfl ?_
        refine lr_iload (pc := 125) C lr_d_M_callComes_125 0 rfl ?_
        refine lr_if_lt (pc := 127) (tgt := 140) C lr_d_M_callComes_127 (by decide) (fun _ => ?_) (fun hc => (by first | exact absurd hc hc8 | exact absurd hc8 hc | exact absurd hc (Int32.not_le.mpr hc8) | exact absurd hc8 (Int32.not_lt.mpr hc) | exact absurd (Int32.not_le.mp hc) hc8 | exact absurd (Int32.not_lt.mp hc) hc8 | exact absurd hc (Int32.not_lt.mpr hc8) | exact hc (Int32.not_lt.mp hc8) | exact hc (Int32.not_le.mp hc8) : False).elim)
        refine lr_iconst (pc := 140) (v := 0) C lr_d_M_callComes_140 (by decide) ?_
        refine lr_si54 (pc := 141) C lr_d_M_callComes_141 hb1 ?_
        obtain ⟨t13, ht14, h⟩ := lr_bd h
        rw [Option.some.inj ht14]
        refine lr_aload_n (pc := 142) C lr_d_M_callComes_142 rfl 2 rfl ?_
        refine lr_aload_n (pc := 143) C lr_d_M_callComes_143 rfl 2 rfl ?_
        refine lr_g7_95 (pc := 144) C lr_d_M_callComes_144 ?_
        refine lr_iload_n (pc := 147) C lr_d_M_callComes_147 rfl 1 rfl ?_
        refine lr_li52 (pc := 148) C lr_d_M_callComes_148 hb1 ?_
        refine lr_iload_n (pc := 149) C lr_d_M_callComes_149 rfl 3 rfl ?_
        refine lr_iload_n (pc := 150) C lr_d_M_callComes_150 rfl 4 rfl ?_
        refine lr_aload_n (pc := 151) C lr_d_M_callComes_151 rfl 2 rfl ?_
        refine lr_g7_98 (pc := 152) C lr_d_M_callComes_152 ?_
        refine lr_iload_n (pc := 155) C lr_d_M_callComes_155 rfl 1 rfl ?_
        refine lr_li53 (pc := 156) C lr_d_M_callComes_156 hb1 ?_
        refine lr_aload_n (pc := 157) C lr_d_M_callComes_157 rfl 2 rfl ?_
        refine lr_g7_92 (pc := 158) C lr_d_M_callComes_158 ?_
        refine lr_iload_n (pc := 161) C lr_d_M_callComes_161 rfl 1 rfl ?_
        refine lr_li51 (pc := 162) C lr_d_M_callComes_162 hb1 ?_
        refine lr_aload_n (pc := 163) C lr_d_M_callComes_163 rfl 2 rfl ?_
        refine lr_g7_101 (pc := 164) C lr_d_M_callComes_164 ?_
        refine lr_iload_n (pc := 167) C lr_d_M_callComes_167 rfl 1 rfl ?_
        refine lr_li54 (pc := 168) C lr_d_M_callComes_168 hb1 ?_
        obtain ⟨u15, hu16, h⟩ := lr_bd h
        refine lr_callVv (pc := 169) (as := [.inl (lr_rd t13 52 0 (((4 : Int32) * a1) + a2).toNatClampNeg), .inl a1, .inl a2, .inl (lr_rd t13 53 0 (((4 : Int32) * a1) + a2).toNatClampNeg), .inl (lr_rd t13 51 0 (((4 : Int32) * a1) + a2).toNatClampNeg), .inl (lr_rd t13 54 0 (((4 : Int32) * a1) + a2).toNatClampNeg)]) (st := []) (fs := fun ad => lr_fs7 t13 0 ad) C (lr_r_M_send hu16) lr_c7_126 lr_d_M_callComes_169 rfl rfl (fun _ _ => rfl) (ci := 7) rfl rfl ⟨by decide, by decide⟩ (Nat.le_of_ble_eq_true rfl) ?_
        refine lr_iconst (pc := 172) (v := 1) C lr_d_M_callComes_172 (by decide) ?_
        have e := Option.some.inj h
        subst e
        exact lr_iret C E lr_d_M_callComes_173 (by decide)
      · have h := lr_ng hc8 h
        refine lr_aload_n (pc := 57) C lr_d_M_callComes_57 rfl 2 rfl ?_
        refine lr_g7_26 (pc := 58) C lr_d_M_callComes_58 ?_
        refine lr_iload (pc := 61) C lr_d_M_callComes_61 0 rfl ?_
        refine lr_aload_n (pc := 63) C lr_d_M_callComes_63 rfl 2 rfl ?_
        refine lr_g7_26 (pc := 64) C lr_d_M_callComes_64 ?_
        refine lr_iload (pc := 67) C lr_d_M_callComes_67 0 rfl ?_
        obtain ⟨hb17, h⟩ := lr_gd h
        refine lr_li26 (pc := 69) C lr_d_M_callComes_69 hb17 ?_
        refine lr_aload_n (pc := 70) C lr_d_M_callComes_70 rfl 2 rfl ?_
        refine lr_g7_62 (pc := 71) C lr_d_M_callComes_71 ?_
        refine lr_iconst (pc := 74) (v := 5) C lr_d_M_callComes_74 (by decide) ?_
        refine lr_li40 (pc := 75) C lr_d_M_callComes_75 (by decide) ?_
        refine lr_iadd (pc := 76) C lr_d_M_callComes_76 ?_
        refine lr_si26 (pc := 77) C lr_d_M_callComes_77 hb17 ?_
        obtain ⟨t18, ht19, h⟩ := lr_bd h
        rw [Option.some.inj ht19]
        refine lr_aload_n (pc := 78) C lr_d_M_callComes_78 rfl 2 rfl ?_
        refine lr_g7_92 (pc := 79) C lr_d_M_callComes_79 ?_
        refine lr_iload_n (pc := 82) C lr_d_M_callComes_82 rfl 1 rfl ?_
        refine lr_aload_n (pc := 83) C lr_d_M_callComes_83 rfl 2 rfl ?_
        refine lr_g7_62 (pc := 84) C lr_d_M_callComes_84 ?_
        refine lr_iconst (pc := 87) (v := 4) C lr_d_M_callComes_87 (by decide) ?_
        refine lr_li40 (pc := 88) C lr_d_M_callComes_88 (by decide) ?_
        refine lr_si51 (pc := 89) C lr_d_M_callComes_89 hb1 ?_
        obtain ⟨t20, ht21, h⟩ := lr_bd h
        rw [Option.some.inj ht21]
        refine lr_aload_n (pc := 90) C lr_d_M_callComes_90 rfl 2 rfl ?_
        refine lr_g7_98 (pc := 91) C lr_d_M_callComes_91 ?_
        refine lr_iload_n (pc := 94) C lr_d_M_callComes_94 rfl 1 rfl ?_
        refine lr_aload_n (pc := 95) C lr_d_M_callComes_95 rfl 2 rfl ?_
        refine lr_g7_62 (pc := 96) C lr_d_M_callComes_96 ?_
        refine lr_iconst (pc := 99) (v := 3) C lr_d_M_callComes_99 (by decide) ?_
        refine lr_li40 (pc := 100) C lr_d_M_callComes_100 (by decide) ?_
        refine lr_si53 (pc := 101) C lr_d_M_callComes_101 hb1 ?_
        obtain ⟨t22, ht23, h⟩ := lr_bd h
        rw [Option.some.inj ht23]
        refine lr_aload_n (pc := 102) C lr_d_M_callComes_102 rfl 2 rfl ?_
        refine lr_g7_95 (pc := 103) C lr_d_M_callComes_103 ?_
        refine lr_iload_n (pc := 106) C lr_d_M_callComes_106 rfl 1 rfl ?_
        refine lr_iload (pc := 107) C lr_d_M_callComes_107 0 rfl ?_
        refine lr_if_lt (pc := 109) (tgt := 117) C lr_d_M_callComes_109 (by decide) (fun hc => (by first | exact absurd hc hc8 | exact absurd hc8 hc | exact absurd hc (Int32.not_le.mpr hc8) | exact absurd hc8 (Int32.not_lt.mpr hc) | exact absurd (Int32.not_le.mp hc) hc8 | exact absurd (Int32.not_lt.mp hc) hc8 | exact absurd hc (Int32.not_lt.mpr hc8) | exact hc (Int32.not_lt.mp hc8) | exact hc (Int32.not_le.mp hc8) : False).elim) (fun _ => ?_)
        refine lr_bipush (pc := 112) (v := 7) C lr_d_M_callComes_112 (by decide) ?_
        refine lr_goto (pc := 114) (tgt := 119) C lr_d_M_callComes_114 (by decide) ?_
        refine lr_si52 (pc := 119) C lr_d_M_callComes_119 hb1 ?_
        refine lr_aload_n (pc := 120) C lr_d_M_callComes_120 rfl 2 rfl ?_
        refine lr_g7_101 (pc := 121) C lr_d_M_callComes_121 ?_
        refine lr_iload_n (pc := 124) C lr_d_M_callComes_124 rfl 1 rfl ?_
        refine lr_iload (pc := 125) C lr_d_M_callComes_125 0 rfl ?_
        refine lr_if_lt (pc := 127) (tgt := 140) C lr_d_M_callComes_127 (by decide) (fun hc => (by first | exact absurd hc hc8 | exact absurd hc8 hc | exact absurd hc (Int32.not_le.mpr hc8) | exact absurd hc8 (Int32.not_lt.mpr hc) | exact absurd (Int32.not_le.mp hc) hc8 | exact absurd (Int32.not_lt.mp hc) hc8 | exact absurd hc (Int32.not_lt.mpr hc8) | exact hc (Int32.not_lt.mp hc8) | exact hc (Int32.not_le.mp hc8) : False).elim) (fun _ => ?_)
        refine lr_aload_n (pc := 130) C lr_d_M_callComes_130 rfl 2 rfl ?_
        refine lr_g7_26 (pc := 131) C lr_d_M_callComes_131 ?_
        refine lr_iload (pc := 134) C lr_d_M_callComes_134 0 rfl ?_
        refine lr_li26 (pc := 136) C lr_d_M_callComes_136 hb17 ?_
        refine lr_goto (pc := 137) (tgt := 141) C lr_d_M_callComes_137 (by decide) ?_
        refine lr_si54 (pc := 141) C lr_d_M_callComes_141 hb1 ?_
        obtain ⟨t24, ht25, h⟩ := lr_bd h
        rw [Option.some.inj ht25]
        refine lr_aload_n (pc := 142) C lr_d_M_callComes_142 rfl 2 rfl ?_
        refine lr_aload_n (pc := 143) C lr_d_M_callComes_143 rfl 2 rfl ?_
        refine lr_g7_95 (pc := 144) C lr_d_M_callComes_144 ?_
        refine lr_iload_n (pc := 147) C lr_d_M_callComes_147 rfl 1 rfl ?_
        refine lr_li52 (pc := 148) C lr_d_M_callComes_148 hb1 ?_
        refine lr_iload_n (pc := 149) C lr_d_M_callComes_149 rfl 3 rfl ?_
        refine lr_iload_n (pc := 150) C lr_d_M_callComes_150 rfl 4 rfl ?_
        refine lr_aload_n (pc := 151) C lr_d_M_callComes_151 rfl 2 rfl ?_
        refine lr_g7_98 (pc := 152) C lr_d_M_callComes_152 ?_
        refine lr_iload_n (pc := 155) C lr_d_M_callComes_155 rfl 1 rfl ?_
        refine lr_li53 (pc := 156) C lr_d_M_callComes_156 hb1 ?_
        refine lr_aload_n (pc := 157) C lr_d_M_callComes_157 rfl 2 rfl ?_
        refine lr_g7_92 (pc := 158) C lr_d_M_callComes_158 ?_
        refine lr_iload_n (pc := 161) C lr_d_M_callComes_161 rfl 1 rfl ?_
        refine lr_li51 (pc := 162) C lr_d_M_callComes_162 hb1 ?_
        refine lr_aload_n (pc := 163) C lr_d_M_callComes_163 rfl 2 rfl ?_
        refine lr_g7_101 (pc := 164) C lr_d_M_callComes_164 ?_
        refine lr_iload_n (pc := 167) C lr_d_M_callComes_167 rfl 1 rfl ?_
        refine lr_li54 (pc := 168) C lr_d_M_callComes_168 hb1 ?_
        obtain ⟨u26, hu27, h⟩ := lr_bd h
        refine lr_callVv (pc := 169) (as := [.inl (lr_rd t24 52 0 (((4 : Int32) * a1) + a2).toNatClampNeg), .inl a1, .inl a2, .inl (lr_rd t24 53 0 (((4 : Int32) * a1) + a2).toNatClampNeg), .inl (lr_rd t24 51 0 (((4 : Int32) * a1) + a2).toNatClampNeg), .inl (lr_rd t24 54 0 (((4 : Int32) * a1) + a2).toNatClampNeg)]) (st := []) (fs := fun ad => lr_fs7 t24 0 ad) C (lr_r_M_send hu27) lr_c7_126 lr_d_M_callComes_169 rfl rfl (fun _ _ => rfl) (ci := 7) rfl rfl ⟨by decide, by decide⟩ (Nat.le_of_ble_eq_true rfl) ?_
        refine lr_iconst (pc := 172) (v := 1) C lr_d_M_callComes_172 (by decide) ?_
        have e := Option.some.inj h
        subst e
        exact lr_iret C E lr_d_M_callComes_173 (by decide)
  · have h := lr_ng hc2 h
    refine lr_iconst (pc := 21) (v := 0) C lr_d_M_callComes_21 (by decide) ?_
    have e := Option.some.inj h
    subst e
    exact lr_iret C E lr_d_M_callComes_22 (by decide)
def lr_G_M_answerComes (a1 : Int32) (a2 : Int32) (t : lr_S) : Option (Int32 × lr_S) := if lr_in a1 4 = true then (if (lr_rd t 45 0 a1.toNatClampNeg) = (1 : Int32) then (if (lr_rd t 46 0 a1.toNatClampNeg) = (lr_rd t 40 0 (4 : Int32).toNatClampNeg) then (if a2 = (7 : Int32) then ((some (lr_wr (lr_wr t 45 0 a1.toNatClampNeg (2 : Int32)) 50 0 a1.toNatClampNeg (lr_rd (lr_wr t 45 0 a1.toNatClampNeg (2 : Int32)) 40 0 (5 : Int32).toNatClampNeg))).bind fun t7 => (some ((1 : Int32), t7))) else ((some (lr_wr (lr_wr t 45 0 a1.toNatClampNeg (3 : Int32)) 50 0 a1.toNatClampNeg (lr_rd (lr_wr t 45 0 a1.toNatClampNeg (3 : Int32)) 50 0 a1.toNatClampNeg))).bind fun t5 => (some ((1 : Int32), t5)))) else (some ((0 : Int32), t))) else (some ((0 : Int32), t))) else none
set_option maxHeartbeats 4000000 in
theorem lr_r_M_answerComes {a1 : Int32} {a2 : Int32} {t : lr_S} {o : Int32 × lr_S} (h : lr_G_M_answerComes a1 a2 t = some o) : lr_RI 20 60 lr_m_M_answerComes [.inr (20, 0), .inl a1, .inl a2] t o.1 o.2 := by
  refine lr_ofI (ty := .boolean) (own := lr_R7) (by decide) rfl rfl (Nat.le_of_ble_eq_true rfl) (fun X C E => ?_)
  show lr_T X 0 [(0, .inr (20, 0)), (1, .inl a1), (2, .inl a2)] [] t
  have h := (show (if lr_in a1 4 = true then (if (lr_rd t 45 0 a1.toNatClampNeg) = (1 : Int32) then (if (lr_rd t 46 0 a1.toNatClampNeg) = (lr_rd t 40 0 (4 : Int32).toNatClampNeg) then (if a2 = (7 : Int32) then ((some (lr_wr (lr_wr t 45 0 a1.toNatClampNeg (2 : Int32)) 50 0 a1.toNatClampNeg (lr_rd (lr_wr t 45 0 a1.toNatClampNeg (2 : Int32)) 40 0 (5 : Int32).toNatClampNeg))).bind fun t7 => (some ((1 : Int32), t7))) else ((some (lr_wr (lr_wr t 45 0 a1.toNatClampNeg (3 : Int32)) 50 0 a1.toNatClampNeg (lr_rd (lr_wr t 45 0 a1.toNatClampNeg (3 : Int32)) 50 0 a1.toNatClampNeg))).bind fun t5 => (some ((1 : Int32), t5)))) else (some ((0 : Int32), t))) else (some ((0 : Int32), t))) else none) = some o from h)
  refine lr_aload_n (pc := 0) C lr_d_M_answerComes_0 rfl 0 rfl ?_
  refine lr_g7_74 (pc := 1) C lr_d_M_answerComes_1 ?_
  refine lr_iload_n (pc := 4) C lr_d_M_answerComes_4 rfl 1 rfl ?_
  obtain ⟨hb1, h⟩ := lr_gd h
  refine lr_li45 (pc := 5) C lr_d_M_answerComes_5 hb1 ?_
  refine lr_iconst (pc := 6) (v := 1) C lr_d_M_answerComes_6 (by decide) ?_
  refine lr_icmp_ne (pc := 7) (tgt := 25) C lr_d_M_answerComes_7 (by decide) (fun hc2 => ?_) (fun hc2 => ?_)
  · have h := lr_ng hc2 h
    refine lr_iconst (pc := 25) (v := 0) C lr_d_M_answerComes_25 (by decide) ?_
    have e := Option.some.inj h
    subst e
    exact lr_iret C E lr_d_M_answerComes_26 (by decide)
  · have h := lr_ps hc2 h
    refine lr_aload_n (pc := 10) C lr_d_M_answerComes_10 rfl 0 rfl ?_
    refine lr_g7_77 (pc := 11) C lr_d_M_answerComes_11 ?_
    refine lr_iload_n (pc := 14) C lr_d_M_answerComes_14 rfl 1 rfl ?_
    refine lr_li46 (pc := 15) C lr_d_M_answerComes_15 hb1 ?_
    refine lr_aload_n (pc := 16) C lr_d_M_answerComes_16 rfl 0 rfl ?_
    refine lr_g7_62 (pc := 17) C lr_d_M_answerComes_17 ?_
    refine lr_iconst (pc := 20) (v := 4) C lr_d_M_answerComes_20 (by decide) ?_
    refine lr_li40 (pc := 21) C lr_d_M_answerComes_21 (by decide) ?_
    refine lr_icmp_eq (pc := 22) (tgt := 27) C lr_d_M_answerComes_22 (by decide) (fun hc3 => ?_) (fun hc3 => ?_)
    · have h := lr_ps hc3 h
      refine lr_aload_n (pc := 27) C lr_d_M_answerComes_27 rfl 0 rfl ?_
      refine lr_g7_74 (pc := 28) C lr_d_M_answerComes_28 ?_
      refine lr_iload_n (pc := 31) C lr_d_M_answerComes_31 rfl 1 rfl ?_
      refine lr_iload_n (pc := 32) C lr_d_M_answerComes_32 rfl 2 rfl ?_
      refine lr_bipush (pc := 33) (v := 7) C lr_d_M_answerComes_33 (by decide) ?_
      refine lr_icmp_ne (pc := 35) (tgt := 42) C lr_d_M_answerComes_35 (by decide) (fun hc4 => ?_) (fun hc4 => ?_)
      · have h := lr_ng hc4 h
        refine lr_iconst (pc := 42) (v := 3) C lr_d_M_answerComes_42 (by decide) ?_
        refine lr_si45 (pc := 43) C lr_d_M_answerComes_43 hb1 ?_
        refine lr_aload_n (pc := 44) C lr_d_M_answerComes_44 rfl 0 rfl ?_
        refine lr_g7_89 (pc := 45) C lr_d_M_answerComes_45 ?_
        refine lr_iload_n (pc := 48) C lr_d_M_answerComes_48 rfl 1 rfl ?_
        refine lr_iload_n (pc := 49) C lr_d_M_answerComes_49 rfl 2 rfl ?_
        refine lr_bipush (pc := 50) (v := 7) C lr_d_M_answerComes_50 (by decide) ?_
        refine lr_icmp_ne (pc := 52) (tgt := 64) C lr_d_M_answerComes_52 (by decide) (fun _ => ?_) (fun hc => (by first | exact absurd hc hc4 | exact absurd hc4 hc | exact absurd hc (Int32.not_le.mpr hc4) | exact absurd hc4 (Int32.not_lt.mpr hc) | exact absurd (Int32.not_le.mp hc) hc4 | exact absurd (Int32.not_lt.mp hc) hc4 | exact absurd hc (Int32.not_lt.mpr hc4) | exact hc (Int32.not_lt.mp hc4) | exact hc (Int32.not_le.mp hc4) : False).elim)
        refine lr_aload_n (pc := 64) C lr_d_M_answerComes_64 rfl 0 rfl ?_
        refine lr_g7_89 (pc := 65) C lr_d_M_answerComes_65 ?_
        refine lr_iload_n (pc := 68) C lr_d_M_answerComes_68 rfl 1 rfl ?_
        refine lr_li50 (pc := 69) C lr_d_M_answerComes_69 hb1 ?_
        refine lr_si50 (pc := 70) C lr_d_M_answerComes_70 hb1 ?_
        obtain ⟨t5, ht6, h⟩ := lr_bd h
        rw [Option.some.inj ht6]
        refine lr_iconst (pc := 71) (v := 1) C lr_d_M_answerComes_71 (by decide) ?_
        have e := Option.some.inj h
        subst e
        exact lr_iret C E lr_d_M_answerComes_72 (by decide)
      · have h := lr_ps hc4 h
        refine lr_iconst (pc := 38) (v := 2) C lr_d_M_answerComes_38 (by decide) ?_
        refine lr_goto (pc := 39) (tgt := 43) C lr_d_M_answerComes_39 (by decide) ?_
        refine lr_si45 (pc := 43) C lr_d_M_answerComes_43 hb1 ?_
        refine lr_aload_n (pc := 44) C lr_d_M_answerComes_44 rfl 0 rfl ?_
        refine lr_g7_89 (pc := 45) C lr_d_M_answerComes_45 ?_
        refine lr_iload_n (pc := 48) C lr_d_M_answerComes_48 rfl 1 rfl ?_
        refine lr_iload_n (pc := 49) C lr_d_M_answerComes_49 rfl 2 rfl ?_
        refine lr_bipush (pc := 50) (v := 7) C lr_d_M_answerComes_50 (by decide) ?_
        refine lr_icmp_ne (pc := 52) (tgt := 64) C lr_d_M_answerComes_52 (by decide) (fun hc => (by first | exact absurd hc hc4 | exact absurd hc4 hc | exact absurd hc (Int32.not_le.mpr hc4) | exact absurd hc4 (Int32.not_lt.mpr hc) | exact absurd (Int32.not_le.mp hc) hc4 | exact absurd (Int32.not_lt.mp hc) hc4 | exact absurd hc (Int32.not_lt.mpr hc4) | exact hc (Int32.not_lt.mp hc4) | exact hc (Int32.not_le.mp hc4) : False).elim) (fun _ => ?_)
        refine lr_aload_n (pc := 55) C lr_d_M_answerComes_55 rfl 0 rfl ?_
        refine lr_g7_62 (pc := 56) C lr_d_M_answerComes_56 ?_
        refine lr_iconst (pc := 59) (v := 5) C lr_d_M_answerComes_59 (by decide) ?_
        refine lr_li40 (pc := 60) C lr_d_M_answerComes_60 (by decide) ?_
        refine lr_goto (pc := 61) (tgt := 70) C lr_d_M_answerComes_61 (by decide) ?_
        refine lr_si50 (pc := 70) C lr_d_M_answerComes_70 hb1 ?_
        obtain ⟨t7, ht8, h⟩ := lr_bd h
        rw [Option.some.inj ht8]
        refine lr_iconst (pc := 71) (v := 1) C lr_d_M_answerComes_71 (by decide) ?_
        have e := Option.some.inj h
        subst e
        exact lr_iret C E lr_d_M_answerComes_72 (by decide)
    · have h := lr_ng hc3 h
      refine lr_iconst (pc := 25) (v := 0) C lr_d_M_answerComes_25 (by decide) ?_
      have e := Option.some.inj h
      subst e
      exact lr_iret C E lr_d_M_answerComes_26 (by decide)
