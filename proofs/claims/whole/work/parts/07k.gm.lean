def lr_G_M_listedComes (a1 : Int32) (a2 : Int32) (t : lr_S) : Option (Int32 × lr_S) := (lr_G_M_find a1 (2 : Int32) (lr_rd t 40 0 (3 : Int32).toNatClampNeg) t).bind fun u1 => (if u1.1 < 0 then (some ((0 : Int32), u1.2)) else ((lr_G_M_stale u1.1 u1.2).bind fun u4 => (if u4.1 = 0 then (if lr_in u1.1 32 = true then (if (lr_rd u4.2 31 0 u1.1.toNatClampNeg) ≤ (lr_rd u4.2 40 0 (4 : Int32).toNatClampNeg) then (if a2 = (4 : Int32) then (some ((1 : Int32), (lr_wr u4.2 33 0 u1.1.toNatClampNeg (lr_rd u4.2 20 0 0)))) else (if ((lr_rd u4.2 40 0 (5 : Int32).toNatClampNeg) + (24 : Int32)) ≤ (lr_rd u4.2 33 0 u1.1.toNatClampNeg) then (if (lr_rd (lr_wr u4.2 33 0 u1.1.toNatClampNeg (lr_rd u4.2 33 0 u1.1.toNatClampNeg)) 34 0 u1.1.toNatClampNeg) = 0 then ((some (lr_wr (lr_wr u4.2 33 0 u1.1.toNatClampNeg (lr_rd u4.2 33 0 u1.1.toNatClampNeg)) 34 0 u1.1.toNatClampNeg (vp_nar .boolean (1 : Int32)))).bind fun t12 => ((lr_G_M_send (1 : Int32) a1 (lr_rd t12 36 0 u1.1.toNatClampNeg) (lr_rd t12 40 0 (3 : Int32).toNatClampNeg) (lr_rd t12 35 0 u1.1.toNatClampNeg) (0 : Int32) t12).bind fun u14 => (some ((1 : Int32), u14)))) else (some ((1 : Int32), (lr_wr u4.2 33 0 u1.1.toNatClampNeg (lr_rd u4.2 33 0 u1.1.toNatClampNeg))))) else ((some (lr_wr u4.2 33 0 u1.1.toNatClampNeg ((lr_rd u4.2 40 0 (5 : Int32).toNatClampNeg) + (24 : Int32)))).bind fun t16 => (if (lr_rd t16 34 0 u1.1.toNatClampNeg) = 0 then ((lr_G_M_send (1 : Int32) a1 (lr_rd (lr_wr t16 34 0 u1.1.toNatClampNeg (vp_nar .boolean (1 : Int32))) 36 0 u1.1.toNatClampNeg) (lr_rd (lr_wr t16 34 0 u1.1.toNatClampNeg (vp_nar .boolean (1 : Int32))) 40 0 (3 : Int32).toNatClampNeg) (lr_rd (lr_wr t16 34 0 u1.1.toNatClampNeg (vp_nar .boolean (1 : Int32))) 35 0 u1.1.toNatClampNeg) (0 : Int32) (lr_wr t16 34 0 u1.1.toNatClampNeg (vp_nar .boolean (1 : Int32)))).bind fun u19 => (some ((1 : Int32), u19))) else (some ((1 : Int32), t16)))))) else (some ((0 : Int32), u4.2))) else none) else (some ((0 : Int32), u4.2)))))
set_option maxHeartbeats 4000000 in
theorem lr_r_M_listedComes {a1 : Int32} {a2 : Int32} {t : lr_S} {o : Int32 × lr_S} (h : lr_G_M_listedComes a1 a2 t = some o) : lr_RI 20 60 lr_m_M_listedComes [.inr (20, 0), .inl a1, .inl a2] t o.1 o.2 := by
  refine lr_ofI (ty := .boolean) (own := lr_R7) (by decide) rfl rfl (Nat.le_of_ble_eq_true rfl) (fun X C E => ?_)
  show lr_T X 0 [(0, .inr (20, 0)), (1, .inl a1), (2, .inl a2)] [] t
  have h := (show ((lr_G_M_find a1 (2 : Int32) (lr_rd t 40 0 (3 : Int32).toNatClampNeg) t).bind fun u1 => (if u1.1 < 0 then (some ((0 : Int32), u1.2)) else ((lr_G_M_stale u1.1 u1.2).bind fun u4 => (if u4.1 = 0 then (if lr_in u1.1 32 = true then (if (lr_rd u4.2 31 0 u1.1.toNatClampNeg) ≤ (lr_rd u4.2 40 0 (4 : Int32).toNatClampNeg) then (if a2 = (4 : Int32) then (some ((1 : Int32), (lr_wr u4.2 33 0 u1.1.toNatClampNeg (lr_rd u4.2 20 0 0)))) else (if ((lr_rd u4.2 40 0 (5 : Int32).toNatClampNeg) + (24 : Int32)) ≤ (lr_rd u4.2 33 0 u1.1.toNatClampNeg) then (if (lr_rd (lr_wr u4.2 33 0 u1.1.toNatClampNeg (lr_rd u4.2 33 0 u1.1.toNatClampNeg)) 34 0 u1.1.toNatClampNeg) = 0 then ((some (lr_wr (lr_wr u4.2 33 0 u1.1.toNatClampNeg (lr_rd u4.2 33 0 u1.1.toNatClampNeg)) 34 0 u1.1.toNatClampNeg (vp_nar .boolean (1 : Int32)))).bind fun t12 => ((lr_G_M_send (1 : Int32) a1 (lr_rd t12 36 0 u1.1.toNatClampNeg) (lr_rd t12 40 0 (3 : Int32).toNatClampNeg) (lr_rd t12 35 0 u1.1.toNatClampNeg) (0 : Int32) t12).bind fun u14 => (some ((1 : Int32), u14)))) else (some ((1 : Int32), (lr_wr u4.2 33 0 u1.1.toNatClampNeg (lr_rd u4.2 33 0 u1.1.toNatClampNeg))))) else ((some (lr_wr u4.2 33 0 u1.1.toNatClampNeg ((lr_rd u4.2 40 0 (5 : Int32).toNatClampNeg) + (24 : Int32)))).bind fun t16 => (if (lr_rd t16 34 0 u1.1.toNatClampNeg) = 0 then ((lr_G_M_send (1 : Int32) a1 (lr_rd (lr_wr t16 34 0 u1.1.toNatClampNeg (vp_nar .boolean (1 : Int32))) 36 0 u1.1.toNatClampNeg) (lr_rd (lr_wr t16 34 0 u1.1.toNatClampNeg (vp_nar .boolean (1 : Int32))) 40 0 (3 : Int32).toNatClampNeg) (lr_rd (lr_wr t16 34 0 u1.1.toNatClampNeg (vp_nar .boolean (1 : Int32))) 35 0 u1.1.toNatClampNeg) (0 : Int32) (lr_wr t16 34 0 u1.1.toNatClampNeg (vp_nar .boolean (1 : Int32)))).bind fun u19 => (some ((1 : Int32), u19))) else (some ((1 : Int32), t16)))))) else (some ((0 : Int32), u4.2))) else none) else (some ((0 : Int32), u4.2)))))) = some o from h)
  refine lr_aload_n (pc := 0) C lr_d_M_listedComes_0 rfl 0 rfl ?_
  refine lr_iload_n (pc := 1) C lr_d_M_listedComes_1 rfl 1 rfl ?_
  refine lr_iconst (pc := 2) (v := 2) C lr_d_M_listedComes_2 (by decide) ?_
  refine lr_aload_n (pc := 3) C lr_d_M_listedComes_3 rfl 0 rfl ?_
  refine lr_g7_62 (pc := 4) C lr_d_M_listedComes_4 ?_
  refine lr_iconst (pc := 7) (v := 3) C lr_d_M_listedComes_7 (by decide) ?_
  refine lr_li40 (pc := 8) C lr_d_M_listedComes_8 (by decide) ?_
  obtain ⟨u1, hu2, h⟩ := lr_bd h
  refine lr_callVi (pc := 9) (as := [.inl a1, .inl (2 : Int32), .inl (lr_rd t 40 0 (3 : Int32).toNatClampNeg)]) (st := []) (fs := fun ad => lr_fs7 t 0 ad) C (lr_r_M_find hu2) lr_c7_199 lr_d_M_listedComes_9 rfl rfl (fun _ _ => rfl) (ci := 7) rfl rfl ⟨by decide, by decide⟩ (Nat.le_of_ble_eq_true rfl) ?_
  refine lr_istore_n (pc := 12) (ls' := [(3, .inl u1.1), (0, .inr (20, 0)), (1, .inl a1), (2, .inl a2)]) C lr_d_M_listedComes_12 rfl (by decide) rfl ?_
  refine lr_iload_n (pc := 13) C lr_d_M_listedComes_13 rfl 0 rfl ?_
  refine lr_if_lt (pc := 14) (tgt := 40) C lr_d_M_listedComes_14 (by decide) (fun hc3 => ?_) (fun hc3 => ?_)
  · have h := lr_ps hc3 h
    refine lr_iconst (pc := 40) (v := 0) C lr_d_M_listedComes_40 (by decide) ?_
    have e := Option.some.inj h
    subst e
    exact lr_iret C E lr_d_M_listedComes_41 (by decide)
  · have h := lr_ng hc3 h
    refine lr_aload_n (pc := 17) C lr_d_M_listedComes_17 rfl 1 rfl ?_
    refine lr_iload_n (pc := 18) C lr_d_M_listedComes_18 rfl 0 rfl ?_
    obtain ⟨u4, hu5, h⟩ := lr_bd h
    refine lr_callVi (pc := 19) (as := [.inl u1.1]) (st := []) (fs := fun ad => lr_fs7 u1.2 0 ad) C (lr_r_M_stale hu5) lr_c7_149 lr_d_M_listedComes_19 rfl rfl (fun _ _ => rfl) (ci := 7) rfl rfl ⟨by decide, by decide⟩ (Nat.le_of_ble_eq_true rfl) ?_
    refine lr_if_ne (pc := 22) (tgt := 40) C lr_d_M_listedComes_22 (by decide) (fun hc6 => ?_) (fun hc6 => ?_)
    · have h := lr_ng hc6 h
      refine lr_iconst (pc := 40) (v := 0) C lr_d_M_listedComes_40 (by decide) ?_
      have e := Option.some.inj h
      subst e
      exact lr_iret C E lr_d_M_listedComes_41 (by decide)
    · have h := lr_ps hc6 h
      refine lr_aload_n (pc := 25) C lr_d_M_listedComes_25 rfl 1 rfl ?_
      refine lr_g7_62 (pc := 26) C lr_d_M_listedComes_26 ?_
      refine lr_iconst (pc := 29) (v := 4) C lr_d_M_listedComes_29 (by decide) ?_
      refine lr_li40 (pc := 30) C lr_d_M_listedComes_30 (by decide) ?_
      refine lr_aload_n (pc := 31) C lr_d_M_listedComes_31 rfl 1 rfl ?_
      refine lr_g7_41 (pc := 32) C lr_d_M_listedComes_32 ?_
      refine lr_iload_n (pc := 35) C lr_d_M_listedComes_35 rfl 0 rfl ?_
      obtain ⟨hb7, h⟩ := lr_gd h
      refine lr_li31 (pc := 36) C lr_d_M_listedComes_36 hb7 ?_
      refine lr_icmp_ge (pc := 37) (tgt := 42) C lr_d_M_listedComes_37 (by decide) (fun hc8 => ?_) (fun hc8 => ?_)
      · have h := lr_ps hc8 h
        refine lr_iload_n (pc := 42) C lr_d_M_listedComes_42 rfl 3 rfl ?_
        refine lr_iconst (pc := 43) (v := 4) C lr_d_M_listedComes_43 (by decide) ?_
        refine lr_icmp_ne (pc := 44) (tgt := 59) C lr_d_M_listedComes_44 (by decide) (fun hc9 => ?_) (fun hc9 => ?_)
        · have h := lr_ng hc9 h
          refine lr_aload_n (pc := 59) C lr_d_M_listedComes_59 rfl 1 rfl ?_
          refine lr_g7_47 (pc := 60) C lr_d_M_listedComes_60 ?_
          refine lr_iload_n (pc := 63) C lr_d_M_listedComes_63 rfl 0 rfl ?_
          refine lr_aload_n (pc := 64) C lr_d_M_listedComes_64 rfl 1 rfl ?_
          refine lr_g7_62 (pc := 65) C lr_d_M_listedComes_65 ?_
          refine lr_iconst (pc := 68) (v := 5) C lr_d_M_listedComes_68 (by decide) ?_
          refine lr_li40 (pc := 69) C lr_d_M_listedComes_69 (by decide) ?_
          refine lr_bipush (pc := 70) (v := 24) C lr_d_M_listedComes_70 (by decide) ?_
          refine lr_iadd (pc := 72) C lr_d_M_listedComes_72 ?_
          refine lr_aload_n (pc := 73) C lr_d_M_listedComes_73 rfl 1 rfl ?_
          refine lr_g7_47 (pc := 74) C lr_d_M_listedComes_74 ?_
          refine lr_iload_n (pc := 77) C lr_d_M_listedComes_77 rfl 0 rfl ?_
          refine lr_li33 (pc := 78) C lr_d_M_listedComes_78 hb7 ?_
          refine lr_icmp_le (pc := 79) (tgt := 94) C lr_d_M_listedComes_79 (by decide) (fun hc10 => ?_) (fun hc10 => ?_)
          · have h := lr_ps hc10 h
            refine lr_aload_n (pc := 94) C lr_d_M_listedComes_94 rfl 1 rfl ?_
            refine lr_g7_47 (pc := 95) C lr_d_M_listedComes_95 ?_
            refine lr_iload_n (pc := 98) C lr_d_M_listedComes_98 rfl 0 rfl ?_
            refine lr_li33 (pc := 99) C lr_d_M_listedComes_99 hb7 ?_
            refine lr_si33 (pc := 100) C lr_d_M_listedComes_100 hb7 ?_
            refine lr_aload_n (pc := 101) C lr_d_M_listedComes_101 rfl 1 rfl ?_
            refine lr_g7_50 (pc := 102) C lr_d_M_listedComes_102 ?_
            refine lr_iload_n (pc := 105) C lr_d_M_listedComes_105 rfl 0 rfl ?_
            refine lr_lz34 (pc := 106) C lr_d_M_listedComes_106 hb7 ?_
            refine lr_if_ne (pc := 107) (tgt := 142) C lr_d_M_listedComes_107 (by decide) (fun hc11 => ?_) (fun hc11 => ?_)
            · have h := lr_ng hc11 h
              refine lr_iconst (pc := 142) (v := 1) C lr_d_M_listedComes_142 (by decide) ?_
              have e := Option.some.inj h
              subst e
              exact lr_iret C E lr_d_M_listedComes_143 (by decide)
            · have h := lr_ps hc11 h
              refine lr_aload_n (pc := 110) C lr_d_M_listedComes_110 rfl 1 rfl ?_
              refine lr_g7_50 (pc := 111) C lr_d_M_listedComes_111 ?_
              refine lr_iload_n (pc := 114) C lr_d_M_listedComes_114 rfl 0 rfl ?_
              refine lr_iconst (pc := 115) (v := 1) C lr_d_M_listedComes_115 (by decide) ?_
              refine lr_sz34 (pc := 116) C lr_d_M_listedComes_116 hb7 ?_
              obtain ⟨t12, ht13, h⟩ := lr_bd h
              rw [Option.some.inj ht13]
              refine lr_aload_n (pc := 117) C lr_d_M_listedComes_117 rfl 1 rfl ?_
              refine lr_iconst (pc := 118) (v := 1) C lr_d_M_listedComes_118 (by decide) ?_
              refine lr_iload_n (pc := 119) C lr_d_M_listedComes_119 rfl 2 rfl ?_
              refine lr_aload_n (pc := 120) C lr_d_M_listedComes_120 rfl 1 rfl ?_
              refine lr_g7_56 (pc := 121) C lr_d_M_listedComes_121 ?_
              refine lr_iload_n (pc := 124) C lr_d_M_listedComes_124 rfl 0 rfl ?_
              refine lr_li36 (pc := 125) C lr_d_M_listedComes_125 hb7 ?_
              refine lr_aload_n (pc := 126) C lr_d_M_listedComes_126 rfl 1 rfl ?_
              refine lr_g7_62 (pc := 127) C lr_d_M_listedComes_127 ?_
              refine lr_iconst (pc := 130) (v := 3) C lr_d_M_listedComes_130 (by decide) ?_
              refine lr_li40 (pc := 131) C lr_d_M_listedComes_131 (by decide) ?_
              refine lr_aload_n (pc := 132) C lr_d_M_listedComes_132 rfl 1 rfl ?_
              refine lr_g7_53 (pc := 133) C lr_d_M_listedComes_133 ?_
              refine lr_iload_n (pc := 136) C lr_d_M_listedComes_136 rfl 0 rfl ?_
              refine lr_li35 (pc := 137) C lr_d_M_listedComes_137 hb7 ?_
              refine lr_iconst (pc := 138) (v := 0) C lr_d_M_listedComes_138 (by decide) ?_
              obtain ⟨u14, hu15, h⟩ := lr_bd h
              refine lr_callVv (pc := 139) (as := [.inl (1 : Int32), .inl a1, .inl (lr_rd t12 36 0 u1.1.toNatClampNeg), .inl (lr_rd t12 40 0 (3 : Int32).toNatClampNeg), .inl (lr_rd t12 35 0 u1.1.toNatClampNeg), .inl (0 : Int32)]) (st := []) (fs := fun ad => lr_fs7 t12 0 ad) C (lr_r_M_send hu15) lr_c7_126 lr_d_M_listedComes_139 rfl rfl (fun _ _ => rfl) (ci := 7) rfl rfl ⟨by decide, by decide⟩ (Nat.le_of_ble_eq_true rfl) ?_
              refine lr_iconst (pc := 142) (v := 1) C lr_d_M_listedComes_142 (by decide) ?_
              have e := Option.some.inj h
              subst e
              exact lr_iret C E lr_d_M_listedComes_143 (by decide)
          · have h := lr_ng hc10 h
            refine lr_aload_n (pc := 82) C lr_d_M_listedComes_82 rfl 1 rfl ?_
            refine lr_g7_62 (pc := 83) C lr_d_M_listedComes_83 ?_
            refine lr_iconst (pc := 86) (v := 5) C lr_d_M_listedComes_86 (by decide) ?_
            refine lr_li40 (pc := 87) C lr_d_M_listedComes_87 (by decide) ?_
            refine lr_bipush (pc := 88) (v := 24) C lr_d_M_listedComes_88 (by decide) ?_
            refine lr_iadd (pc := 90) C lr_d_M_listedComes_90 ?_
            refine lr_goto (pc := 91) (tgt := 100) C lr_d_M_listedComes_91 (by decide) ?_
            refine lr_si33 (pc := 100) C lr_d_M_listedComes_100 hb7 ?_
            obtain ⟨t16, ht17, h⟩ := lr_bd h
            rw [Option.some.inj ht17]
            refine lr_aload_n (pc := 101) C lr_d_M_listedComes_101 rfl 1 rfl ?_
            refine lr_g7_50 (pc := 102) C lr_d_M_listedComes_102 ?_
            refine lr_iload_n (pc := 105) C lr_d_M_listedComes_105 rfl 0 rfl ?_
            refine lr_lz34 (pc := 106) C lr_d_M_listedComes_106 hb7 ?_
            refine lr_if_ne (pc := 107) (tgt := 142) C lr_d_M_listedComes_107 (by decide) (fun hc18 => ?_) (fun hc18 => ?_)
            · have h := lr_ng hc18 h
              refine lr_iconst (pc := 142) (v := 1) C lr_d_M_listedComes_142 (by decide) ?_
              have e := Option.some.inj h
              subst e
              exact lr_iret C E lr_d_M_listedComes_143 (by decide)
            · have h := lr_ps hc18 h
              refine lr_aload_n (pc := 110) C lr_d_M_listedComes_110 rfl 1 rfl ?_
              refine lr_g7_50 (pc := 111) C lr_d_M_listedComes_111 ?_
              refine lr_iload_n (pc := 114) C lr_d_M_listedComes_114 rfl 0 rfl ?_
              refine lr_iconst (pc := 115) (v := 1) C lr_d_M_listedComes_115 (by decide) ?_
              refine lr_sz34 (pc := 116) C lr_d_M_listedComes_116 hb7 ?_
              refine lr_aload_n (pc := 117) C lr_d_M_listedComes_117 rfl 1 rfl ?_
              refine lr_iconst (pc := 118) (v := 1) C lr_d_M_listedComes_118 (by decide) ?_
              refine lr_iload_n (pc := 119) C lr_d_M_listedComes_119 rfl 2 rfl ?_
              refine lr_aload_n (pc := 120) C lr_d_M_listedComes_120 rfl 1 rfl ?_
              refine lr_g7_56 (pc := 121) C lr_d_M_listedComes_121 ?_
              refine lr_iload_n (pc := 124) C lr_d_M_listedComes_124 rfl 0 rfl ?_
              refine lr_li36 (pc := 125) C lr_d_M_listedComes_125 hb7 ?_
              refine lr_aload_n (pc := 126) C lr_d_M_listedComes_126 rfl 1 rfl ?_
              refine lr_g7_62 (pc := 127) C lr_d_M_listedComes_127 ?_
              refine lr_iconst (pc := 130) (v := 3) C lr_d_M_listedComes_130 (by decide) ?_
              refine lr_li40 (pc := 131) C lr_d_M_listedComes_131 (by decide) ?_
              refine lr_aload_n (pc := 132) C lr_d_M_listedComes_132 rfl 1 rfl ?_
              refine lr_g7_53 (pc := 133) C lr_d_M_listedComes_133 ?_
              refine lr_iload_n (pc := 136) C lr_d_M_listedComes_136 rfl 0 rfl ?_
              refine lr_li35 (pc := 137) C lr_d_M_listedComes_137 hb7 ?_
              refine lr_iconst (pc := 138) (v := 0) C lr_d_M_listedComes_138 (by decide) ?_
              obtain ⟨u19, hu20, h⟩ := lr_bd h
              refine lr_callVv (pc := 139) (as := [.inl (1 : Int32), .inl a1, .inl (lr_rd (lr_wr t16 34 0 u1.1.toNatClampNeg (vp_nar .boolean (1 : Int32))) 36 0 u1.1.toNatClampNeg), .inl (lr_rd (lr_wr t16 34 0 u1.1.toNatClampNeg (vp_nar .boolean (1 : Int32))) 40 0 (3 : Int32).toNatClampNeg), .inl (lr_rd (lr_wr t16 34 0 u1.1.toNatClampNeg (vp_nar .boolean (1 : Int32))) 35 0 u1.1.toNatClampNeg), .inl (0 : Int32)]) (st := []) (fs := fun ad => lr_fs7 (lr_wr t16 34 0 u1.1.toNatClampNeg (vp_nar .boolean (1 : Int32))) 0 ad) C (lr_r_M_send hu20) lr_c7_126 lr_d_M_listedComes_139 rfl rfl (fun _ _ => rfl) (ci := 7) rfl rfl ⟨by decide, by decide⟩ (Nat.le_of_ble_eq_true rfl) ?_
              refine lr_iconst (pc := 142) (v := 1) C lr_d_M_listedComes_142 (by decide) ?_
              have e := Option.some.inj h
              subst e
              exact lr_iret C E lr_d_M_listedComes_143 (by decide)
        · have h := lr_ps hc9 h
          refine lr_aload_n (pc := 47) C lr_d_M_listedComes_47 rfl 1 rfl ?_
          refine lr_g7_47 (pc := 48) C lr_d_M_listedComes_48 ?_
          refine lr_iload_n (pc := 51) C lr_d_M_listedComes_51 rfl 0 rfl ?_
          refine lr_aload_n (pc := 52) C lr_d_M_listedComes_52 rfl 1 rfl ?_
          refine lr_g7_119 (pc := 53) C lr_d_M_listedComes_53 ?_
          refine lr_si33 (pc := 56) C lr_d_M_listedComes_56 hb7 ?_
          refine lr_iconst (pc := 57) (v := 1) C lr_d_M_listedComes_57 (by decide) ?_
          have e := Option.some.inj h
          subst e
          exact lr_iret C E lr_d_M_listedComes_58 (by decide)
      · have h := lr_ng hc8 h
        refine lr_iconst (pc := 40) (v := 0) C lr_d_M_listedComes_40 (by decide) ?_
        have e := Option.some.inj h
        subst e
        exact lr_iret C E lr_d_M_listedComes_41 (by decide)
def lr_G_M_cleanComes (a1 : Int32) (a2 : Int32) (t : lr_S) : Option (Int32 × lr_S) := (lr_G_M_find a1 (1 : Int32) (lr_rd t 40 0 (3 : Int32).toNatClampNeg) t).bind fun u1 => (if u1.1 < 0 then (some ((0 : Int32), u1.2)) else (if lr_in (((4 : Int32) * u1.1) + a2) 128 = true then (if (lr_rd u1.2 28 0 (((4 : Int32) * u1.1) + a2).toNatClampNeg) < (lr_rd u1.2 40 0 (4 : Int32).toNatClampNeg) then ((some (lr_wr u1.2 28 0 (((4 : Int32) * u1.1) + a2).toNatClampNeg (lr_rd u1.2 40 0 (4 : Int32).toNatClampNeg))).bind fun t6 => (some ((1 : Int32), (lr_wr t6 29 0 (((4 : Int32) * u1.1) + a2).toNatClampNeg (0 : Int32))))) else (some ((0 : Int32), u1.2))) else none))
set_option maxHeartbeats 4000000 in
theorem lr_r_M_cleanComes {a1 : Int32} {a2 : Int32} {t : lr_S} {o : Int32 × lr_S} (h : lr_G_M_cleanComes a1 a2 t = some o) : lr_RI 20 60 lr_m_M_cleanComes [.inr (20, 0), .inl a1, .inl a2] t o.1 o.2 := by
  refine lr_ofI (ty := .boolean) (own := lr_R7) (by decide) rfl rfl (Nat.le_of_ble_eq_true rfl) (fun X C E => ?_)
  show lr_T X 0 [(0, .inr (20, 0)), (1, .inl a1), (2, .inl a2)] [] t
  have h := (show ((lr_G_M_find a1 (1 : Int32) (lr_rd t 40 0 (3 : Int32).toNatClampNeg) t).bind fun u1 => (if u1.1 < 0 then (some ((0 : Int32), u1.2)) else (if lr_in (((4 : Int32) * u1.1) + a2) 128 = true then (if (lr_rd u1.2 28 0 (((4 : Int32) * u1.1) + a2).toNatClampNeg) < (lr_rd u1.2 40 0 (4 : Int32).toNatClampNeg) then ((some (lr_wr u1.2 28 0 (((4 : Int32) * u1.1) + a2).toNatClampNeg (lr_rd u1.2 40 0 (4 : Int32).toNatClampNeg))).bind fun t6 => (some ((1 : Int32), (lr_wr t6 29 0 (((4 : Int32) * u1.1) + a2).toNatClampNeg (0 : Int32))))) else (some ((0 : Int32), u1.2))) else none))) = some o from h)
  refine lr_aload_n (pc := 0) C lr_d_M_cleanComes_0 rfl 0 rfl ?_
  refine lr_iload_n (pc := 1) C lr_d_M_cleanComes_1 rfl 1 rfl ?_
  refine lr_iconst (pc := 2) (v := 1) C lr_d_M_cleanComes_2 (by decide) ?_
  refine lr_aload_n (pc := 3) C lr_d_M_cleanComes_3 rfl 0 rfl ?_
  refine lr_g7_62 (pc := 4) C lr_d_M_cleanComes_4 ?_
  refine lr_iconst (pc := 7) (v := 3) C lr_d_M_cleanComes_7 (by decide) ?_
  refine lr_li40 (pc := 8) C lr_d_M_cleanComes_8 (by decide) ?_
  obtain ⟨u1, hu2, h⟩ := lr_bd h
  refine lr_callVi (pc := 9) (as := [.inl a1, .inl (1 : Int32), .inl (lr_rd t 40 0 (3 : Int32).toNatClampNeg)]) (st := []) (fs := fun ad => lr_fs7 t 0 ad) C (lr_r_M_find hu2) lr_c7_199 lr_d_M_cleanComes_9 rfl rfl (fun _ _ => rfl) (ci := 7) rfl rfl ⟨by decide, by decide⟩ (Nat.le_of_ble_eq_true rfl) ?_
  refine lr_istore_n (pc := 12) (ls' := [(3, .inl u1.1), (0, .inr (20, 0)), (1, .inl a1), (2, .inl a2)]) C lr_d_M_cleanComes_12 rfl (by decide) rfl ?_
  refine lr_iload_n (pc := 13) C lr_d_M_cleanComes_13 rfl 0 rfl ?_
  refine lr_if_lt (pc := 14) (tgt := 36) C lr_d_M_cleanComes_14 (by decide) (fun hc3 => ?_) (fun hc3 => ?_)
  · have h := lr_ps hc3 h
    refine lr_iconst (pc := 36) (v := 0) C lr_d_M_cleanComes_36 (by decide) ?_
    have e := Option.some.inj h
    subst e
    exact lr_iret C E lr_d_M_cleanComes_37 (by decide)
  · have h := lr_ng hc3 h
    refine lr_aload_n (pc := 17) C lr_d_M_cleanComes_17 rfl 1 rfl ?_
    refine lr_g7_62 (pc := 18) C lr_d_M_cleanComes_18 ?_
    refine lr_iconst (pc := 21) (v := 4) C lr_d_M_cleanComes_21 (by decide) ?_
    refine lr_li40 (pc := 22) C lr_d_M_cleanComes_22 (by decide) ?_
    refine lr_aload_n (pc := 23) C lr_d_M_cleanComes_23 rfl 1 rfl ?_
    refine lr_g7_32 (pc := 24) C lr_d_M_cleanComes_24 ?_
    refine lr_iconst (pc := 27) (v := 4) C lr_d_M_cleanComes_27 (by decide) ?_
    refine lr_iload_n (pc := 28) C lr_d_M_cleanComes_28 rfl 0 rfl ?_
    refine lr_imul (pc := 29) C lr_d_M_cleanComes_29 ?_
    refine lr_iload_n (pc := 30) C lr_d_M_cleanComes_30 rfl 3 rfl ?_
    refine lr_iadd (pc := 31) C lr_d_M_cleanComes_31 ?_
    obtain ⟨hb4, h⟩ := lr_gd h
    refine lr_li28 (pc := 32) C lr_d_M_cleanComes_32 hb4 ?_
    refine lr_icmp_gt (pc := 33) (tgt := 38) C lr_d_M_cleanComes_33 (by decide) (fun hc5 => ?_) (fun hc5 => ?_)
    · have h := lr_ps hc5 h
      refine lr_aload_n (pc := 38) C lr_d_M_cleanComes_38 rfl 1 rfl ?_
      refine lr_g7_32 (pc := 39) C lr_d_M_cleanComes_39 ?_
      refine lr_iconst (pc := 42) (v := 4) C lr_d_M_cleanComes_42 (by decide) ?_
      refine lr_iload_n (pc := 43) C lr_d_M_cleanComes_43 rfl 0 rfl ?_
      refine lr_imul (pc := 44) C lr_d_M_cleanComes_44 ?_
      refine lr_iload_n (pc := 45) C lr_d_M_cleanComes_45 rfl 3 rfl ?_
      refine lr_iadd (pc := 46) C lr_d_M_cleanComes_46 ?_
      refine lr_aload_n (pc := 47) C lr_d_M_cleanComes_47 rfl 1 rfl ?_
      refine lr_g7_62 (pc := 48) C lr_d_M_cleanComes_48 ?_
      refine lr_iconst (pc := 51) (v := 4) C lr_d_M_cleanComes_51 (by decide) ?_
      refine lr_li40 (pc := 52) C lr_d_M_cleanComes_52 (by decide) ?_
      refine lr_si28 (pc := 53) C lr_d_M_cleanComes_53 hb4 ?_
      obtain ⟨t6, ht7, h⟩ := lr_bd h
      rw [Option.some.inj ht7]
      refine lr_aload_n (pc := 54) C lr_d_M_cleanComes_54 rfl 1 rfl ?_
      refine lr_g7_35 (pc := 55) C lr_d_M_cleanComes_55 ?_
      refine lr_iconst (pc := 58) (v := 4) C lr_d_M_cleanComes_58 (by decide) ?_
      refine lr_iload_n (pc := 59) C lr_d_M_cleanComes_59 rfl 0 rfl ?_
      refine lr_imul (pc := 60) C lr_d_M_cleanComes_60 ?_
      refine lr_iload_n (pc := 61) C lr_d_M_cleanComes_61 rfl 3 rfl ?_
      refine lr_iadd (pc := 62) C lr_d_M_cleanComes_62 ?_
      refine lr_iconst (pc := 63) (v := 0) C lr_d_M_cleanComes_63 (by decide) ?_
      refine lr_si29 (pc := 64) C lr_d_M_cleanComes_64 hb4 ?_
      refine lr_iconst (pc := 65) (v := 1) C lr_d_M_cleanComes_65 (by decide) ?_
      have e := Option.some.inj h
      subst e
      exact lr_iret C E lr_d_M_cleanComes_66 (by decide)
    · have h := lr_ng hc5 h
      refine lr_iconst (pc := 36) (v := 0) C lr_d_M_cleanComes_36 (by decide) ?_
      have e := Option.some.inj h
      subst e
      exact lr_iret C E lr_d_M_cleanComes_37 (by decide)
