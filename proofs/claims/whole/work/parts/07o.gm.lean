def lr_G_M_slot (a1 : Int32) (a2 : Int32) (a3 : Int32) (t : lr_S) : Option (Int32 × lr_S) := (lr_G_M_within a1 (4 : Int32) t).bind fun u1 => (if u1.1 = 0 then (some ((-1 : Int32), u1.2)) else ((lr_G_M_within a2 (8 : Int32) u1.2).bind fun u4 => (if u4.1 = 0 then (some ((-1 : Int32), u4.2)) else ((lr_G_M_within a3 (5 : Int32) u4.2).bind fun u7 => (if u7.1 = 0 then (some ((-1 : Int32), u7.2)) else (if a3 = 0 then (if lr_in (((8 : Int32) * a1) + a2) 32 = true then (some ((lr_rd u7.2 24 0 (((8 : Int32) * a1) + a2).toNatClampNeg), u7.2)) else none) else (if lr_in (((8 : Int32) * a1) + a2) 32 = true then (if (lr_rd u7.2 24 0 (((8 : Int32) * a1) + a2).toNatClampNeg) = 0 then (some ((-1 : Int32), u7.2)) else (if a3 = (1 : Int32) then (some ((lr_rd u7.2 25 0 (((8 : Int32) * a1) + a2).toNatClampNeg), u7.2)) else (if (lr_rd u7.2 24 0 (((8 : Int32) * a1) + a2).toNatClampNeg) = (1 : Int32) then (if a3 = (2 : Int32) then (some ((lr_rd u7.2 26 0 (((8 : Int32) * a1) + a2).toNatClampNeg), u7.2)) else (if lr_in ((((2 : Int32) * (((8 : Int32) * a1) + a2)) + a3) - (3 : Int32)) 64 = true then (some ((lr_rd u7.2 27 0 ((((2 : Int32) * (((8 : Int32) * a1) + a2)) + a3) - (3 : Int32)).toNatClampNeg), u7.2)) else none)) else (if a3 = (2 : Int32) then ((lr_G_M_stale (((8 : Int32) * a1) + a2) u7.2).bind fun u18 => (if u18.1 = 0 then (if (lr_rd u18.2 34 0 (((8 : Int32) * a1) + a2).toNatClampNeg) = 0 then (some ((0 : Int32), u18.2)) else (some ((1 : Int32), u18.2))) else (some ((2 : Int32), u18.2)))) else (if a3 = (3 : Int32) then (some ((lr_rd u7.2 33 0 (((8 : Int32) * a1) + a2).toNatClampNeg), u7.2)) else (some ((lr_rd u7.2 30 0 (((8 : Int32) * a1) + a2).toNatClampNeg), u7.2))))))) else none)))))))
set_option maxHeartbeats 4000000 in
theorem lr_r_M_slot {a1 : Int32} {a2 : Int32} {a3 : Int32} {t : lr_S} {o : Int32 × lr_S} (h : lr_G_M_slot a1 a2 a3 t = some o) : lr_RI 20 60 lr_m_M_slot [.inr (20, 0), .inl a1, .inl a2, .inl a3] t o.1 o.2 := by
  refine lr_ofI (ty := .int) (own := lr_R7) (by decide) rfl rfl (Nat.le_of_ble_eq_true rfl) (fun X C E => ?_)
  show lr_T X 0 [(0, .inr (20, 0)), (1, .inl a1), (2, .inl a2), (3, .inl a3)] [] t
  have h := (show ((lr_G_M_within a1 (4 : Int32) t).bind fun u1 => (if u1.1 = 0 then (some ((-1 : Int32), u1.2)) else ((lr_G_M_within a2 (8 : Int32) u1.2).bind fun u4 => (if u4.1 = 0 then (some ((-1 : Int32), u4.2)) else ((lr_G_M_within a3 (5 : Int32) u4.2).bind fun u7 => (if u7.1 = 0 then (some ((-1 : Int32), u7.2)) else (if a3 = 0 then (if lr_in (((8 : Int32) * a1) + a2) 32 = true then (some ((lr_rd u7.2 24 0 (((8 : Int32) * a1) + a2).toNatClampNeg), u7.2)) else none) else (if lr_in (((8 : Int32) * a1) + a2) 32 = true then (if (lr_rd u7.2 24 0 (((8 : Int32) * a1) + a2).toNatClampNeg) = 0 then (some ((-1 : Int32), u7.2)) else (if a3 = (1 : Int32) then (some ((lr_rd u7.2 25 0 (((8 : Int32) * a1) + a2).toNatClampNeg), u7.2)) else (if (lr_rd u7.2 24 0 (((8 : Int32) * a1) + a2).toNatClampNeg) = (1 : Int32) then (if a3 = (2 : Int32) then (some ((lr_rd u7.2 26 0 (((8 : Int32) * a1) + a2).toNatClampNeg), u7.2)) else (if lr_in ((((2 : Int32) * (((8 : Int32) * a1) + a2)) + a3) - (3 : Int32)) 64 = true then (some ((lr_rd u7.2 27 0 ((((2 : Int32) * (((8 : Int32) * a1) + a2)) + a3) - (3 : Int32)).toNatClampNeg), u7.2)) else none)) else (if a3 = (2 : Int32) then ((lr_G_M_stale (((8 : Int32) * a1) + a2) u7.2).bind fun u18 => (if u18.1 = 0 then (if (lr_rd u18.2 34 0 (((8 : Int32) * a1) + a2).toNatClampNeg) = 0 then (some ((0 : Int32), u18.2)) else (some ((1 : Int32), u18.2))) else (some ((2 : Int32), u18.2)))) else (if a3 = (3 : Int32) then (some ((lr_rd u7.2 33 0 (((8 : Int32) * a1) + a2).toNatClampNeg), u7.2)) else (some ((lr_rd u7.2 30 0 (((8 : Int32) * a1) + a2).toNatClampNeg), u7.2))))))) else none)))))))) = some o from h)
  refine lr_iload_n (pc := 0) C lr_d_M_slot_0 rfl 1 rfl ?_
  refine lr_iconst (pc := 1) (v := 4) C lr_d_M_slot_1 (by decide) ?_
  obtain ⟨u1, hu2, h⟩ := lr_bd h
  refine lr_callSi (pc := 2) (as := [.inl a1, .inl (4 : Int32)]) (st := []) C (lr_r_M_within hu2) lr_c7_107 lr_d_M_slot_2 rfl rfl ⟨by decide, by decide⟩ (Nat.le_of_ble_eq_true rfl) ?_
  refine lr_if_eq (pc := 5) (tgt := 25) C lr_d_M_slot_5 (by decide) (fun hc3 => ?_) (fun hc3 => ?_)
  · have h := lr_ps hc3 h
    refine lr_iconst (pc := 25) (v := -1) C lr_d_M_slot_25 (by decide) ?_
    have e := Option.some.inj h
    subst e
    exact lr_iret C E lr_d_M_slot_26 rfl
  · have h := lr_ng hc3 h
    refine lr_iload_n (pc := 8) C lr_d_M_slot_8 rfl 2 rfl ?_
    refine lr_bipush (pc := 9) (v := 8) C lr_d_M_slot_9 (by decide) ?_
    obtain ⟨u4, hu5, h⟩ := lr_bd h
    refine lr_callSi (pc := 11) (as := [.inl a2, .inl (8 : Int32)]) (st := []) C (lr_r_M_within hu5) lr_c7_107 lr_d_M_slot_11 rfl rfl ⟨by decide, by decide⟩ (Nat.le_of_ble_eq_true rfl) ?_
    refine lr_if_eq (pc := 14) (tgt := 25) C lr_d_M_slot_14 (by decide) (fun hc6 => ?_) (fun hc6 => ?_)
    · have h := lr_ps hc6 h
      refine lr_iconst (pc := 25) (v := -1) C lr_d_M_slot_25 (by decide) ?_
      have e := Option.some.inj h
      subst e
      exact lr_iret C E lr_d_M_slot_26 rfl
    · have h := lr_ng hc6 h
      refine lr_iload_n (pc := 17) C lr_d_M_slot_17 rfl 3 rfl ?_
      refine lr_iconst (pc := 18) (v := 5) C lr_d_M_slot_18 (by decide) ?_
      obtain ⟨u7, hu8, h⟩ := lr_bd h
      refine lr_callSi (pc := 19) (as := [.inl a3, .inl (5 : Int32)]) (st := []) C (lr_r_M_within hu8) lr_c7_107 lr_d_M_slot_19 rfl rfl ⟨by decide, by decide⟩ (Nat.le_of_ble_eq_true rfl) ?_
      refine lr_if_ne (pc := 22) (tgt := 27) C lr_d_M_slot_22 (by decide) (fun hc9 => ?_) (fun hc9 => ?_)
      · have h := lr_ng hc9 h
        refine lr_bipush (pc := 27) (v := 8) C lr_d_M_slot_27 (by decide) ?_
        refine lr_iload_n (pc := 29) C lr_d_M_slot_29 rfl 1 rfl ?_
        refine lr_imul (pc := 30) C lr_d_M_slot_30 ?_
        refine lr_iload_n (pc := 31) C lr_d_M_slot_31 rfl 2 rfl ?_
        refine lr_iadd (pc := 32) C lr_d_M_slot_32 ?_
        refine lr_istore (pc := 33) (ls' := [(4, .inl (((8 : Int32) * a1) + a2)), (0, .inr (20, 0)), (1, .inl a1), (2, .inl a2), (3, .inl a3)]) C lr_d_M_slot_33 (by decide) rfl ?_
        refine lr_iload_n (pc := 35) C lr_d_M_slot_35 rfl 4 rfl ?_
        refine lr_if_eq (pc := 36) (tgt := 49) C lr_d_M_slot_36 (by decide) (fun hc10 => ?_) (fun hc10 => ?_)
        · have h := lr_ps hc10 h
          refine lr_iload_n (pc := 49) C lr_d_M_slot_49 rfl 4 rfl ?_
          refine lr_if_ne (pc := 50) (tgt := 63) C lr_d_M_slot_50 (by decide) (fun hc => (by first | exact absurd hc hc10 | exact absurd hc10 hc | exact absurd hc (Int32.not_le.mpr hc10) | exact absurd hc10 (Int32.not_lt.mpr hc) | exact absurd (Int32.not_le.mp hc) hc10 | exact absurd (Int32.not_lt.mp hc) hc10 | exact absurd hc (Int32.not_lt.mpr hc10) | exact hc (Int32.not_lt.mp hc10) | exact hc (Int32.not_le.mp hc10) : False).elim) (fun _ => ?_)
          refine lr_aload_n (pc := 53) C lr_d_M_slot_53 rfl 1 rfl ?_
          refine lr_g7_20 (pc := 54) C lr_d_M_slot_54 ?_
          refine lr_iload (pc := 57) C lr_d_M_slot_57 0 rfl ?_
          obtain ⟨hb11, h⟩ := lr_gd h
          refine lr_li24 (pc := 59) C lr_d_M_slot_59 hb11 ?_
          refine lr_goto (pc := 60) (tgt := 64) C lr_d_M_slot_60 (by decide) ?_
          have e := Option.some.inj h
          subst e
          exact lr_iret C E lr_d_M_slot_64 rfl
        · have h := lr_ng hc10 h
          refine lr_aload_n (pc := 39) C lr_d_M_slot_39 rfl 1 rfl ?_
          refine lr_g7_20 (pc := 40) C lr_d_M_slot_40 ?_
          refine lr_iload (pc := 43) C lr_d_M_slot_43 0 rfl ?_
          obtain ⟨hb12, h⟩ := lr_gd h
          refine lr_li24 (pc := 45) C lr_d_M_slot_45 hb12 ?_
          refine lr_if_ne (pc := 46) (tgt := 65) C lr_d_M_slot_46 (by decide) (fun hc13 => ?_) (fun hc13 => ?_)
          · have h := lr_ng hc13 h
            refine lr_iload_n (pc := 65) C lr_d_M_slot_65 rfl 4 rfl ?_
            refine lr_iconst (pc := 66) (v := 1) C lr_d_M_slot_66 (by decide) ?_
            refine lr_icmp_ne (pc := 67) (tgt := 78) C lr_d_M_slot_67 (by decide) (fun hc14 => ?_) (fun hc14 => ?_)
            · have h := lr_ng hc14 h
              refine lr_aload_n (pc := 78) C lr_d_M_slot_78 rfl 1 rfl ?_
              refine lr_g7_20 (pc := 79) C lr_d_M_slot_79 ?_
              refine lr_iload (pc := 82) C lr_d_M_slot_82 0 rfl ?_
              refine lr_li24 (pc := 84) C lr_d_M_slot_84 hb12 ?_
              refine lr_iconst (pc := 85) (v := 1) C lr_d_M_slot_85 (by decide) ?_
              refine lr_icmp_ne (pc := 86) (tgt := 118) C lr_d_M_slot_86 (by decide) (fun hc15 => ?_) (fun hc15 => ?_)
              · have h := lr_ng hc15 h
                refine lr_iload_n (pc := 118) C lr_d_M_slot_118 rfl 4 rfl ?_
                refine lr_iconst (pc := 119) (v := 2) C lr_d_M_slot_119 (by decide) ?_
                refine lr_icmp_ne (pc := 120) (tgt := 154) C lr_d_M_slot_120 (by decide) (fun hc16 => ?_) (fun hc16 => ?_)
                · have h := lr_ng hc16 h
                  refine lr_iload_n (pc := 154) C lr_d_M_slot_154 rfl 4 rfl ?_
                  refine lr_iconst (pc := 155) (v := 3) C lr_d_M_slot_155 (by decide) ?_
                  refine lr_icmp_ne (pc := 156) (tgt := 169) C lr_d_M_slot_156 (by decide) (fun hc17 => ?_) (fun hc17 => ?_)
                  · have h := lr_ng hc17 h
                    refine lr_aload_n (pc := 169) C lr_d_M_slot_169 rfl 1 rfl ?_
                    refine lr_g7_38 (pc := 170) C lr_d_M_slot_170 ?_
                    refine lr_iload (pc := 173) C lr_d_M_slot_173 0 rfl ?_
                    refine lr_li30 (pc := 175) C lr_d_M_slot_175 hb12 ?_
                    have e := Option.some.inj h
                    subst e
                    exact lr_iret C E lr_d_M_slot_176 rfl
                  · have h := lr_ps hc17 h
                    refine lr_aload_n (pc := 159) C lr_d_M_slot_159 rfl 1 rfl ?_
                    refine lr_g7_47 (pc := 160) C lr_d_M_slot_160 ?_
                    refine lr_iload (pc := 163) C lr_d_M_slot_163 0 rfl ?_
                    refine lr_li33 (pc := 165) C lr_d_M_slot_165 hb12 ?_
                    refine lr_goto (pc := 166) (tgt := 176) C lr_d_M_slot_166 (by decide) ?_
                    have e := Option.some.inj h
                    subst e
                    exact lr_iret C E lr_d_M_slot_176 rfl
                · have h := lr_ps hc16 h
                  refine lr_aload_n (pc := 123) C lr_d_M_slot_123 rfl 1 rfl ?_
                  refine lr_iload (pc := 124) C lr_d_M_slot_124 0 rfl ?_
                  obtain ⟨u18, hu19, h⟩ := lr_bd h
                  refine lr_callVi (pc := 126) (as := [.inl (((8 : Int32) * a1) + a2)]) (st := []) (fs := fun ad => lr_fs7 u7.2 0 ad) C (lr_r_M_stale hu19) lr_c7_149 lr_d_M_slot_126 rfl rfl (fun _ _ => rfl) (ci := 7) rfl rfl ⟨by decide, by decide⟩ (Nat.le_of_ble_eq_true rfl) ?_
                  refine lr_if_eq (pc := 129) (tgt := 136) C lr_d_M_slot_129 (by decide) (fun hc20 => ?_) (fun hc20 => ?_)
                  · have h := lr_ps hc20 h
                    refine lr_aload_n (pc := 136) C lr_d_M_slot_136 rfl 1 rfl ?_
                    refine lr_g7_50 (pc := 137) C lr_d_M_slot_137 ?_
                    refine lr_iload (pc := 140) C lr_d_M_slot_140 0 rfl ?_
                    refine lr_lz34 (pc := 142) C lr_d_M_slot_142 hb12 ?_
                    refine lr_if_eq (pc := 143) (tgt := 150) C lr_d_M_slot_143 (by decide) (fun hc21 => ?_) (fun hc21 => ?_)
                    · have h := lr_ps hc21 h
                      refine lr_iconst (pc := 150) (v := 0) C lr_d_M_slot_150 (by decide) ?_
                      refine lr_goto (pc := 151) (tgt := 176) C lr_d_M_slot_151 (by decide) ?_
                      have e := Option.some.inj h
                      subst e
                      exact lr_iret C E lr_d_M_slot_176 rfl
                    · have h := lr_ng hc21 h
                      refine lr_iconst (pc := 146) (v := 1) C lr_d_M_slot_146 (by decide) ?_
                      refine lr_goto (pc := 147) (tgt := 176) C lr_d_M_slot_147 (by decide) ?_
                      have e := Option.some.inj h
                      subst e
                      exact lr_iret C E lr_d_M_slot_176 rfl
                  · have h := lr_ng hc20 h
                    refine lr_iconst (pc := 132) (v := 2) C lr_d_M_slot_132 (by decide) ?_
                    refine lr_goto (pc := 133) (tgt := 176) C lr_d_M_slot_133 (by decide) ?_
                    have e := Option.some.inj h
                    subst e
                    exact lr_iret C E lr_d_M_slot_176 rfl
              · have h := lr_ps hc15 h
                refine lr_iload_n (pc := 89) C lr_d_M_slot_89 rfl 4 rfl ?_
                refine lr_iconst (pc := 90) (v := 2) C lr_d_M_slot_90 (by decide) ?_
                refine lr_icmp_ne (pc := 91) (tgt := 104) C lr_d_M_slot_91 (by decide) (fun hc22 => ?_) (fun hc22 => ?_)
                · have h := lr_ng hc22 h
                  refine lr_aload_n (pc := 104) C lr_d_M_slot_104 rfl 1 rfl ?_
                  refine lr_g7_29 (pc := 105) C lr_d_M_slot_105 ?_
                  refine lr_iconst (pc := 108) (v := 2) C lr_d_M_slot_108 (by decide) ?_
                  refine lr_iload (pc := 109) C lr_d_M_slot_109 0 rfl ?_
                  refine lr_imul (pc := 111) C lr_d_M_slot_111 ?_
                  refine lr_iload_n (pc := 112) C lr_d_M_slot_112 rfl 4 rfl ?_
                  refine lr_iadd (pc := 113) C lr_d_M_slot_113 ?_
                  refine lr_iconst (pc := 114) (v := 3) C lr_d_M_slot_114 (by decide) ?_
                  refine lr_isub (pc := 115) C lr_d_M_slot_115 ?_
                  obtain ⟨hb23, h⟩ := lr_gd h
                  refine lr_li27 (pc := 116) C lr_d_M_slot_116 hb23 ?_
                  have e := Option.some.inj h
                  subst e
                  exact lr_iret C E lr_d_M_slot_117 rfl
                · have h := lr_ps hc22 h
                  refine lr_aload_n (pc := 94) C lr_d_M_slot_94 rfl 1 rfl ?_
                  refine lr_g7_26 (pc := 95) C lr_d_M_slot_95 ?_
                  refine lr_iload (pc := 98) C lr_d_M_slot_98 0 rfl ?_
                  refine lr_li26 (pc := 100) C lr_d_M_slot_100 hb12 ?_
                  refine lr_goto (pc := 101) (tgt := 117) C lr_d_M_slot_101 (by decide) ?_
                  have e := Option.some.inj h
                  subst e
                  exact lr_iret C E lr_d_M_slot_117 rfl
            · have h := lr_ps hc14 h
              refine lr_aload_n (pc := 70) C lr_d_M_slot_70 rfl 1 rfl ?_
              refine lr_g7_23 (pc := 71) C lr_d_M_slot_71 ?_
              refine lr_iload (pc := 74) C lr_d_M_slot_74 0 rfl ?_
              refine lr_li25 (pc := 76) C lr_d_M_slot_76 hb12 ?_
              have e := Option.some.inj h
              subst e
              exact lr_iret C E lr_d_M_slot_77 rfl
          · have h := lr_ps hc13 h
            refine lr_iload_n (pc := 49) C lr_d_M_slot_49 rfl 4 rfl ?_
            refine lr_if_ne (pc := 50) (tgt := 63) C lr_d_M_slot_50 (by decide) (fun _ => ?_) (fun hc => (by first | exact absurd hc hc10 | exact absurd hc10 hc | exact absurd hc (Int32.not_le.mpr hc10) | exact absurd hc10 (Int32.not_lt.mpr hc) | exact absurd (Int32.not_le.mp hc) hc10 | exact absurd (Int32.not_lt.mp hc) hc10 | exact absurd hc (Int32.not_lt.mpr hc10) | exact hc (Int32.not_lt.mp hc10) | exact hc (Int32.not_le.mp hc10) : False).elim)
            refine lr_iconst (pc := 63) (v := -1) C lr_d_M_slot_63 (by decide) ?_
            have e := Option.some.inj h
            subst e
            exact lr_iret C E lr_d_M_slot_64 rfl
      · have h := lr_ps hc9 h
        refine lr_iconst (pc := 25) (v := -1) C lr_d_M_slot_25 (by decide) ?_
        have e := Option.some.inj h
        subst e
        exact lr_iret C E lr_d_M_slot_26 rfl
def lr_G_M_listing (a1 : Int32) (a2 : Int32) (a3 : Int32) (t : lr_S) : Option (Int32 × lr_S) := (lr_G_M_within a1 (4 : Int32) t).bind fun u1 => (if u1.1 = 0 then (some ((-1 : Int32), u1.2)) else ((lr_G_M_within a2 (8 : Int32) u1.2).bind fun u4 => (if u4.1 = 0 then (some ((-1 : Int32), u4.2)) else ((lr_G_M_within a3 (4 : Int32) u4.2).bind fun u7 => (if u7.1 = 0 then (some ((-1 : Int32), u7.2)) else (if a3 = a1 then (some ((-1 : Int32), u7.2)) else (if lr_in (((8 : Int32) * a1) + a2) 32 = true then (if (lr_rd u7.2 24 0 (((8 : Int32) * a1) + a2).toNatClampNeg) = (1 : Int32) then (if lr_in ((((32 : Int32) * a1) + ((4 : Int32) * a2)) + a3) 128 = true then (if ((lr_rd u7.2 29 0 ((((32 : Int32) * a1) + ((4 : Int32) * a2)) + a3).toNatClampNeg) - (lr_rd u7.2 20 0 0)) ≤ 0 then (some ((0 : Int32), u7.2)) else (some (((lr_rd u7.2 29 0 ((((32 : Int32) * a1) + ((4 : Int32) * a2)) + a3).toNatClampNeg) - (lr_rd u7.2 20 0 0)), u7.2))) else none) else (some ((-1 : Int32), u7.2))) else none)))))))
set_option maxHeartbeats 4000000 in
theorem lr_r_M_listing {a1 : Int32} {a2 : Int32} {a3 : Int32} {t : lr_S} {o : Int32 × lr_S} (h : lr_G_M_listing a1 a2 a3 t = some o) : lr_RI 20 60 lr_m_M_listing [.inr (20, 0), .inl a1, .inl a2, .inl a3] t o.1 o.2 := by
  refine lr_ofI (ty := .int) (own := lr_R7) (by decide) rfl rfl (Nat.le_of_ble_eq_true rfl) (fun X C E => ?_)
  show lr_T X 0 [(0, .inr (20, 0)), (1, .inl a1), (2, .inl a2), (3, .inl a3)] [] t
  have h := (show ((lr_G_M_within a1 (4 : Int32) t).bind fun u1 => (if u1.1 = 0 then (some ((-1 : Int32), u1.2)) else ((lr_G_M_within a2 (8 : Int32) u1.2).bind fun u4 => (if u4.1 = 0 then (some ((-1 : Int32), u4.2)) else ((lr_G_M_within a3 (4 : Int32) u4.2).bind fun u7 => (if u7.1 = 0 then (some ((-1 : Int32), u7.2)) else (if a3 = a1 then (some ((-1 : Int32), u7.2)) else (if lr_in (((8 : Int32) * a1) + a2) 32 = true then (if (lr_rd u7.2 24 0 (((8 : Int32) * a1) + a2).toNatClampNeg) = (1 : Int32) then (if lr_in ((((32 : Int32) * a1) + ((4 : Int32) * a2)) + a3) 128 = true then (if ((lr_rd u7.2 29 0 ((((32 : Int32) * a1) + ((4 : Int32) * a2)) + a3).toNatClampNeg) - (lr_rd u7.2 20 0 0)) ≤ 0 then (some ((0 : Int32), u7.2)) else (some (((lr_rd u7.2 29 0 ((((32 : Int32) * a1) + ((4 : Int32) * a2)) + a3).toNatClampNeg) - (lr_rd u7.2 20 0 0)), u7.2))) else none) else (some ((-1 : Int32), u7.2))) else none)))))))) = some o from h)
  refine lr_iload_n (pc := 0) C lr_d_M_listing_0 rfl 1 rfl ?_
  refine lr_iconst (pc := 1) (v := 4) C lr_d_M_listing_1 (by decide) ?_
  obtain ⟨u1, hu2, h⟩ := lr_bd h
  refine lr_callSi (pc := 2) (as := [.inl a1, .inl (4 : Int32)]) (st := []) C (lr_r_M_within hu2) lr_c7_107 lr_d_M_listing_2 rfl rfl ⟨by decide, by decide⟩ (Nat.le_of_ble_eq_true rfl) ?_
  refine lr_if_eq (pc := 5) (tgt := 45) C lr_d_M_listing_5 (by decide) (fun hc3 => ?_) (fun hc3 => ?_)
  · have h := lr_ps hc3 h
    refine lr_iconst (pc := 45) (v := -1) C lr_d_M_listing_45 (by decide) ?_
    have e := Option.some.inj h
    subst e
    exact lr_iret C E lr_d_M_listing_46 rfl
  · have h := lr_ng hc3 h
    refine lr_iload_n (pc := 8) C lr_d_M_listing_8 rfl 2 rfl ?_
    refine lr_bipush (pc := 9) (v := 8) C lr_d_M_listing_9 (by decide) ?_
    obtain ⟨u4, hu5, h⟩ := lr_bd h
    refine lr_callSi (pc := 11) (as := [.inl a2, .inl (8 : Int32)]) (st := []) C (lr_r_M_within hu5) lr_c7_107 lr_d_M_listing_11 rfl rfl ⟨by decide, by decide⟩ (Nat.le_of_ble_eq_true rfl) ?_
    refine lr_if_eq (pc := 14) (tgt := 45) C lr_d_M_listing_14 (by decide) (fun hc6 => ?_) (fun hc6 => ?_)
    · have h := lr_ps hc6 h
      refine lr_iconst (pc := 45) (v := -1) C lr_d_M_listing_45 (by decide) ?_
      have e := Option.some.inj h
      subst e
      exact lr_iret C E lr_d_M_listing_46 rfl
    · have h := lr_ng hc6 h
      refine lr_iload_n (pc := 17) C lr_d_M_listing_17 rfl 3 rfl ?_
      refine lr_iconst (pc := 18) (v := 4) C lr_d_M_listing_18 (by decide) ?_
      obtain ⟨u7, hu8, h⟩ := lr_bd h
      refine lr_callSi (pc := 19) (as := [.inl a3, .inl (4 : Int32)]) (st := []) C (lr_r_M_within hu8) lr_c7_107 lr_d_M_listing_19 rfl rfl ⟨by decide, by decide⟩ (Nat.le_of_ble_eq_true rfl) ?_
      refine lr_if_eq (pc := 22) (tgt := 45) C lr_d_M_listing_22 (by decide) (fun hc9 => ?_) (fun hc9 => ?_)
      · have h := lr_ps hc9 h
        refine lr_iconst (pc := 45) (v := -1) C lr_d_M_listing_45 (by decide) ?_
        have e := Option.some.inj h
        subst e
        exact lr_iret C E lr_d_M_listing_46 rfl
      · have h := lr_ng hc9 h
        refine lr_iload_n (pc := 25) C lr_d_M_listing_25 rfl 3 rfl ?_
        refine lr_iload_n (pc := 26) C lr_d_M_listing_26 rfl 1 rfl ?_
        refine lr_icmp_eq (pc := 27) (tgt := 45) C lr_d_M_listing_27 (by decide) (fun hc10 => ?_) (fun hc10 => ?_)
        · have h := lr_ps hc10 h
          refine lr_iconst (pc := 45) (v := -1) C lr_d_M_listing_45 (by decide) ?_
          have e := Option.some.inj h
          subst e
          exact lr_iret C E lr_d_M_listing_46 rfl
        · have h := lr_ng hc10 h
          refine lr_aload_n (pc := 30) C lr_d_M_listing_30 rfl 0 rfl ?_
          refine lr_g7_20 (pc := 31) C lr_d_M_listing_31 ?_
          refine lr_bipush (pc := 34) (v := 8) C lr_d_M_listing_34 (by decide) ?_
          refine lr_iload_n (pc := 36) C lr_d_M_listing_36 rfl 1 rfl ?_
          refine lr_imul (pc := 37) C lr_d_M_listing_37 ?_
          refine lr_iload_n (pc := 38) C lr_d_M_listing_38 rfl 2 rfl ?_
          refine lr_iadd (pc := 39) C lr_d_M_listing_39 ?_
          obtain ⟨hb11, h⟩ := lr_gd h
          refine lr_li24 (pc := 40) C lr_d_M_listing_40 hb11 ?_
          refine lr_iconst (pc := 41) (v := 1) C lr_d_M_listing_41 (by decide) ?_
          refine lr_icmp_eq (pc := 42) (tgt := 47) C lr_d_M_listing_42 (by decide) (fun hc12 => ?_) (fun hc12 => ?_)
          · have h := lr_ps hc12 h
            refine lr_aload_n (pc := 47) C lr_d_M_listing_47 rfl 0 rfl ?_
            refine lr_g7_35 (pc := 48) C lr_d_M_listing_48 ?_
            refine lr_bipush (pc := 51) (v := 32) C lr_d_M_listing_51 (by decide) ?_
            refine lr_iload_n (pc := 53) C lr_d_M_listing_53 rfl 1 rfl ?_
            refine lr_imul (pc := 54) C lr_d_M_listing_54 ?_
            refine lr_iconst (pc := 55) (v := 4) C lr_d_M_listing_55 (by decide) ?_
            refine lr_iload_n (pc := 56) C lr_d_M_listing_56 rfl 2 rfl ?_
            refine lr_imul (pc := 57) C lr_d_M_listing_57 ?_
            refine lr_iadd (pc := 58) C lr_d_M_listing_58 ?_
            refine lr_iload_n (pc := 59) C lr_d_M_listing_59 rfl 3 rfl ?_
            refine lr_iadd (pc := 60) C lr_d_M_listing_60 ?_
            obtain ⟨hb13, h⟩ := lr_gd h
            refine lr_li29 (pc := 61) C lr_d_M_listing_61 hb13 ?_
            refine lr_aload_n (pc := 62) C lr_d_M_listing_62 rfl 0 rfl ?_
            refine lr_g7_119 (pc := 63) C lr_d_M_listing_63 ?_
            refine lr_isub (pc := 66) C lr_d_M_listing_66 ?_
            refine lr_istore (pc := 67) (ls' := [(4, .inl ((lr_rd u7.2 29 0 ((((32 : Int32) * a1) + ((4 : Int32) * a2)) + a3).toNatClampNeg) - (lr_rd u7.2 20 0 0))), (0, .inr (20, 0)), (1, .inl a1), (2, .inl a2), (3, .inl a3)]) C lr_d_M_listing_67 (by decide) rfl ?_
            refine lr_iload (pc := 69) C lr_d_M_listing_69 0 rfl ?_
            refine lr_if_le (pc := 71) (tgt := 79) C lr_d_M_listing_71 (by decide) (fun hc14 => ?_) (fun hc14 => ?_)
            · have h := lr_ps hc14 h
              refine lr_iconst (pc := 79) (v := 0) C lr_d_M_listing_79 (by decide) ?_
              have e := Option.some.inj h
              subst e
              exact lr_iret C E lr_d_M_listing_80 rfl
            · have h := lr_ng hc14 h
              refine lr_iload (pc := 74) C lr_d_M_listing_74 0 rfl ?_
              refine lr_goto (pc := 76) (tgt := 80) C lr_d_M_listing_76 (by decide) ?_
              have e := Option.some.inj h
              subst e
              exact lr_iret C E lr_d_M_listing_80 rfl
          · have h := lr_ng hc12 h
            refine lr_iconst (pc := 45) (v := -1) C lr_d_M_listing_45 (by decide) ?_
            have e := Option.some.inj h
            subst e
            exact lr_iret C E lr_d_M_listing_46 rfl
def lr_G_M_pins (a1 : Int32) (t : lr_S) : Option (Int32 × lr_S) := (lr_G_M_within a1 (4 : Int32) t).bind fun u1 => (if u1.1 = 0 then (some ((-1 : Int32), u1.2)) else ((lr_G_M_pinsOf a1 u1.2).bind fun u4 => (some (u4.1, u4.2))))
set_option maxHeartbeats 4000000 in
theorem lr_r_M_pins {a1 : Int32} {t : lr_S} {o : Int32 × lr_S} (h : lr_G_M_pins a1 t = some o) : lr_RI 20 60 lr_m_M_pins [.inr (20, 0), .inl a1] t o.1 o.2 := by
  refine lr_ofI (ty := .int) (own := lr_R7) (by decide) rfl rfl (Nat.le_of_ble_eq_true rfl) (fun X C E => ?_)
  show lr_T X 0 [(0, .inr (20, 0)), (1, .inl a1)] [] t
  have h := (show ((lr_G_M_within a1 (4 : Int32) t).bind fun u1 => (if u1.1 = 0 then (some ((-1 : Int32), u1.2)) else ((lr_G_M_pinsOf a1 u1.2).bind fun u4 => (some (u4.1, u4.2))))) = some o from h)
  refine lr_iload_n (pc := 0) C lr_d_M_pins_0 rfl 1 rfl ?_
  refine lr_iconst (pc := 1) (v := 4) C lr_d_M_pins_1 (by decide) ?_
  obtain ⟨u1, hu2, h⟩ := lr_bd h
  refine lr_callSi (pc := 2) (as := [.inl a1, .inl (4 : Int32)]) (st := []) C (lr_r_M_within hu2) lr_c7_107 lr_d_M_pins_2 rfl rfl ⟨by decide, by decide⟩ (Nat.le_of_ble_eq_true rfl) ?_
  refine lr_if_eq (pc := 5) (tgt := 16) C lr_d_M_pins_5 (by decide) (fun hc3 => ?_) (fun hc3 => ?_)
  · have h := lr_ps hc3 h
    refine lr_iconst (pc := 16) (v := -1) C lr_d_M_pins_16 (by decide) ?_
    have e := Option.some.inj h
    subst e
    exact lr_iret C E lr_d_M_pins_17 rfl
  · have h := lr_ng hc3 h
    refine lr_aload_n (pc := 8) C lr_d_M_pins_8 rfl 0 rfl ?_
    refine lr_iload_n (pc := 9) C lr_d_M_pins_9 rfl 1 rfl ?_
    obtain ⟨u4, hu5, h⟩ := lr_bd h
    refine lr_callVi (pc := 10) (as := [.inl a1]) (st := []) (fs := fun ad => lr_fs7 u1.2 0 ad) C (lr_r_M_pinsOf hu5) lr_c7_146 lr_d_M_pins_10 rfl rfl (fun _ _ => rfl) (ci := 7) rfl rfl ⟨by decide, by decide⟩ (Nat.le_of_ble_eq_true rfl) ?_
    refine lr_goto (pc := 13) (tgt := 17) C lr_d_M_pins_13 (by decide) ?_
    have e := Option.some.inj h
    subst e
    exact lr_iret C E lr_d_M_pins_17 rfl
def lr_G_M_outcome (a1 : Int32) (a2 : Int32) (t : lr_S) : Option (Int32 × lr_S) := (lr_G_M_within a1 (4 : Int32) t).bind fun u1 => (if u1.1 = 0 then (some ((-1 : Int32), u1.2)) else ((lr_G_M_within a2 (3 : Int32) u1.2).bind fun u4 => (if u4.1 = 0 then (some ((-1 : Int32), u4.2)) else (if a2 = 0 then (if lr_in a1 4 = true then (some ((lr_rd u4.2 45 0 a1.toNatClampNeg), u4.2)) else none) else (if a2 = (1 : Int32) then (if lr_in a1 4 = true then (some ((lr_rd u4.2 46 0 a1.toNatClampNeg), u4.2)) else none) else (if lr_in a1 4 = true then (some ((lr_rd u4.2 50 0 a1.toNatClampNeg), u4.2)) else none))))))
set_option maxHeartbeats 4000000 in
theorem lr_r_M_outcome {a1 : Int32} {a2 : Int32} {t : lr_S} {o : Int32 × lr_S} (h : lr_G_M_outcome a1 a2 t = some o) : lr_RI 20 60 lr_m_M_outcome [.inr (20, 0), .inl a1, .inl a2] t o.1 o.2 := by
  refine lr_ofI (ty := .int) (own := lr_R7) (by decide) rfl rfl (Nat.le_of_ble_eq_true rfl) (fun X C E => ?_)
  show lr_T X 0 [(0, .inr (20, 0)), (1, .inl a1), (2, .inl a2)] [] t
  have h := (show ((lr_G_M_within a1 (4 : Int32) t).bind fun u1 => (if u1.1 = 0 then (some ((-1 : Int32), u1.2)) else ((lr_G_M_within a2 (3 : Int32) u1.2).bind fun u4 => (if u4.1 = 0 then (some ((-1 : Int32), u4.2)) else (if a2 = 0 then (if lr_in a1 4 = true then (some ((lr_rd u4.2 45 0 a1.toNatClampNeg), u4.2)) else none) else (if a2 = (1 : Int32) then (if lr_in a1 4 = true then (some ((lr_rd u4.2 46 0 a1.toNatClampNeg), u4.2)) else none) else (if lr_in a1 4 = true then (some ((lr_rd u4.2 50 0 a1.toNatClampNeg), u4.2)) else none))))))) = some o from h)
  refine lr_iload_n (pc := 0) C lr_d_M_outcome_0 rfl 1 rfl ?_
  refine lr_iconst (pc := 1) (v := 4) C lr_d_M_outcome_1 (by decide) ?_
  obtain ⟨u1, hu2, h⟩ := lr_bd h
  refine lr_callSi (pc := 2) (as := [.inl a1, .inl (4 : Int32)]) (st := []) C (lr_r_M_within hu2) lr_c7_107 lr_d_M_outcome_2 rfl rfl ⟨by decide, by decide⟩ (Nat.le_of_ble_eq_true rfl) ?_
  refine lr_if_eq (pc := 5) (tgt := 16) C lr_d_M_outcome_5 (by decide) (fun hc3 => ?_) (fun hc3 => ?_)
  · have h := lr_ps hc3 h
    refine lr_iconst (pc := 16) (v := -1) C lr_d_M_outcome_16 (by decide) ?_
    have e := Option.some.inj h
    subst e
    exact lr_iret C E lr_d_M_outcome_17 rfl
  · have h := lr_ng hc3 h
    refine lr_iload_n (pc := 8) C lr_d_M_outcome_8 rfl 2 rfl ?_
    refine lr_iconst (pc := 9) (v := 3) C lr_d_M_outcome_9 (by decide) ?_
    obtain ⟨u4, hu5, h⟩ := lr_bd h
    refine lr_callSi (pc := 10) (as := [.inl a2, .inl (3 : Int32)]) (st := []) C (lr_r_M_within hu5) lr_c7_107 lr_d_M_outcome_10 rfl rfl ⟨by decide, by decide⟩ (Nat.le_of_ble_eq_true rfl) ?_
    refine lr_if_ne (pc := 13) (tgt := 18) C lr_d_M_outcome_13 (by decide) (fun hc6 => ?_) (fun hc6 => ?_)
    · have h := lr_ng hc6 h
      refine lr_iload_n (pc := 18) C lr_d_M_outcome_18 rfl 2 rfl ?_
      refine lr_if_ne (pc := 19) (tgt := 31) C lr_d_M_outcome_19 (by decide) (fun hc7 => ?_) (fun hc7 => ?_)
      · have h := lr_ng hc7 h
        refine lr_iload_n (pc := 31) C lr_d_M_outcome_31 rfl 2 rfl ?_
        refine lr_iconst (pc := 32) (v := 1) C lr_d_M_outcome_32 (by decide) ?_
        refine lr_icmp_ne (pc := 33) (tgt := 45) C lr_d_M_outcome_33 (by decide) (fun hc8 => ?_) (fun hc8 => ?_)
        · have h := lr_ng hc8 h
          refine lr_aload_n (pc := 45) C lr_d_M_outcome_45 rfl 0 rfl ?_
          refine lr_g7_89 (pc := 46) C lr_d_M_outcome_46 ?_
          refine lr_iload_n (pc := 49) C lr_d_M_outcome_49 rfl 1 rfl ?_
          obtain ⟨hb9, h⟩ := lr_gd h
          refine lr_li50 (pc := 50) C lr_d_M_outcome_50 hb9 ?_
          have e := Option.some.inj h
          subst e
          exact lr_iret C E lr_d_M_outcome_51 rfl
        · have h := lr_ps hc8 h
          refine lr_aload_n (pc := 36) C lr_d_M_outcome_36 rfl 0 rfl ?_
          refine lr_g7_77 (pc := 37) C lr_d_M_outcome_37 ?_
          refine lr_iload_n (pc := 40) C lr_d_M_outcome_40 rfl 1 rfl ?_
          obtain ⟨hb10, h⟩ := lr_gd h
          refine lr_li46 (pc := 41) C lr_d_M_outcome_41 hb10 ?_
          refine lr_goto (pc := 42) (tgt := 51) C lr_d_M_outcome_42 (by decide) ?_
          have e := Option.some.inj h
          subst e
          exact lr_iret C E lr_d_M_outcome_51 rfl
      · have h := lr_ps hc7 h
        refine lr_aload_n (pc := 22) C lr_d_M_outcome_22 rfl 0 rfl ?_
        refine lr_g7_74 (pc := 23) C lr_d_M_outcome_23 ?_
        refine lr_iload_n (pc := 26) C lr_d_M_outcome_26 rfl 1 rfl ?_
        obtain ⟨hb11, h⟩ := lr_gd h
        refine lr_li45 (pc := 27) C lr_d_M_outcome_27 hb11 ?_
        refine lr_goto (pc := 28) (tgt := 51) C lr_d_M_outcome_28 (by decide) ?_
        have e := Option.some.inj h
        subst e
        exact lr_iret C E lr_d_M_outcome_51 rfl
    · have h := lr_ps hc6 h
      refine lr_iconst (pc := 16) (v := -1) C lr_d_M_outcome_16 (by decide) ?_
      have e := Option.some.inj h
      subst e
      exact lr_iret C E lr_d_M_outcome_17 rfl
