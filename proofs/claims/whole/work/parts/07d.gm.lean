def lr_G_M_pass (a1 : Int32) (a2 : Int32) (a3 : Int32) (a4 : Int32) (t : lr_S) : Option (Int32 × lr_S) := (lr_G_M_at a1 a2 t).bind fun u1 => (if u1.1 < 0 then (some ((-1 : Int32), u1.2)) else ((lr_G_M_within a3 (4 : Int32) u1.2).bind fun u4 => (if u4.1 = 0 then (some ((-1 : Int32), u4.2)) else (if a3 = a1 then (some ((-1 : Int32), u4.2)) else ((lr_G_M_within a4 (3 : Int32) u4.2).bind fun u8 => (if u8.1 = 0 then (some ((-1 : Int32), u8.2)) else ((lr_G_M_pinsOf a1 u8.2).bind fun u11 => (if u11.1 < (6 : Int32) then (if lr_in u1.1 32 = true then (if (lr_rd u11.2 24 0 u1.1.toNatClampNeg) = (2 : Int32) then (if (lr_rd u11.2 34 0 u1.1.toNatClampNeg) = 0 then (some ((-2 : Int32), u11.2)) else ((lr_G_M_stale u1.1 u11.2).bind fun u30 => (if u30.1 = 0 then (if (lr_rd u30.2 24 0 u1.1.toNatClampNeg) = (1 : Int32) then (if lr_in (lr_rd u30.2 20 0 24) 512 = true then (if lr_in (lr_rd (lr_wr u30.2 41 0 (lr_rd u30.2 20 0 24).toNatClampNeg u1.1) 20 0 24) 512 = true then ((some (lr_wr (lr_wr u30.2 41 0 (lr_rd u30.2 20 0 24).toNatClampNeg u1.1) 42 0 (lr_rd (lr_wr u30.2 41 0 (lr_rd u30.2 20 0 24).toNatClampNeg u1.1) 20 0 24).toNatClampNeg (lr_rd (lr_wr u30.2 41 0 (lr_rd u30.2 20 0 24).toNatClampNeg u1.1) 20 0 0))).bind fun t42 => ((lr_G_M_send (0 : Int32) a1 a3 (lr_rd t42 25 0 u1.1.toNatClampNeg) (lr_rd t42 20 0 24) (((4 : Int32) * a4) + a1) t42).bind fun u44 => (some (((lr_rd (lr_wr u44 20 0 24 ((lr_rd u44 20 0 24) + (1 : Int32))) 20 0 24) - (1 : Int32)), (lr_wr u44 20 0 24 ((lr_rd u44 20 0 24) + (1 : Int32))))))) else none) else none) else (if lr_in (lr_rd u30.2 20 0 24) 512 = true then (if lr_in (lr_rd (lr_wr u30.2 41 0 (lr_rd u30.2 20 0 24).toNatClampNeg u1.1) 20 0 24) 512 = true then ((some (lr_wr (lr_wr u30.2 41 0 (lr_rd u30.2 20 0 24).toNatClampNeg u1.1) 42 0 (lr_rd (lr_wr u30.2 41 0 (lr_rd u30.2 20 0 24).toNatClampNeg u1.1) 20 0 24).toNatClampNeg (lr_rd (lr_wr u30.2 41 0 (lr_rd u30.2 20 0 24).toNatClampNeg u1.1) 20 0 0))).bind fun t36 => ((lr_G_M_send (0 : Int32) a1 a3 (lr_rd t36 25 0 u1.1.toNatClampNeg) (lr_rd t36 20 0 24) (((4 : Int32) * a4) + (lr_rd u30.2 30 0 u1.1.toNatClampNeg)) t36).bind fun u38 => (some (((lr_rd (lr_wr u38 20 0 24 ((lr_rd u38 20 0 24) + (1 : Int32))) 20 0 24) - (1 : Int32)), (lr_wr u38 20 0 24 ((lr_rd u38 20 0 24) + (1 : Int32))))))) else none) else none)) else (some ((-2 : Int32), u30.2))))) else (if (lr_rd u11.2 24 0 u1.1.toNatClampNeg) = (1 : Int32) then (if lr_in (lr_rd u11.2 20 0 24) 512 = true then (if lr_in (lr_rd (lr_wr u11.2 41 0 (lr_rd u11.2 20 0 24).toNatClampNeg u1.1) 20 0 24) 512 = true then ((some (lr_wr (lr_wr u11.2 41 0 (lr_rd u11.2 20 0 24).toNatClampNeg u1.1) 42 0 (lr_rd (lr_wr u11.2 41 0 (lr_rd u11.2 20 0 24).toNatClampNeg u1.1) 20 0 24).toNatClampNeg (lr_rd (lr_wr u11.2 41 0 (lr_rd u11.2 20 0 24).toNatClampNeg u1.1) 20 0 0))).bind fun t25 => ((lr_G_M_send (0 : Int32) a1 a3 (lr_rd t25 25 0 u1.1.toNatClampNeg) (lr_rd t25 20 0 24) (((4 : Int32) * a4) + a1) t25).bind fun u27 => (some (((lr_rd (lr_wr u27 20 0 24 ((lr_rd u27 20 0 24) + (1 : Int32))) 20 0 24) - (1 : Int32)), (lr_wr u27 20 0 24 ((lr_rd u27 20 0 24) + (1 : Int32))))))) else none) else none) else (if lr_in (lr_rd u11.2 20 0 24) 512 = true then (if lr_in (lr_rd (lr_wr u11.2 41 0 (lr_rd u11.2 20 0 24).toNatClampNeg u1.1) 20 0 24) 512 = true then ((some (lr_wr (lr_wr u11.2 41 0 (lr_rd u11.2 20 0 24).toNatClampNeg u1.1) 42 0 (lr_rd (lr_wr u11.2 41 0 (lr_rd u11.2 20 0 24).toNatClampNeg u1.1) 20 0 24).toNatClampNeg (lr_rd (lr_wr u11.2 41 0 (lr_rd u11.2 20 0 24).toNatClampNeg u1.1) 20 0 0))).bind fun t19 => ((lr_G_M_send (0 : Int32) a1 a3 (lr_rd t19 25 0 u1.1.toNatClampNeg) (lr_rd t19 20 0 24) (((4 : Int32) * a4) + (lr_rd u11.2 30 0 u1.1.toNatClampNeg)) t19).bind fun u21 => (some (((lr_rd (lr_wr u21 20 0 24 ((lr_rd u21 20 0 24) + (1 : Int32))) 20 0 24) - (1 : Int32)), (lr_wr u21 20 0 24 ((lr_rd u21 20 0 24) + (1 : Int32))))))) else none) else none))) else none) else (some ((-1 : Int32), u11.2))))))))))
set_option maxHeartbeats 4000000 in
theorem lr_r_M_pass {a1 : Int32} {a2 : Int32} {a3 : Int32} {a4 : Int32} {t : lr_S} {o : Int32 × lr_S} (h : lr_G_M_pass a1 a2 a3 a4 t = some o) : lr_RI 20 60 lr_m_M_pass [.inr (20, 0), .inl a1, .inl a2, .inl a3, .inl a4] t o.1 o.2 := by
  refine lr_ofI (ty := .int) (own := lr_R7) (by decide) rfl rfl (Nat.le_of_ble_eq_true rfl) (fun X C E => ?_)
  show lr_T X 0 [(0, .inr (20, 0)), (1, .inl a1), (2, .inl a2), (3, .inl a3), (4, .inl a4)] [] t
  have h := (show ((lr_G_M_at a1 a2 t).bind fun u1 => (if u1.1 < 0 then (some ((-1 : Int32), u1.2)) else ((lr_G_M_within a3 (4 : Int32) u1.2).bind fun u4 => (if u4.1 = 0 then (some ((-1 : Int32), u4.2)) else (if a3 = a1 then (some ((-1 : Int32), u4.2)) else ((lr_G_M_within a4 (3 : Int32) u4.2).bind fun u8 => (if u8.1 = 0 then (some ((-1 : Int32), u8.2)) else ((lr_G_M_pinsOf a1 u8.2).bind fun u11 => (if u11.1 < (6 : Int32) then (if lr_in u1.1 32 = true then (if (lr_rd u11.2 24 0 u1.1.toNatClampNeg) = (2 : Int32) then (if (lr_rd u11.2 34 0 u1.1.toNatClampNeg) = 0 then (some ((-2 : Int32), u11.2)) else ((lr_G_M_stale u1.1 u11.2).bind fun u30 => (if u30.1 = 0 then (if (lr_rd u30.2 24 0 u1.1.toNatClampNeg) = (1 : Int32) then (if lr_in (lr_rd u30.2 20 0 24) 512 = true then (if lr_in (lr_rd (lr_wr u30.2 41 0 (lr_rd u30.2 20 0 24).toNatClampNeg u1.1) 20 0 24) 512 = true then ((some (lr_wr (lr_wr u30.2 41 0 (lr_rd u30.2 20 0 24).toNatClampNeg u1.1) 42 0 (lr_rd (lr_wr u30.2 41 0 (lr_rd u30.2 20 0 24).toNatClampNeg u1.1) 20 0 24).toNatClampNeg (lr_rd (lr_wr u30.2 41 0 (lr_rd u30.2 20 0 24).toNatClampNeg u1.1) 20 0 0))).bind fun t42 => ((lr_G_M_send (0 : Int32) a1 a3 (lr_rd t42 25 0 u1.1.toNatClampNeg) (lr_rd t42 20 0 24) (((4 : Int32) * a4) + a1) t42).bind fun u44 => (some (((lr_rd (lr_wr u44 20 0 24 ((lr_rd u44 20 0 24) + (1 : Int32))) 20 0 24) - (1 : Int32)), (lr_wr u44 20 0 24 ((lr_rd u44 20 0 24) + (1 : Int32))))))) else none) else none) else (if lr_in (lr_rd u30.2 20 0 24) 512 = true then (if lr_in (lr_rd (lr_wr u30.2 41 0 (lr_rd u30.2 20 0 24).toNatClampNeg u1.1) 20 0 24) 512 = true then ((some (lr_wr (lr_wr u30.2 41 0 (lr_rd u30.2 20 0 24).toNatClampNeg u1.1) 42 0 (lr_rd (lr_wr u30.2 41 0 (lr_rd u30.2 20 0 24).toNatClampNeg u1.1) 20 0 24).toNatClampNeg (lr_rd (lr_wr u30.2 41 0 (lr_rd u30.2 20 0 24).toNatClampNeg u1.1) 20 0 0))).bind fun t36 => ((lr_G_M_send (0 : Int32) a1 a3 (lr_rd t36 25 0 u1.1.toNatClampNeg) (lr_rd t36 20 0 24) (((4 : Int32) * a4) + (lr_rd u30.2 30 0 u1.1.toNatClampNeg)) t36).bind fun u38 => (some (((lr_rd (lr_wr u38 20 0 24 ((lr_rd u38 20 0 24) + (1 : Int32))) 20 0 24) - (1 : Int32)), (lr_wr u38 20 0 24 ((lr_rd u38 20 0 24) + (1 : Int32))))))) else none) else none)) else (some ((-2 : Int32), u30.2))))) else (if (lr_rd u11.2 24 0 u1.1.toNatClampNeg) = (1 : Int32) then (if lr_in (lr_rd u11.2 20 0 24) 512 = true then (if lr_in (lr_rd (lr_wr u11.2 41 0 (lr_rd u11.2 20 0 24).toNatClampNeg u1.1) 20 0 24) 512 = true then ((some (lr_wr (lr_wr u11.2 41 0 (lr_rd u11.2 20 0 24).toNatClampNeg u1.1) 42 0 (lr_rd (lr_wr u11.2 41 0 (lr_rd u11.2 20 0 24).toNatClampNeg u1.1) 20 0 24).toNatClampNeg (lr_rd (lr_wr u11.2 41 0 (lr_rd u11.2 20 0 24).toNatClampNeg u1.1) 20 0 0))).bind fun t25 => ((lr_G_M_send (0 : Int32) a1 a3 (lr_rd t25 25 0 u1.1.toNatClampNeg) (lr_rd t25 20 0 24) (((4 : Int32) * a4) + a1) t25).bind fun u27 => (some (((lr_rd (lr_wr u27 20 0 24 ((lr_rd u27 20 0 24) + (1 : Int32))) 20 0 24) - (1 : Int32)), (lr_wr u27 20 0 24 ((lr_rd u27 20 0 24) + (1 : Int32))))))) else none) else none) else (if lr_in (lr_rd u11.2 20 0 24) 512 = true then (if lr_in (lr_rd (lr_wr u11.2 41 0 (lr_rd u11.2 20 0 24).toNatClampNeg u1.1) 20 0 24) 512 = true then ((some (lr_wr (lr_wr u11.2 41 0 (lr_rd u11.2 20 0 24).toNatClampNeg u1.1) 42 0 (lr_rd (lr_wr u11.2 41 0 (lr_rd u11.2 20 0 24).toNatClampNeg u1.1) 20 0 24).toNatClampNeg (lr_rd (lr_wr u11.2 41 0 (lr_rd u11.2 20 0 24).toNatClampNeg u1.1) 20 0 0))).bind fun t19 => ((lr_G_M_send (0 : Int32) a1 a3 (lr_rd t19 25 0 u1.1.toNatClampNeg) (lr_rd t19 20 0 24) (((4 : Int32) * a4) + (lr_rd u11.2 30 0 u1.1.toNatClampNeg)) t19).bind fun u21 => (some (((lr_rd (lr_wr u21 20 0 24 ((lr_rd u21 20 0 24) + (1 : Int32))) 20 0 24) - (1 : Int32)), (lr_wr u21 20 0 24 ((lr_rd u21 20 0 24) + (1 : Int32))))))) else none) else none))) else none) else (some ((-1 : Int32), u11.2))))))))))) = some o from h)
  refine lr_aload_n (pc := 0) C lr_d_M_pass_0 rfl 0 rfl ?_
  refine lr_iload_n (pc := 1) C lr_d_M_pass_1 rfl 1 rfl ?_
  refine lr_iload_n (pc := 2) C lr_d_M_pass_2 rfl 2 rfl ?_
  obtain ⟨u1, hu2, h⟩ := lr_bd h
  refine lr_callVi (pc := 3) (as := [.inl a1, .inl a2]) (st := []) (fs := fun ad => lr_fs7 t 0 ad) C (lr_r_M_at hu2) lr_c7_136 lr_d_M_pass_3 rfl rfl (fun _ _ => rfl) (ci := 7) rfl rfl ⟨by decide, by decide⟩ (Nat.le_of_ble_eq_true rfl) ?_
  refine lr_istore (pc := 6) (ls' := [(5, .inl u1.1), (0, .inr (20, 0)), (1, .inl a1), (2, .inl a2), (3, .inl a3), (4, .inl a4)]) C lr_d_M_pass_6 (by decide) rfl ?_
  refine lr_iload (pc := 8) C lr_d_M_pass_8 0 rfl ?_
  refine lr_if_lt (pc := 10) (tgt := 45) C lr_d_M_pass_10 (by decide) (fun hc3 => ?_) (fun hc3 => ?_)
  · have h := lr_ps hc3 h
    refine lr_iconst (pc := 45) (v := -1) C lr_d_M_pass_45 (by decide) ?_
    have e := Option.some.inj h
    subst e
    exact lr_iret C E lr_d_M_pass_46 rfl
  · have h := lr_ng hc3 h
    refine lr_iload_n (pc := 13) C lr_d_M_pass_13 rfl 4 rfl ?_
    refine lr_iconst (pc := 14) (v := 4) C lr_d_M_pass_14 (by decide) ?_
    obtain ⟨u4, hu5, h⟩ := lr_bd h
    refine lr_callSi (pc := 15) (as := [.inl a3, .inl (4 : Int32)]) (st := []) C (lr_r_M_within hu5) lr_c7_107 lr_d_M_pass_15 rfl rfl ⟨by decide, by decide⟩ (Nat.le_of_ble_eq_true rfl) ?_
    refine lr_if_eq (pc := 18) (tgt := 45) C lr_d_M_pass_18 (by decide) (fun hc6 => ?_) (fun hc6 => ?_)
    · have h := lr_ps hc6 h
      refine lr_iconst (pc := 45) (v := -1) C lr_d_M_pass_45 (by decide) ?_
      have e := Option.some.inj h
      subst e
      exact lr_iret C E lr_d_M_pass_46 rfl
    · have h := lr_ng hc6 h
      refine lr_iload_n (pc := 21) C lr_d_M_pass_21 rfl 4 rfl ?_
      refine lr_iload_n (pc := 22) C lr_d_M_pass_22 rfl 2 rfl ?_
      refine lr_icmp_eq (pc := 23) (tgt := 45) C lr_d_M_pass_23 (by decide) (fun hc7 => ?_) (fun hc7 => ?_)
      · have h := lr_ps hc7 h
        refine lr_iconst (pc := 45) (v := -1) C lr_d_M_pass_45 (by decide) ?_
        have e := Option.some.inj h
        subst e
        exact lr_iret C E lr_d_M_pass_46 rfl
      · have h := lr_ng hc7 h
        refine lr_iload (pc := 26) C lr_d_M_pass_26 5 rfl ?_
        refine lr_iconst (pc := 28) (v := 3) C lr_d_M_pass_28 (by decide) ?_
        obtain ⟨u8, hu9, h⟩ := lr_bd h
        refine lr_callSi (pc := 29) (as := [.inl a4, .inl (3 : Int32)]) (st := []) C (lr_r_M_within hu9) lr_c7_107 lr_d_M_pass_29 rfl rfl ⟨by decide, by decide⟩ (Nat.le_of_ble_eq_true rfl) ?_
        refine lr_if_eq (pc := 32) (tgt := 45) C lr_d_M_pass_32 (by decide) (fun hc10 => ?_) (fun hc10 => ?_)
        · have h := lr_ps hc10 h
          refine lr_iconst (pc := 45) (v := -1) C lr_d_M_pass_45 (by decide) ?_
          have e := Option.some.inj h
          subst e
          exact lr_iret C E lr_d_M_pass_46 rfl
        · have h := lr_ng hc10 h
          refine lr_aload_n (pc := 35) C lr_d_M_pass_35 rfl 1 rfl ?_
          refine lr_iload_n (pc := 36) C lr_d_M_pass_36 rfl 2 rfl ?_
          obtain ⟨u11, hu12, h⟩ := lr_bd h
          refine lr_callVi (pc := 37) (as := [.inl a1]) (st := []) (fs := fun ad => lr_fs7 u8.2 0 ad) C (lr_r_M_pinsOf hu12) lr_c7_146 lr_d_M_pass_37 rfl rfl (fun _ _ => rfl) (ci := 7) rfl rfl ⟨by decide, by decide⟩ (Nat.le_of_ble_eq_true rfl) ?_
          refine lr_bipush (pc := 40) (v := 6) C lr_d_M_pass_40 (by decide) ?_
          refine lr_icmp_lt (pc := 42) (tgt := 47) C lr_d_M_pass_42 (by decide) (fun hc13 => ?_) (fun hc13 => ?_)
          · have h := lr_ps hc13 h
            refine lr_aload_n (pc := 47) C lr_d_M_pass_47 rfl 1 rfl ?_
            refine lr_g7_20 (pc := 48) C lr_d_M_pass_48 ?_
            refine lr_iload (pc := 51) C lr_d_M_pass_51 0 rfl ?_
            obtain ⟨hb14, h⟩ := lr_gd h
            refine lr_li24 (pc := 53) C lr_d_M_pass_53 hb14 ?_
            refine lr_iconst (pc := 54) (v := 2) C lr_d_M_pass_54 (by decide) ?_
            refine lr_icmp_ne (pc := 55) (tgt := 80) C lr_d_M_pass_55 (by decide) (fun hc15 => ?_) (fun hc15 => ?_)
            · have h := lr_ng hc15 h
              refine lr_aload_n (pc := 80) C lr_d_M_pass_80 rfl 1 rfl ?_
              refine lr_g7_20 (pc := 81) C lr_d_M_pass_81 ?_
              refine lr_iload (pc := 84) C lr_d_M_pass_84 0 rfl ?_
              refine lr_li24 (pc := 86) C lr_d_M_pass_86 hb14 ?_
              refine lr_iconst (pc := 87) (v := 1) C lr_d_M_pass_87 (by decide) ?_
              refine lr_icmp_ne (pc := 88) (tgt := 95) C lr_d_M_pass_88 (by decide) (fun hc16 => ?_) (fun hc16 => ?_)
              · have h := lr_ng hc16 h
                refine lr_aload_n (pc := 95) C lr_d_M_pass_95 rfl 1 rfl ?_
                refine lr_g7_38 (pc := 96) C lr_d_M_pass_96 ?_
                refine lr_iload (pc := 99) C lr_d_M_pass_99 0 rfl ?_
                refine lr_li30 (pc := 101) C lr_d_M_pass_101 hb14 ?_
                refine lr_istore (pc := 102) (ls' := [(6, .inl (lr_rd u11.2 30 0 u1.1.toNatClampNeg)), (5, .inl u1.1), (0, .inr (20, 0)), (1, .inl a1), (2, .inl a2), (3, .inl a3), (4, .inl a4)]) C lr_d_M_pass_102 (by decide) rfl ?_
                refine lr_aload_n (pc := 104) C lr_d_M_pass_104 rfl 2 rfl ?_
                refine lr_g7_65 (pc := 105) C lr_d_M_pass_105 ?_
                refine lr_aload_n (pc := 108) C lr_d_M_pass_108 rfl 2 rfl ?_
                refine lr_g7_140 (pc := 109) C lr_d_M_pass_109 ?_
                refine lr_iload (pc := 112) C lr_d_M_pass_112 1 rfl ?_
                obtain ⟨hb17, h⟩ := lr_gd h
                refine lr_si41 (pc := 114) C lr_d_M_pass_114 hb17 ?_
                refine lr_aload_n (pc := 115) C lr_d_M_pass_115 rfl 2 rfl ?_
                refine lr_g7_68 (pc := 116) C lr_d_M_pass_116 ?_
                refine lr_aload_n (pc := 119) C lr_d_M_pass_119 rfl 2 rfl ?_
                refine lr_g7_140 (pc := 120) C lr_d_M_pass_120 ?_
                refine lr_aload_n (pc := 123) C lr_d_M_pass_123 rfl 2 rfl ?_
                refine lr_g7_119 (pc := 124) C lr_d_M_pass_124 ?_
                obtain ⟨hb18, h⟩ := lr_gd h
                refine lr_si42 (pc := 127) C lr_d_M_pass_127 hb18 ?_
                obtain ⟨t19, ht20, h⟩ := lr_bd h
                rw [Option.some.inj ht20]
                refine lr_aload_n (pc := 128) C lr_d_M_pass_128 rfl 2 rfl ?_
                refine lr_iconst (pc := 129) (v := 0) C lr_d_M_pass_129 (by decide) ?_
                refine lr_iload_n (pc := 130) C lr_d_M_pass_130 rfl 3 rfl ?_
                refine lr_iload_n (pc := 131) C lr_d_M_pass_131 rfl 5 rfl ?_
                refine lr_aload_n (pc := 132) C lr_d_M_pass_132 rfl 2 rfl ?_
                refine lr_g7_23 (pc := 133) C lr_d_M_pass_133 ?_
                refine lr_iload (pc := 136) C lr_d_M_pass_136 1 rfl ?_
                refine lr_li25 (pc := 138) C lr_d_M_pass_138 hb14 ?_
                refine lr_aload_n (pc := 139) C lr_d_M_pass_139 rfl 2 rfl ?_
                refine lr_g7_140 (pc := 140) C lr_d_M_pass_140 ?_
                refine lr_iconst (pc := 143) (v := 4) C lr_d_M_pass_143 (by decide) ?_
                refine lr_iload (pc := 144) C lr_d_M_pass_144 6 rfl ?_
                refine lr_imul (pc := 146) C lr_d_M_pass_146 ?_
                refine lr_iload (pc := 147) C lr_d_M_pass_147 0 rfl ?_
                refine lr_iadd (pc := 149) C lr_d_M_pass_149 ?_
                obtain ⟨u21, hu22, h⟩ := lr_bd h
                refine lr_callVv (pc := 150) (as := [.inl (0 : Int32), .inl a1, .inl a3, .inl (lr_rd t19 25 0 u1.1.toNatClampNeg), .inl (lr_rd t19 20 0 24), .inl (((4 : Int32) * a4) + (lr_rd u11.2 30 0 u1.1.toNatClampNeg))]) (st := []) (fs := fun ad => lr_fs7 t19 0 ad) C (lr_r_M_send hu22) lr_c7_126 lr_d_M_pass_150 rfl rfl (fun _ _ => rfl) (ci := 7) rfl rfl ⟨by decide, by decide⟩ (Nat.le_of_ble_eq_true rfl) ?_
                refine lr_aload_n (pc := 153) C lr_d_M_pass_153 rfl 2 rfl ?_
                refine lr_dup (pc := 154) C lr_d_M_pass_154 ?_
                refine lr_g7_140 (pc := 155) C lr_d_M_pass_155 ?_
                refine lr_iconst (pc := 158) (v := 1) C lr_d_M_pass_158 (by decide) ?_
                refine lr_iadd (pc := 159) C lr_d_M_pass_159 ?_
                refine lr_p7_140 (pc := 160) C lr_d_M_pass_160 ?_
                refine lr_aload_n (pc := 163) C lr_d_M_pass_163 rfl 2 rfl ?_
                refine lr_g7_140 (pc := 164) C lr_d_M_pass_164 ?_
                refine lr_iconst (pc := 167) (v := 1) C lr_d_M_pass_167 (by decide) ?_
                refine lr_isub (pc := 168) C lr_d_M_pass_168 ?_
                have e := Option.some.inj h
                subst e
                exact lr_iret C E lr_d_M_pass_169 rfl
              · have h := lr_ps hc16 h
                refine lr_iload_n (pc := 91) C lr_d_M_pass_91 rfl 2 rfl ?_
                refine lr_goto (pc := 92) (tgt := 102) C lr_d_M_pass_92 (by decide) ?_
                refine lr_istore (pc := 102) (ls' := [(6, .inl a1), (5, .inl u1.1), (0, .inr (20, 0)), (1, .inl a1), (2, .inl a2), (3, .inl a3), (4, .inl a4)]) C lr_d_M_pass_102 (by decide) rfl ?_
                refine lr_aload_n (pc := 104) C lr_d_M_pass_104 rfl 2 rfl ?_
                refine lr_g7_65 (pc := 105) C lr_d_M_pass_105 ?_
                refine lr_aload_n (pc := 108) C lr_d_M_pass_108 rfl 2 rfl ?_
                refine lr_g7_140 (pc := 109) C lr_d_M_pass_109 ?_
                refine lr_iload (pc := 112) C lr_d_M_pass_112 1 rfl ?_
                obtain ⟨hb23, h⟩ := lr_gd h
                refine lr_si41 (pc := 114) C lr_d_M_pass_114 hb23 ?_
                refine lr_aload_n (pc := 115) C lr_d_M_pass_115 rfl 2 rfl ?_
                refine lr_g7_68 (pc := 116) C lr_d_M_pass_116 ?_
                refine lr_aload_n (pc := 119) C lr_d_M_pass_119 rfl 2 rfl ?_
                refine lr_g7_140 (pc := 120) C lr_d_M_pass_120 ?_
                refine lr_aload_n (pc := 123) C lr_d_M_pass_123 rfl 2 rfl ?_
                refine lr_g7_119 (pc := 124) C lr_d_M_pass_124 ?_
                obtain ⟨hb24, h⟩ := lr_gd h
                refine lr_si42 (pc := 127) C lr_d_M_pass_127 hb24 ?_
                obtain ⟨t25, ht26, h⟩ := lr_bd h
                rw [Option.some.inj ht26]
                refine lr_aload_n (pc := 128) C lr_d_M_pass_128 rfl 2 rfl ?_
                refine lr_iconst (pc := 129) (v := 0) C lr_d_M_pass_129 (by decide) ?_
                refine lr_iload_n (pc := 130) C lr_d_M_pass_130 rfl 3 rfl ?_
                refine lr_iload_n (pc := 131) C lr_d_M_pass_131 rfl 5 rfl ?_
                refine lr_aload_n (pc := 132) C lr_d_M_pass_132 rfl 2 rfl ?_
                refine lr_g7_23 (pc := 133) C lr_d_M_pass_133 ?_
                refine lr_iload (pc := 136) C lr_d_M_pass_136 1 rfl ?_
                refine lr_li25 (pc := 138) C lr_d_M_pass_138 hb14 ?_
                refine lr_aload_n (pc := 139) C lr_d_M_pass_139 rfl 2 rfl ?_
                refine lr_g7_140 (pc := 140) C lr_d_M_pass_140 ?_
                refine lr_iconst (pc := 143) (v := 4) C lr_d_M_pass_143 (by decide) ?_
                refine lr_iload (pc := 144) C lr_d_M_pass_144 6 rfl ?_
                refine lr_imul (pc := 146) C lr_d_M_pass_146 ?_
                refine lr_iload (pc := 147) C lr_d_M_pass_147 0 rfl ?_
                refine lr_iadd (pc := 149) C lr_d_M_pass_149 ?_
                obtain ⟨u27, hu28, h⟩ := lr_bd h
                refine lr_callVv (pc := 150) (as := [.inl (0 : Int32), .inl a1, .inl a3, .inl (lr_rd t25 25 0 u1.1.toNatClampNeg), .inl (lr_rd t25 20 0 24), .inl (((4 : Int32) * a4) + a1)]) (st := []) (fs := fun ad => lr_fs7 t25 0 ad) C (lr_r_M_send hu28) lr_c7_126 lr_d_M_pass_150 rfl rfl (fun _ _ => rfl) (ci := 7) rfl rfl ⟨by decide, by decide⟩ (Nat.le_of_ble_eq_true rfl) ?_
                refine lr_aload_n (pc := 153) C lr_d_M_pass_153 rfl 2 rfl ?_
                refine lr_dup (pc := 154) C lr_d_M_pass_154 ?_
                refine lr_g7_140 (pc := 155) C lr_d_M_pass_155 ?_
                refine lr_iconst (pc := 158) (v := 1) C lr_d_M_pass_158 (by decide) ?_
                refine lr_iadd (pc := 159) C lr_d_M_pass_159 ?_
                refine lr_p7_140 (pc := 160) C lr_d_M_pass_160 ?_
                refine lr_aload_n (pc := 163) C lr_d_M_pass_163 rfl 2 rfl ?_
                refine lr_g7_140 (pc := 164) C lr_d_M_pass_164 ?_
                refine lr_iconst (pc := 167) (v := 1) C lr_d_M_pass_167 (by decide) ?_
                refine lr_isub (pc := 168) C lr_d_M_pass_168 ?_
                have e := Option.some.inj h
                subst e
                exact lr_iret C E lr_d_M_pass_169 rfl
            · have h := lr_ps hc15 h
              refine lr_aload_n (pc := 58) C lr_d_M_pass_58 rfl 1 rfl ?_
              refine lr_g7_50 (pc := 59) C lr_d_M_pass_59 ?_
              refine lr_iload (pc := 62) C lr_d_M_pass_62 0 rfl ?_
              refine lr_lz34 (pc := 64) C lr_d_M_pass_64 hb14 ?_
              refine lr_if_eq (pc := 65) (tgt := 77) C lr_d_M_pass_65 (by decide) (fun hc29 => ?_) (fun hc29 => ?_)
              · have h := lr_ps hc29 h
                refine lr_bipush (pc := 77) (v := -2) C lr_d_M_pass_77 (by decide) ?_
                have e := Option.some.inj h
                subst e
                exact lr_iret C E lr_d_M_pass_79 rfl
              · have h := lr_ng hc29 h
                refine lr_aload_n (pc := 68) C lr_d_M_pass_68 rfl 1 rfl ?_
                refine lr_iload (pc := 69) C lr_d_M_pass_69 0 rfl ?_
                obtain ⟨u30, hu31, h⟩ := lr_bd h
                refine lr_callVi (pc := 71) (as := [.inl u1.1]) (st := []) (fs := fun ad => lr_fs7 u11.2 0 ad) C (lr_r_M_stale hu31) lr_c7_149 lr_d_M_pass_71 rfl rfl (fun _ _ => rfl) (ci := 7) rfl rfl ⟨by decide, by decide⟩ (Nat.le_of_ble_eq_true rfl) ?_
                refine lr_if_eq (pc := 74) (tgt := 80) C lr_d_M_pass_74 (by decide) (fun hc32 => ?_) (fun hc32 => ?_)
                · have h := lr_ps hc32 h
                  refine lr_aload_n (pc := 80) C lr_d_M_pass_80 rfl 1 rfl ?_
                  refine lr_g7_20 (pc := 81) C lr_d_M_pass_81 ?_
                  refine lr_iload (pc := 84) C lr_d_M_pass_84 0 rfl ?_
                  refine lr_li24 (pc := 86) C lr_d_M_pass_86 hb14 ?_
                  refine lr_iconst (pc := 87) (v := 1) C lr_d_M_pass_87 (by decide) ?_
                  refine lr_icmp_ne (pc := 88) (tgt := 95) C lr_d_M_pass_88 (by decide) (fun hc33 => ?_) (fun hc33 => ?_)
                  · have h := lr_ng hc33 h
                    refine lr_aload_n (pc := 95) C lr_d_M_pass_95 rfl 1 rfl ?_
                    refine lr_g7_38 (pc := 96) C lr_d_M_pass_96 ?_
                    refine lr_iload (pc := 99) C lr_d_M_pass_99 0 rfl ?_
                    refine lr_li30 (pc := 101) C lr_d_M_pass_101 hb14 ?_
                    refine lr_istore (pc := 102) (ls' := [(6, .inl (lr_rd u30.2 30 0 u1.1.toNatClampNeg)), (5, .inl u1.1), (0, .inr (20, 0)), (1, .inl a1), (2, .inl a2), (3, .inl a3), (4, .inl a4)]) C lr_d_M_pass_102 (by decide) rfl ?_
                    refine lr_aload_n (pc := 104) C lr_d_M_pass_104 rfl 2 rfl ?_
                    refine lr_g7_65 (pc := 105) C lr_d_M_pass_105 ?_
                    refine lr_aload_n (pc := 108) C lr_d_M_pass_108 rfl 2 rfl ?_
                    refine lr_g7_140 (pc := 109) C lr_d_M_pass_109 ?_
                    refine lr_iload (pc := 112) C lr_d_M_pass_112 1 rfl ?_
                    obtain ⟨hb34, h⟩ := lr_gd h
                    refine lr_si41 (pc := 114) C lr_d_M_pass_114 hb34 ?_
                    refine lr_aload_n (pc := 115) C lr_d_M_pass_115 rfl 2 rfl ?_
                    refine lr_g7_68 (pc := 116) C lr_d_M_pass_116 ?_
                    refine lr_aload_n (pc := 119) C lr_d_M_pass_119 rfl 2 rfl ?_
                    refine lr_g7_140 (pc := 120) C lr_d_M_pass_120 ?_
                    refine lr_aload_n (pc := 123) C lr_d_M_pass_123 rfl 2 rfl ?_
                    refine lr_g7_119 (pc := 124) C lr_d_M_pass_124 ?_
                    obtain ⟨hb35, h⟩ := lr_gd h
                    refine lr_si42 (pc := 127) C lr_d_M_pass_127 hb35 ?_
                    obtain ⟨t36, ht37, h⟩ := lr_bd h
                    rw [Option.some.inj ht37]
                    refine lr_aload_n (pc := 128) C lr_d_M_pass_128 rfl 2 rfl ?_
                    refine lr_iconst (pc := 129) (v := 0) C lr_d_M_pass_129 (by decide) ?_
                    refine lr_iload_n (pc := 130) C lr_d_M_pass_130 rfl 3 rfl ?_
                    refine lr_iload_n (pc := 131) C lr_d_M_pass_131 rfl 5 rfl ?_
                    refine lr_aload_n (pc := 132) C lr_d_M_pass_132 rfl 2 rfl ?_
                    refine lr_g7_23 (pc := 133) C lr_d_M_pass_133 ?_
                    refine lr_iload (pc := 136) C lr_d_M_pass_136 1 rfl ?_
                    refine lr_li25 (pc := 138) C lr_d_M_pass_138 hb14 ?_
                    refine lr_aload_n (pc := 139) C lr_d_M_pass_139 rfl 2 rfl ?_
                    refine lr_g7_140 (pc := 140) C lr_d_M_pass_140 ?_
                    refine lr_iconst (pc := 143) (v := 4) C lr_d_M_pass_143 (by decide) ?_
                    refine lr_iload (pc := 144) C lr_d_M_pass_144 6 rfl ?_
                    refine lr_imul (pc := 146) C lr_d_M_pass_146 ?_
                    refine lr_iload (pc := 147) C lr_d_M_pass_147 0 rfl ?_
                    refine lr_iadd (pc := 149) C lr_d_M_pass_149 ?_
                    obtain ⟨u38, hu39, h⟩ := lr_bd h
                    refine lr_callVv (pc := 150) (as := [.inl (0 : Int32), .inl a1, .inl a3, .inl (lr_rd t36 25 0 u1.1.toNatClampNeg), .inl (lr_rd t36 20 0 24), .inl (((4 : Int32) * a4) + (lr_rd u30.2 30 0 u1.1.toNatClampNeg))]) (st := []) (fs := fun ad => lr_fs7 t36 0 ad) C (lr_r_M_send hu39) lr_c7_126 lr_d_M_pass_150 rfl rfl (fun _ _ => rfl) (ci := 7) rfl rfl ⟨by decide, by decide⟩ (Nat.le_of_ble_eq_true rfl) ?_
                    refine lr_aload_n (pc := 153) C lr_d_M_pass_153 rfl 2 rfl ?_
                    refine lr_dup (pc := 154) C lr_d_M_pass_154 ?_
                    refine lr_g7_140 (pc := 155) C lr_d_M_pass_155 ?_
                    refine lr_iconst (pc := 158) (v := 1) C lr_d_M_pass_158 (by decide) ?_
                    refine lr_iadd (pc := 159) C lr_d_M_pass_159 ?_
                    refine lr_p7_140 (pc := 160) C lr_d_M_pass_160 ?_
                    refine lr_aload_n (pc := 163) C lr_d_M_pass_163 rfl 2 rfl ?_
                    refine lr_g7_140 (pc := 164) C lr_d_M_pass_164 ?_
                    refine lr_iconst (pc := 167) (v := 1) C lr_d_M_pass_167 (by decide) ?_
                    refine lr_isub (pc := 168) C lr_d_M_pass_168 ?_
                    have e := Option.some.inj h
                    subst e
                    exact lr_iret C E lr_d_M_pass_169 rfl
                  · have h := lr_ps hc33 h
                    refine lr_iload_n (pc := 91) C lr_d_M_pass_91 rfl 2 rfl ?_
                    refine lr_goto (pc := 92) (tgt := 102) C lr_d_M_pass_92 (by decide) ?_
                    refine lr_istore (pc := 102) (ls' := [(6, .inl a1), (5, .inl u1.1), (0, .inr (20, 0)), (1, .inl a1), (2, .inl a2), (3, .inl a3), (4, .inl a4)]) C lr_d_M_pass_102 (by decide) rfl ?_
                    refine lr_aload_n (pc := 104) C lr_d_M_pass_104 rfl 2 rfl ?_
                    refine lr_g7_65 (pc := 105) C lr_d_M_pass_105 ?_
                    refine lr_aload_n (pc := 108) C lr_d_M_pass_108 rfl 2 rfl ?_
                    refine lr_g7_140 (pc := 109) C lr_d_M_pass_109 ?_
                    refine lr_iload (pc := 112) C lr_d_M_pass_112 1 rfl ?_
                    obtain ⟨hb40, h⟩ := lr_gd h
                    refine lr_si41 (pc := 114) C lr_d_M_pass_114 hb40 ?_
                    refine lr_aload_n (pc := 115) C lr_d_M_pass_115 rfl 2 rfl ?_
                    refine lr_g7_68 (pc := 116) C lr_d_M_pass_116 ?_
                    refine lr_aload_n (pc := 119) C lr_d_M_pass_119 rfl 2 rfl ?_
                    refine lr_g7_140 (pc := 120) C lr_d_M_pass_120 ?_
                    refine lr_aload_n (pc := 123) C lr_d_M_pass_123 rfl 2 rfl ?_
                    refine lr_g7_119 (pc := 124) C lr_d_M_pass_124 ?_
                    obtain ⟨hb41, h⟩ := lr_gd h
                    refine lr_si42 (pc := 127) C lr_d_M_pass_127 hb41 ?_
                    obtain ⟨t42, ht43, h⟩ := lr_bd h
                    rw [Option.some.inj ht43]
                    refine lr_aload_n (pc := 128) C lr_d_M_pass_128 rfl 2 rfl ?_
                    refine lr_iconst (pc := 129) (v := 0) C lr_d_M_pass_129 (by decide) ?_
                    refine lr_iload_n (pc := 130) C lr_d_M_pass_130 rfl 3 rfl ?_
                    refine lr_iload_n (pc := 131) C lr_d_M_pass_131 rfl 5 rfl ?_
                    refine lr_aload_n (pc := 132) C lr_d_M_pass_132 rfl 2 rfl ?_
                    refine lr_g7_23 (pc := 133) C lr_d_M_pass_133 ?_
                    refine lr_iload (pc := 136) C lr_d_M_pass_136 1 rfl ?_
                    refine lr_li25 (pc := 138) C lr_d_M_pass_138 hb14 ?_
                    refine lr_aload_n (pc := 139) C lr_d_M_pass_139 rfl 2 rfl ?_
                    refine lr_g7_140 (pc := 140) C lr_d_M_pass_140 ?_
                    refine lr_iconst (pc := 143) (v := 4) C lr_d_M_pass_143 (by decide) ?_
                    refine lr_iload (pc := 144) C lr_d_M_pass_144 6 rfl ?_
                    refine lr_imul (pc := 146) C lr_d_M_pass_146 ?_
                    refine lr_iload (pc := 147) C lr_d_M_pass_147 0 rfl ?_
                    refine lr_iadd (pc := 149) C lr_d_M_pass_149 ?_
                    obtain ⟨u44, hu45, h⟩ := lr_bd h
                    refine lr_callVv (pc := 150) (as := [.inl (0 : Int32), .inl a1, .inl a3, .inl (lr_rd t42 25 0 u1.1.toNatClampNeg), .inl (lr_rd t42 20 0 24), .inl (((4 : Int32) * a4) + a1)]) (st := []) (fs := fun ad => lr_fs7 t42 0 ad) C (lr_r_M_send hu45) lr_c7_126 lr_d_M_pass_150 rfl rfl (fun _ _ => rfl) (ci := 7) rfl rfl ⟨by decide, by decide⟩ (Nat.le_of_ble_eq_true rfl) ?_
                    refine lr_aload_n (pc := 153) C lr_d_M_pass_153 rfl 2 rfl ?_
                    refine lr_dup (pc := 154) C lr_d_M_pass_154 ?_
                    refine lr_g7_140 (pc := 155) C lr_d_M_pass_155 ?_
                    refine lr_iconst (pc := 158) (v := 1) C lr_d_M_pass_158 (by decide) ?_
                    refine lr_iadd (pc := 159) C lr_d_M_pass_159 ?_
                    refine lr_p7_140 (pc := 160) C lr_d_M_pass_160 ?_
                    refine lr_aload_n (pc := 163) C lr_d_M_pass_163 rfl 2 rfl ?_
                    refine lr_g7_140 (pc := 164) C lr_d_M_pass_164 ?_
                    refine lr_iconst (pc := 167) (v := 1) C lr_d_M_pass_167 (by decide) ?_
                    refine lr_isub (pc := 168) C lr_d_M_pass_168 ?_
                    have e := Option.some.inj h
                    subst e
                    exact lr_iret C E lr_d_M_pass_169 rfl
                · have h := lr_ng hc32 h
                  refine lr_bipush (pc := 77) (v := -2) C lr_d_M_pass_77 (by decide) ?_
                  have e := Option.some.inj h
                  subst e
                  exact lr_iret C E lr_d_M_pass_79 rfl
          · have h := lr_ng hc13 h
            refine lr_iconst (pc := 45) (v := -1) C lr_d_M_pass_45 (by decide) ?_
            have e := Option.some.inj h
            subst e
            exact lr_iret C E lr_d_M_pass_46 rfl
def lr_G_M_sendCall (a1 : Int32) (t : lr_S) : Option (lr_S) := if lr_in a1 4 = true then (if lr_in (lr_rd t 47 0 a1.toNatClampNeg) 32 = true then ((lr_G_M_send (6 : Int32) a1 (lr_rd (lr_wr t 49 0 a1.toNatClampNeg (lr_rd t 20 0 0)) 30 0 (lr_rd t 47 0 a1.toNatClampNeg).toNatClampNeg) (lr_rd (lr_wr t 49 0 a1.toNatClampNeg (lr_rd t 20 0 0)) 25 0 (lr_rd t 47 0 a1.toNatClampNeg).toNatClampNeg) (lr_rd (lr_wr t 49 0 a1.toNatClampNeg (lr_rd t 20 0 0)) 46 0 a1.toNatClampNeg) (lr_rd (lr_wr t 49 0 a1.toNatClampNeg (lr_rd t 20 0 0)) 48 0 a1.toNatClampNeg) (lr_wr t 49 0 a1.toNatClampNeg (lr_rd t 20 0 0))).bind fun u3 => (some u3)) else none) else none
set_option maxHeartbeats 4000000 in
theorem lr_r_M_sendCall {a1 : Int32} {t o : lr_S} (h : lr_G_M_sendCall a1 t = some o) : lr_RV 20 60 lr_m_M_sendCall [.inr (20, 0), .inl a1] t o := by
  refine lr_ofV (own := lr_R7) (by decide) rfl rfl (Nat.le_of_ble_eq_true rfl) (fun X C E => ?_)
  show lr_T X 0 [(0, .inr (20, 0)), (1, .inl a1)] [] t
  have h := (show (if lr_in a1 4 = true then (if lr_in (lr_rd t 47 0 a1.toNatClampNeg) 32 = true then ((lr_G_M_send (6 : Int32) a1 (lr_rd (lr_wr t 49 0 a1.toNatClampNeg (lr_rd t 20 0 0)) 30 0 (lr_rd t 47 0 a1.toNatClampNeg).toNatClampNeg) (lr_rd (lr_wr t 49 0 a1.toNatClampNeg (lr_rd t 20 0 0)) 25 0 (lr_rd t 47 0 a1.toNatClampNeg).toNatClampNeg) (lr_rd (lr_wr t 49 0 a1.toNatClampNeg (lr_rd t 20 0 0)) 46 0 a1.toNatClampNeg) (lr_rd (lr_wr t 49 0 a1.toNatClampNeg (lr_rd t 20 0 0)) 48 0 a1.toNatClampNeg) (lr_wr t 49 0 a1.toNatClampNeg (lr_rd t 20 0 0))).bind fun u3 => (some u3)) else none) else none) = some o from h)
  refine lr_aload_n (pc := 0) C lr_d_M_sendCall_0 rfl 0 rfl ?_
  refine lr_g7_80 (pc := 1) C lr_d_M_sendCall_1 ?_
  refine lr_iload_n (pc := 4) C lr_d_M_sendCall_4 rfl 1 rfl ?_
  obtain ⟨hb1, h⟩ := lr_gd h
  refine lr_li47 (pc := 5) C lr_d_M_sendCall_5 hb1 ?_
  refine lr_istore_n (pc := 6) (ls' := [(2, .inl (lr_rd t 47 0 a1.toNatClampNeg)), (0, .inr (20, 0)), (1, .inl a1)]) C lr_d_M_sendCall_6 rfl (by decide) rfl ?_
  refine lr_aload_n (pc := 7) C lr_d_M_sendCall_7 rfl 1 rfl ?_
  refine lr_g7_86 (pc := 8) C lr_d_M_sendCall_8 ?_
  refine lr_iload_n (pc := 11) C lr_d_M_sendCall_11 rfl 2 rfl ?_
  refine lr_aload_n (pc := 12) C lr_d_M_sendCall_12 rfl 1 rfl ?_
  refine lr_g7_119 (pc := 13) C lr_d_M_sendCall_13 ?_
  refine lr_si49 (pc := 16) C lr_d_M_sendCall_16 hb1 ?_
  refine lr_aload_n (pc := 17) C lr_d_M_sendCall_17 rfl 1 rfl ?_
  refine lr_bipush (pc := 18) (v := 6) C lr_d_M_sendCall_18 (by decide) ?_
  refine lr_iload_n (pc := 20) C lr_d_M_sendCall_20 rfl 2 rfl ?_
  refine lr_aload_n (pc := 21) C lr_d_M_sendCall_21 rfl 1 rfl ?_
  refine lr_g7_38 (pc := 22) C lr_d_M_sendCall_22 ?_
  refine lr_iload_n (pc := 25) C lr_d_M_sendCall_25 rfl 0 rfl ?_
  obtain ⟨hb2, h⟩ := lr_gd h
  refine lr_li30 (pc := 26) C lr_d_M_sendCall_26 hb2 ?_
  refine lr_aload_n (pc := 27) C lr_d_M_sendCall_27 rfl 1 rfl ?_
  refine lr_g7_23 (pc := 28) C lr_d_M_sendCall_28 ?_
  refine lr_iload_n (pc := 31) C lr_d_M_sendCall_31 rfl 0 rfl ?_
  refine lr_li25 (pc := 32) C lr_d_M_sendCall_32 hb2 ?_
  refine lr_aload_n (pc := 33) C lr_d_M_sendCall_33 rfl 1 rfl ?_
  refine lr_g7_77 (pc := 34) C lr_d_M_sendCall_34 ?_
  refine lr_iload_n (pc := 37) C lr_d_M_sendCall_37 rfl 2 rfl ?_
  refine lr_li46 (pc := 38) C lr_d_M_sendCall_38 hb1 ?_
  refine lr_aload_n (pc := 39) C lr_d_M_sendCall_39 rfl 1 rfl ?_
  refine lr_g7_83 (pc := 40) C lr_d_M_sendCall_40 ?_
  refine lr_iload_n (pc := 43) C lr_d_M_sendCall_43 rfl 2 rfl ?_
  refine lr_li48 (pc := 44) C lr_d_M_sendCall_44 hb1 ?_
  obtain ⟨u3, hu4, h⟩ := lr_bd h
  refine lr_callVv (pc := 45) (as := [.inl (6 : Int32), .inl a1, .inl (lr_rd (lr_wr t 49 0 a1.toNatClampNeg (lr_rd t 20 0 0)) 30 0 (lr_rd t 47 0 a1.toNatClampNeg).toNatClampNeg), .inl (lr_rd (lr_wr t 49 0 a1.toNatClampNeg (lr_rd t 20 0 0)) 25 0 (lr_rd t 47 0 a1.toNatClampNeg).toNatClampNeg), .inl (lr_rd (lr_wr t 49 0 a1.toNatClampNeg (lr_rd t 20 0 0)) 46 0 a1.toNatClampNeg), .inl (lr_rd (lr_wr t 49 0 a1.toNatClampNeg (lr_rd t 20 0 0)) 48 0 a1.toNatClampNeg)]) (st := []) (fs := fun ad => lr_fs7 (lr_wr t 49 0 a1.toNatClampNeg (lr_rd t 20 0 0)) 0 ad) C (lr_r_M_send hu4) lr_c7_126 lr_d_M_sendCall_45 rfl rfl (fun _ _ => rfl) (ci := 7) rfl rfl ⟨by decide, by decide⟩ (Nat.le_of_ble_eq_true rfl) ?_
  have e := Option.some.inj h
  subst e
  exact lr_vret C E lr_d_M_sendCall_48
