def lr_G_M_passComes (a1 : Int32) (a2 : Int32) (t : lr_S) : Option (Int32 × lr_S) := if ((lr_rd t 40 0 (5 : Int32).toNatClampNeg) - (lr_rd t 40 0 (5 : Int32).toNatClampNeg) / (4 : Int32) * (4 : Int32)) = a1 then ((lr_G_M_find a1 (1 : Int32) (lr_rd t 40 0 (3 : Int32).toNatClampNeg) t).bind fun u66 => (if 0 ≤ u66.1 then (if lr_in (((3 : Int32) * a1) + ((lr_rd t 40 0 (5 : Int32).toNatClampNeg) / (4 : Int32))) 12 = true then ((some (lr_wr u66.2 22 0 (((3 : Int32) * a1) + ((lr_rd t 40 0 (5 : Int32).toNatClampNeg) / (4 : Int32))).toNatClampNeg (u66.1 - u66.1 / (8 : Int32) * (8 : Int32)))).bind fun t70 => ((lr_G_M_send (1 : Int32) a1 a2 (lr_rd t70 40 0 (3 : Int32).toNatClampNeg) (lr_rd t70 40 0 (4 : Int32).toNatClampNeg) (0 : Int32) t70).bind fun u72 => (some ((1 : Int32), u72)))) else none) else (some ((0 : Int32), u66.2)))) else ((lr_G_M_find a1 (2 : Int32) (lr_rd t 40 0 (3 : Int32).toNatClampNeg) t).bind fun u2 => (if u2.1 < 0 then ((lr_G_M_emptySlot a1 u2.2).bind fun u5 => (if 0 ≤ u5.1 then (if lr_in u5.1 32 = true then ((some (lr_wr (lr_wr u5.2 24 0 u5.1.toNatClampNeg (2 : Int32)) 25 0 u5.1.toNatClampNeg (lr_rd (lr_wr u5.2 24 0 u5.1.toNatClampNeg (2 : Int32)) 40 0 (3 : Int32).toNatClampNeg))).bind fun t9 => ((some (lr_wr t9 30 0 u5.1.toNatClampNeg ((lr_rd t 40 0 (5 : Int32).toNatClampNeg) - (lr_rd t 40 0 (5 : Int32).toNatClampNeg) / (4 : Int32) * (4 : Int32)))).bind fun t11 => ((some (lr_wr (lr_wr t11 34 0 u5.1.toNatClampNeg (vp_nar .boolean (0 : Int32))) 33 0 u5.1.toNatClampNeg ((lr_rd (lr_wr t11 34 0 u5.1.toNatClampNeg (vp_nar .boolean (0 : Int32))) 20 0 0) + (24 : Int32)))).bind fun t13 => ((lr_G_M_sendDirty u5.1 t13).bind fun u15 => ((some (lr_wr (lr_wr u15.2 31 0 u5.1.toNatClampNeg u15.1) 35 0 u5.1.toNatClampNeg (lr_rd (lr_wr u15.2 31 0 u5.1.toNatClampNeg u15.1) 40 0 (4 : Int32).toNatClampNeg))).bind fun t17 => (if lr_in (((3 : Int32) * a1) + ((lr_rd t 40 0 (5 : Int32).toNatClampNeg) / (4 : Int32))) 12 = true then ((some (lr_wr (lr_wr t17 36 0 u5.1.toNatClampNeg a2) 22 0 (((3 : Int32) * a1) + ((lr_rd t 40 0 (5 : Int32).toNatClampNeg) / (4 : Int32))).toNatClampNeg (u5.1 - u5.1 / (8 : Int32) * (8 : Int32)))).bind fun t20 => (some ((1 : Int32), t20))) else none)))))) else none) else (some ((0 : Int32), u5.2)))) else (if lr_in u2.1 32 = true then (if (lr_rd u2.2 34 0 u2.1.toNatClampNeg) = 0 then ((lr_G_M_stale u2.1 u2.2).bind fun u24 => (if u24.1 = 0 then ((some (lr_wr (lr_wr u24.2 35 0 u2.1.toNatClampNeg (lr_rd u24.2 40 0 (4 : Int32).toNatClampNeg)) 36 0 u2.1.toNatClampNeg a2)).bind fun t27 => (if lr_in (((3 : Int32) * a1) + ((lr_rd t 40 0 (5 : Int32).toNatClampNeg) / (4 : Int32))) 12 = true then ((some (lr_wr t27 22 0 (((3 : Int32) * a1) + ((lr_rd t 40 0 (5 : Int32).toNatClampNeg) / (4 : Int32))).toNatClampNeg (u2.1 - u2.1 / (8 : Int32) * (8 : Int32)))).bind fun t30 => (some ((1 : Int32), t30))) else none)) else ((some (lr_wr (lr_wr u24.2 34 0 u2.1.toNatClampNeg (vp_nar .boolean (0 : Int32))) 33 0 u2.1.toNatClampNeg ((lr_rd (lr_wr u24.2 34 0 u2.1.toNatClampNeg (vp_nar .boolean (0 : Int32))) 20 0 0) + (24 : Int32)))).bind fun t32 => ((lr_G_M_sendDirty u2.1 t32).bind fun u34 => ((some (lr_wr (lr_wr u34.2 31 0 u2.1.toNatClampNeg u34.1) 35 0 u2.1.toNatClampNeg (lr_rd (lr_wr u34.2 31 0 u2.1.toNatClampNeg u34.1) 40 0 (4 : Int32).toNatClampNeg))).bind fun t36 => (if lr_in (((3 : Int32) * a1) + ((lr_rd t 40 0 (5 : Int32).toNatClampNeg) / (4 : Int32))) 12 = true then ((some (lr_wr (lr_wr t36 36 0 u2.1.toNatClampNeg a2) 22 0 (((3 : Int32) * a1) + ((lr_rd t 40 0 (5 : Int32).toNatClampNeg) / (4 : Int32))).toNatClampNeg (u2.1 - u2.1 / (8 : Int32) * (8 : Int32)))).bind fun t39 => (some ((1 : Int32), t39))) else none)))))) else ((lr_G_M_stale u2.1 u2.2).bind fun u41 => (if u41.1 = 0 then (if lr_in (((3 : Int32) * a1) + ((lr_rd t 40 0 (5 : Int32).toNatClampNeg) / (4 : Int32))) 12 = true then ((some (lr_wr u41.2 22 0 (((3 : Int32) * a1) + ((lr_rd t 40 0 (5 : Int32).toNatClampNeg) / (4 : Int32))).toNatClampNeg (u2.1 - u2.1 / (8 : Int32) * (8 : Int32)))).bind fun t62 => ((lr_G_M_send (1 : Int32) a1 a2 (lr_rd t62 40 0 (3 : Int32).toNatClampNeg) (lr_rd t62 40 0 (4 : Int32).toNatClampNeg) (0 : Int32) t62).bind fun u64 => (some ((1 : Int32), u64)))) else none) else ((lr_G_M_stale u2.1 u41.2).bind fun u44 => (if u44.1 = 0 then ((some (lr_wr (lr_wr u44.2 35 0 u2.1.toNatClampNeg (lr_rd u44.2 40 0 (4 : Int32).toNatClampNeg)) 36 0 u2.1.toNatClampNeg a2)).bind fun t47 => (if lr_in (((3 : Int32) * a1) + ((lr_rd t 40 0 (5 : Int32).toNatClampNeg) / (4 : Int32))) 12 = true then ((some (lr_wr t47 22 0 (((3 : Int32) * a1) + ((lr_rd t 40 0 (5 : Int32).toNatClampNeg) / (4 : Int32))).toNatClampNeg (u2.1 - u2.1 / (8 : Int32) * (8 : Int32)))).bind fun t50 => (some ((1 : Int32), t50))) else none)) else ((some (lr_wr (lr_wr u44.2 34 0 u2.1.toNatClampNeg (vp_nar .boolean (0 : Int32))) 33 0 u2.1.toNatClampNeg ((lr_rd (lr_wr u44.2 34 0 u2.1.toNatClampNeg (vp_nar .boolean (0 : Int32))) 20 0 0) + (24 : Int32)))).bind fun t52 => ((lr_G_M_sendDirty u2.1 t52).bind fun u54 => ((some (lr_wr (lr_wr u54.2 31 0 u2.1.toNatClampNeg u54.1) 35 0 u2.1.toNatClampNeg (lr_rd (lr_wr u54.2 31 0 u2.1.toNatClampNeg u54.1) 40 0 (4 : Int32).toNatClampNeg))).bind fun t56 => (if lr_in (((3 : Int32) * a1) + ((lr_rd t 40 0 (5 : Int32).toNatClampNeg) / (4 : Int32))) 12 = true then ((some (lr_wr (lr_wr t56 36 0 u2.1.toNatClampNeg a2) 22 0 (((3 : Int32) * a1) + ((lr_rd t 40 0 (5 : Int32).toNatClampNeg) / (4 : Int32))).toNatClampNeg (u2.1 - u2.1 / (8 : Int32) * (8 : Int32)))).bind fun t59 => (some ((1 : Int32), t59))) else none))))))))) else none)))
set_option maxHeartbeats 4000000 in
theorem lr_r_M_passComes {a1 : Int32} {a2 : Int32} {t : lr_S} {o : Int32 × lr_S} (h : lr_G_M_passComes a1 a2 t = some o) : lr_RI 20 60 lr_m_M_passComes [.inr (20, 0), .inl a1, .inl a2] t o.1 o.2 := by
  refine lr_ofI (ty := .boolean) (own := lr_R7) (by decide) rfl rfl (Nat.le_of_ble_eq_true rfl) (fun X C E => ?_)
  show lr_T X 0 [(0, .inr (20, 0)), (1, .inl a1), (2, .inl a2)] [] t
  have h := (show (if ((lr_rd t 40 0 (5 : Int32).toNatClampNeg) - (lr_rd t 40 0 (5 : Int32).toNatClampNeg) / (4 : Int32) * (4 : Int32)) = a1 then ((lr_G_M_find a1 (1 : Int32) (lr_rd t 40 0 (3 : Int32).toNatClampNeg) t).bind fun u66 => (if 0 ≤ u66.1 then (if lr_in (((3 : Int32) * a1) + ((lr_rd t 40 0 (5 : Int32).toNatClampNeg) / (4 : Int32))) 12 = true then ((some (lr_wr u66.2 22 0 (((3 : Int32) * a1) + ((lr_rd t 40 0 (5 : Int32).toNatClampNeg) / (4 : Int32))).toNatClampNeg (u66.1 - u66.1 / (8 : Int32) * (8 : Int32)))).bind fun t70 => ((lr_G_M_send (1 : Int32) a1 a2 (lr_rd t70 40 0 (3 : Int32).toNatClampNeg) (lr_rd t70 40 0 (4 : Int32).toNatClampNeg) (0 : Int32) t70).bind fun u72 => (some ((1 : Int32), u72)))) else none) else (some ((0 : Int32), u66.2)))) else ((lr_G_M_find a1 (2 : Int32) (lr_rd t 40 0 (3 : Int32).toNatClampNeg) t).bind fun u2 => (if u2.1 < 0 then ((lr_G_M_emptySlot a1 u2.2).bind fun u5 => (if 0 ≤ u5.1 then (if lr_in u5.1 32 = true then ((some (lr_wr (lr_wr u5.2 24 0 u5.1.toNatClampNeg (2 : Int32)) 25 0 u5.1.toNatClampNeg (lr_rd (lr_wr u5.2 24 0 u5.1.toNatClampNeg (2 : Int32)) 40 0 (3 : Int32).toNatClampNeg))).bind fun t9 => ((some (lr_wr t9 30 0 u5.1.toNatClampNeg ((lr_rd t 40 0 (5 : Int32).toNatClampNeg) - (lr_rd t 40 0 (5 : Int32).toNatClampNeg) / (4 : Int32) * (4 : Int32)))).bind fun t11 => ((some (lr_wr (lr_wr t11 34 0 u5.1.toNatClampNeg (vp_nar .boolean (0 : Int32))) 33 0 u5.1.toNatClampNeg ((lr_rd (lr_wr t11 34 0 u5.1.toNatClampNeg (vp_nar .boolean (0 : Int32))) 20 0 0) + (24 : Int32)))).bind fun t13 => ((lr_G_M_sendDirty u5.1 t13).bind fun u15 => ((some (lr_wr (lr_wr u15.2 31 0 u5.1.toNatClampNeg u15.1) 35 0 u5.1.toNatClampNeg (lr_rd (lr_wr u15.2 31 0 u5.1.toNatClampNeg u15.1) 40 0 (4 : Int32).toNatClampNeg))).bind fun t17 => (if lr_in (((3 : Int32) * a1) + ((lr_rd t 40 0 (5 : Int32).toNatClampNeg) / (4 : Int32))) 12 = true then ((some (lr_wr (lr_wr t17 36 0 u5.1.toNatClampNeg a2) 22 0 (((3 : Int32) * a1) + ((lr_rd t 40 0 (5 : Int32).toNatClampNeg) / (4 : Int32))).toNatClampNeg (u5.1 - u5.1 / (8 : Int32) * (8 : Int32)))).bind fun t20 => (some ((1 : Int32), t20))) else none)))))) else none) else (some ((0 : Int32), u5.2)))) else (if lr_in u2.1 32 = true then (if (lr_rd u2.2 34 0 u2.1.toNatClampNeg) = 0 then ((lr_G_M_stale u2.1 u2.2).bind fun u24 => (if u24.1 = 0 then ((some (lr_wr (lr_wr u24.2 35 0 u2.1.toNatClampNeg (lr_rd u24.2 40 0 (4 : Int32).toNatClampNeg)) 36 0 u2.1.toNatClampNeg a2)).bind fun t27 => (if lr_in (((3 : Int32) * a1) + ((lr_rd t 40 0 (5 : Int32).toNatClampNeg) / (4 : Int32))) 12 = true then ((some (lr_wr t27 22 0 (((3 : Int32) * a1) + ((lr_rd t 40 0 (5 : Int32).toNatClampNeg) / (4 : Int32))).toNatClampNeg (u2.1 - u2.1 / (8 : Int32) * (8 : Int32)))).bind fun t30 => (some ((1 : Int32), t30))) else none)) else ((some (lr_wr (lr_wr u24.2 34 0 u2.1.toNatClampNeg (vp_nar .boolean (0 : Int32))) 33 0 u2.1.toNatClampNeg ((lr_rd (lr_wr u24.2 34 0 u2.1.toNatClampNeg (vp_nar .boolean (0 : Int32))) 20 0 0) + (24 : Int32)))).bind fun t32 => ((lr_G_M_sendDirty u2.1 t32).bind fun u34 => ((some (lr_wr (lr_wr u34.2 31 0 u2.1.toNatClampNeg u34.1) 35 0 u2.1.toNatClampNeg (lr_rd (lr_wr u34.2 31 0 u2.1.toNatClampNeg u34.1) 40 0 (4 : Int32).toNatClampNeg))).bind fun t36 => (if lr_in (((3 : Int32) * a1) + ((lr_rd t 40 0 (5 : Int32).toNatClampNeg) / (4 : Int32))) 12 = true then ((some (lr_wr (lr_wr t36 36 0 u2.1.toNatClampNeg a2) 22 0 (((3 : Int32) * a1) + ((lr_rd t 40 0 (5 : Int32).toNatClampNeg) / (4 : Int32))).toNatClampNeg (u2.1 - u2.1 / (8 : Int32) * (8 : Int32)))).bind fun t39 => (some ((1 : Int32), t39))) else none)))))) else ((lr_G_M_stale u2.1 u2.2).bind fun u41 => (if u41.1 = 0 then (if lr_in (((3 : Int32) * a1) + ((lr_rd t 40 0 (5 : Int32).toNatClampNeg) / (4 : Int32))) 12 = true then ((some (lr_wr u41.2 22 0 (((3 : Int32) * a1) + ((lr_rd t 40 0 (5 : Int32).toNatClampNeg) / (4 : Int32))).toNatClampNeg (u2.1 - u2.1 / (8 : Int32) * (8 : Int32)))).bind fun t62 => ((lr_G_M_send (1 : Int32) a1 a2 (lr_rd t62 40 0 (3 : Int32).toNatClampNeg) (lr_rd t62 40 0 (4 : Int32).toNatClampNeg) (0 : Int32) t62).bind fun u64 => (some ((1 : Int32), u64)))) else none) else ((lr_G_M_stale u2.1 u41.2).bind fun u44 => (if u44.1 = 0 then ((some (lr_wr (lr_wr u44.2 35 0 u2.1.toNatClampNeg (lr_rd u44.2 40 0 (4 : Int32).toNatClampNeg)) 36 0 u2.1.toNatClampNeg a2)).bind fun t47 => (if lr_in (((3 : Int32) * a1) + ((lr_rd t 40 0 (5 : Int32).toNatClampNeg) / (4 : Int32))) 12 = true then ((some (lr_wr t47 22 0 (((3 : Int32) * a1) + ((lr_rd t 40 0 (5 : Int32).toNatClampNeg) / (4 : Int32))).toNatClampNeg (u2.1 - u2.1 / (8 : Int32) * (8 : Int32)))).bind fun t50 => (some ((1 : Int32), t50))) else none)) else ((some (lr_wr (lr_wr u44.2 34 0 u2.1.toNatClampNeg (vp_nar .boolean (0 : Int32))) 33 0 u2.1.toNatClampNeg ((lr_rd (lr_wr u44.2 34 0 u2.1.toNatClampNeg (vp_nar .boolean (0 : Int32))) 20 0 0) + (24 : Int32)))).bind fun t52 => ((lr_G_M_sendDirty u2.1 t52).bind fun u54 => ((some (lr_wr (lr_wr u54.2 31 0 u2.1.toNatClampNeg u54.1) 35 0 u2.1.toNatClampNeg (lr_rd (lr_wr u54.2 31 0 u2.1.toNatClampNeg u54.1) 40 0 (4 : Int32).toNatClampNeg))).bind fun t56 => (if lr_in (((3 : Int32) * a1) + ((lr_rd t 40 0 (5 : Int32).toNatClampNeg) / (4 : Int32))) 12 = true then ((some (lr_wr (lr_wr t56 36 0 u2.1.toNatClampNeg a2) 22 0 (((3 : Int32) * a1) + ((lr_rd t 40 0 (5 : Int32).toNatClampNeg) / (4 : Int32))).toNatClampNeg (u2.1 - u2.1 / (8 : Int32) * (8 : Int32)))).bind fun t59 => (some ((1 : Int32), t59))) else none))))))))) else none)))) = some o from h)
  refine lr_iconst (pc := 0) (v := 3) C lr_d_M_passComes_0 (by decide) ?_
  refine lr_iload_n (pc := 1) C lr_d_M_passComes_1 rfl 1 rfl ?_
  refine lr_imul (pc := 2) C lr_d_M_passComes_2 ?_
  refine lr_aload_n (pc := 3) C lr_d_M_passComes_3 rfl 0 rfl ?_
  refine lr_g7_62 (pc := 4) C lr_d_M_passComes_4 ?_
  refine lr_iconst (pc := 7) (v := 5) C lr_d_M_passComes_7 (by decide) ?_
  refine lr_li40 (pc := 8) C lr_d_M_passComes_8 (by decide) ?_
  refine lr_iconst (pc := 9) (v := 4) C lr_d_M_passComes_9 (by decide) ?_
  refine lr_idiv (pc := 10) C lr_d_M_passComes_10 (by decide) ?_
  refine lr_iadd (pc := 11) C lr_d_M_passComes_11 ?_
  refine lr_istore_n (pc := 12) (ls' := [(3, .inl (((3 : Int32) * a1) + ((lr_rd t 40 0 (5 : Int32).toNatClampNeg) / (4 : Int32)))), (0, .inr (20, 0)), (1, .inl a1), (2, .inl a2)]) C lr_d_M_passComes_12 rfl (by decide) rfl ?_
  refine lr_aload_n (pc := 13) C lr_d_M_passComes_13 rfl 1 rfl ?_
  refine lr_g7_62 (pc := 14) C lr_d_M_passComes_14 ?_
  refine lr_iconst (pc := 17) (v := 5) C lr_d_M_passComes_17 (by decide) ?_
  refine lr_li40 (pc := 18) C lr_d_M_passComes_18 (by decide) ?_
  refine lr_iconst (pc := 19) (v := 4) C lr_d_M_passComes_19 (by decide) ?_
  refine lr_irem (pc := 20) C lr_d_M_passComes_20 (by decide) ?_
  refine lr_istore (pc := 21) (ls' := [(4, .inl ((lr_rd t 40 0 (5 : Int32).toNatClampNeg) - (lr_rd t 40 0 (5 : Int32).toNatClampNeg) / (4 : Int32) * (4 : Int32))), (3, .inl (((3 : Int32) * a1) + ((lr_rd t 40 0 (5 : Int32).toNatClampNeg) / (4 : Int32)))), (0, .inr (20, 0)), (1, .inl a1), (2, .inl a2)]) C lr_d_M_passComes_21 (by decide) rfl ?_
  refine lr_aload_n (pc := 23) C lr_d_M_passComes_23 rfl 2 rfl ?_
  refine lr_iload_n (pc := 24) C lr_d_M_passComes_24 rfl 3 rfl ?_
  refine lr_iload (pc := 25) C lr_d_M_passComes_25 0 rfl ?_
  refine lr_iload_n (pc := 27) C lr_d_M_passComes_27 rfl 3 rfl ?_
  refine lr_icmp_ne (pc := 28) (tgt := 35) C lr_d_M_passComes_28 (by decide) (fun hc1 => ?_) (fun hc1 => ?_)
  · have h := lr_ng hc1 h
    refine lr_iconst (pc := 35) (v := 2) C lr_d_M_passComes_35 (by decide) ?_
    refine lr_aload_n (pc := 36) C lr_d_M_passComes_36 rfl 2 rfl ?_
    refine lr_g7_62 (pc := 37) C lr_d_M_passComes_37 ?_
    refine lr_iconst (pc := 40) (v := 3) C lr_d_M_passComes_40 (by decide) ?_
    refine lr_li40 (pc := 41) C lr_d_M_passComes_41 (by decide) ?_
    obtain ⟨u2, hu3, h⟩ := lr_bd h
    refine lr_callVi (pc := 42) (as := [.inl a1, .inl (2 : Int32), .inl (lr_rd t 40 0 (3 : Int32).toNatClampNeg)]) (st := []) (fs := fun ad => lr_fs7 t 0 ad) C (lr_r_M_find hu3) lr_c7_199 lr_d_M_passComes_42 rfl rfl (fun _ _ => rfl) (ci := 7) rfl rfl ⟨by decide, by decide⟩ (Nat.le_of_ble_eq_true rfl) ?_
    refine lr_istore (pc := 45) (ls' := [(5, .inl u2.1), (4, .inl ((lr_rd t 40 0 (5 : Int32).toNatClampNeg) - (lr_rd t 40 0 (5 : Int32).toNatClampNeg) / (4 : Int32) * (4 : Int32))), (3, .inl (((3 : Int32) * a1) + ((lr_rd t 40 0 (5 : Int32).toNatClampNeg) / (4 : Int32)))), (0, .inr (20, 0)), (1, .inl a1), (2, .inl a2)]) C lr_d_M_passComes_45 (by decide) rfl ?_
    refine lr_iload (pc := 47) C lr_d_M_passComes_47 1 rfl ?_
    refine lr_iload_n (pc := 49) C lr_d_M_passComes_49 rfl 4 rfl ?_
    refine lr_icmp_ne (pc := 50) (tgt := 60) C lr_d_M_passComes_50 (by decide) (fun _ => ?_) (fun hc => (by first | exact absurd hc hc1 | exact absurd hc1 hc | exact absurd hc (Int32.not_le.mpr hc1) | exact absurd hc1 (Int32.not_lt.mpr hc) | exact absurd (Int32.not_le.mp hc) hc1 | exact absurd (Int32.not_lt.mp hc) hc1 | exact absurd hc (Int32.not_lt.mpr hc1) | exact hc (Int32.not_lt.mp hc1) | exact hc (Int32.not_le.mp hc1) : False).elim)
    refine lr_iload (pc := 60) C lr_d_M_passComes_60 0 rfl ?_
    refine lr_if_lt (pc := 62) (tgt := 123) C lr_d_M_passComes_62 (by decide) (fun hc4 => ?_) (fun hc4 => ?_)
    · have h := lr_ps hc4 h
      refine lr_iload (pc := 123) C lr_d_M_passComes_123 0 rfl ?_
      refine lr_if_ge (pc := 125) (tgt := 132) C lr_d_M_passComes_125 (by decide) (fun hc => (by first | exact absurd hc hc4 | exact absurd hc4 hc | exact absurd hc (Int32.not_le.mpr hc4) | exact absurd hc4 (Int32.not_lt.mpr hc) | exact absurd (Int32.not_le.mp hc) hc4 | exact absurd (Int32.not_lt.mp hc) hc4 | exact absurd hc (Int32.not_lt.mpr hc4) | exact hc (Int32.not_lt.mp hc4) | exact hc (Int32.not_le.mp hc4) : False).elim) (fun _ => ?_)
      refine lr_iconst (pc := 128) (v := 1) C lr_d_M_passComes_128 (by decide) ?_
      refine lr_goto (pc := 129) (tgt := 133) C lr_d_M_passComes_129 (by decide) ?_
      refine lr_istore (pc := 133) (ls' := [(6, .inl (1 : Int32)), (5, .inl u2.1), (4, .inl ((lr_rd t 40 0 (5 : Int32).toNatClampNeg) - (lr_rd t 40 0 (5 : Int32).toNatClampNeg) / (4 : Int32) * (4 : Int32))), (3, .inl (((3 : Int32) * a1) + ((lr_rd t 40 0 (5 : Int32).toNatClampNeg) / (4 : Int32)))), (0, .inr (20, 0)), (1, .inl a1), (2, .inl a2)]) C lr_d_M_passComes_133 (by decide) rfl ?_
      refine lr_iload (pc := 135) C lr_d_M_passComes_135 0 rfl ?_
      refine lr_if_eq (pc := 137) (tgt := 148) C lr_d_M_passComes_137 (by decide) (fun hc => absurd hc (by decide)) (fun _ => ?_)
      refine lr_aload_n (pc := 140) C lr_d_M_passComes_140 rfl 4 rfl ?_
      refine lr_iload_n (pc := 141) C lr_d_M_passComes_141 rfl 5 rfl ?_
      obtain ⟨u5, hu6, h⟩ := lr_bd h
      refine lr_callVi (pc := 142) (as := [.inl a1]) (st := []) (fs := fun ad => lr_fs7 u2.2 0 ad) C (lr_r_M_emptySlot hu6) lr_c7_130 lr_d_M_passComes_142 rfl rfl (fun _ _ => rfl) (ci := 7) rfl rfl ⟨by decide, by decide⟩ (Nat.le_of_ble_eq_true rfl) ?_
      refine lr_goto (pc := 145) (tgt := 150) C lr_d_M_passComes_145 (by decide) ?_
      refine lr_istore (pc := 150) (ls' := [(5, .inl u5.1), (6, .inl (1 : Int32)), (4, .inl ((lr_rd t 40 0 (5 : Int32).toNatClampNeg) - (lr_rd t 40 0 (5 : Int32).toNatClampNeg) / (4 : Int32) * (4 : Int32))), (3, .inl (((3 : Int32) * a1) + ((lr_rd t 40 0 (5 : Int32).toNatClampNeg) / (4 : Int32)))), (0, .inr (20, 0)), (1, .inl a1), (2, .inl a2)]) C lr_d_M_passComes_150 (by decide) rfl ?_
      refine lr_iload (pc := 152) C lr_d_M_passComes_152 0 rfl ?_
      refine lr_if_ge (pc := 154) (tgt := 159) C lr_d_M_passComes_154 (by decide) (fun hc7 => ?_) (fun hc7 => ?_)
      · have h := lr_ps hc7 h
        refine lr_iload (pc := 159) C lr_d_M_passComes_159 1 rfl ?_
        refine lr_if_eq (pc := 161) (tgt := 194) C lr_d_M_passComes_161 (by decide) (fun hc => absurd hc (by decide)) (fun _ => ?_)
        refine lr_aload_n (pc := 164) C lr_d_M_passComes_164 rfl 4 rfl ?_
        refine lr_g7_20 (pc := 165) C lr_d_M_passComes_165 ?_
        refine lr_iload (pc := 168) C lr_d_M_passComes_168 0 rfl ?_
        refine lr_iconst (pc := 170) (v := 2) C lr_d_M_passComes_170 (by decide) ?_
        obtain ⟨hb8, h⟩ := lr_gd h
        refine lr_si24 (pc := 171) C lr_d_M_passComes_171 hb8 ?_
        refine lr_aload_n (pc := 172) C lr_d_M_passComes_172 rfl 4 rfl ?_
        refine lr_g7_23 (pc := 173) C lr_d_M_passComes_173 ?_
        refine lr_iload (pc := 176) C lr_d_M_passComes_176 0 rfl ?_
        refine lr_aload_n (pc := 178) C lr_d_M_passComes_178 rfl 4 rfl ?_
        refine lr_g7_62 (pc := 179) C lr_d_M_passComes_179 ?_
        refine lr_iconst (pc := 182) (v := 3) C lr_d_M_passComes_182 (by decide) ?_
        refine lr_li40 (pc := 183) C lr_d_M_passComes_183 (by decide) ?_
        refine lr_si25 (pc := 184) C lr_d_M_passComes_184 hb8 ?_
        obtain ⟨t9, ht10, h⟩ := lr_bd h
        rw [Option.some.inj ht10]
        refine lr_aload_n (pc := 185) C lr_d_M_passComes_185 rfl 4 rfl ?_
        refine lr_g7_38 (pc := 186) C lr_d_M_passComes_186 ?_
        refine lr_iload (pc := 189) C lr_d_M_passComes_189 0 rfl ?_
        refine lr_iload (pc := 191) C lr_d_M_passComes_191 2 rfl ?_
        refine lr_si30 (pc := 193) C lr_d_M_passComes_193 hb8 ?_
        obtain ⟨t11, ht12, h⟩ := lr_bd h
        rw [Option.some.inj ht12]
        refine lr_iload (pc := 194) C lr_d_M_passComes_194 1 rfl ?_
        refine lr_if_ne (pc := 196) (tgt := 208) C lr_d_M_passComes_196 (by decide) (fun _ => ?_) (fun hc => absurd hc (by decide))
        refine lr_aload_n (pc := 208) C lr_d_M_passComes_208 rfl 4 rfl ?_
        refine lr_g7_50 (pc := 209) C lr_d_M_passComes_209 ?_
        refine lr_iload (pc := 212) C lr_d_M_passComes_212 0 rfl ?_
        refine lr_iconst (pc := 214) (v := 0) C lr_d_M_passComes_214 (by decide) ?_
        refine lr_sz34 (pc := 215) C lr_d_M_passComes_215 hb8 ?_
        refine lr_aload_n (pc := 216) C lr_d_M_passComes_216 rfl 4 rfl ?_
        refine lr_g7_47 (pc := 217) C lr_d_M_passComes_217 ?_
        refine lr_iload (pc := 220) C lr_d_M_passComes_220 0 rfl ?_
        refine lr_aload_n (pc := 222) C lr_d_M_passComes_222 rfl 4 rfl ?_
        refine lr_g7_119 (pc := 223) C lr_d_M_passComes_223 ?_
        refine lr_bipush (pc := 226) (v := 24) C lr_d_M_passComes_226 (by decide) ?_
        refine lr_iadd (pc := 228) C lr_d_M_passComes_228 ?_
        refine lr_si33 (pc := 229) C lr_d_M_passComes_229 hb8 ?_
        obtain ⟨t13, ht14, h⟩ := lr_bd h
        rw [Option.some.inj ht14]
        refine lr_aload_n (pc := 230) C lr_d_M_passComes_230 rfl 4 rfl ?_
        refine lr_g7_41 (pc := 231) C lr_d_M_passComes_231 ?_
        refine lr_iload (pc := 234) C lr_d_M_passComes_234 0 rfl ?_
        refine lr_aload_n (pc := 236) C lr_d_M_passComes_236 rfl 4 rfl ?_
        refine lr_iload (pc := 237) C lr_d_M_passComes_237 0 rfl ?_
        obtain ⟨u15, hu16, h⟩ := lr_bd h
        refine lr_callVi (pc := 239) (as := [.inl u5.1]) (st := [.inl u5.1, .inr (31, 0)]) (fs := fun ad => lr_fs7 t13 0 ad) C (lr_r_M_sendDirty hu16) lr_c7_159 lr_d_M_passComes_239 rfl rfl (fun _ _ => rfl) (ci := 7) rfl rfl ⟨by decide, by decide⟩ (Nat.le_of_ble_eq_true rfl) ?_
        refine lr_si31 (pc := 242) C lr_d_M_passComes_242 hb8 ?_
        refine lr_aload_n (pc := 243) C lr_d_M_passComes_243 rfl 4 rfl ?_
        refine lr_g7_53 (pc := 244) C lr_d_M_passComes_244 ?_
        refine lr_iload (pc := 247) C lr_d_M_passComes_247 0 rfl ?_
        refine lr_aload_n (pc := 249) C lr_d_M_passComes_249 rfl 4 rfl ?_
        refine lr_g7_62 (pc := 250) C lr_d_M_passComes_250 ?_
        refine lr_iconst (pc := 253) (v := 4) C lr_d_M_passComes_253 (by decide) ?_
        refine lr_li40 (pc := 254) C lr_d_M_passComes_254 (by decide) ?_
        refine lr_si35 (pc := 255) C lr_d_M_passComes_255 hb8 ?_
        obtain ⟨t17, ht18, h⟩ := lr_bd h
        rw [Option.some.inj ht18]
        refine lr_aload_n (pc := 256) C lr_d_M_passComes_256 rfl 4 rfl ?_
        refine lr_g7_56 (pc := 257) C lr_d_M_passComes_257 ?_
        refine lr_iload (pc := 260) C lr_d_M_passComes_260 0 rfl ?_
        refine lr_iload_n (pc := 262) C lr_d_M_passComes_262 rfl 6 rfl ?_
        refine lr_si36 (pc := 263) C lr_d_M_passComes_263 hb8 ?_
        refine lr_aload_n (pc := 264) C lr_d_M_passComes_264 rfl 4 rfl ?_
        refine lr_g7_13 (pc := 265) C lr_d_M_passComes_265 ?_
        refine lr_iload_n (pc := 268) C lr_d_M_passComes_268 rfl 3 rfl ?_
        refine lr_iload (pc := 269) C lr_d_M_passComes_269 0 rfl ?_
        refine lr_bipush (pc := 271) (v := 8) C lr_d_M_passComes_271 (by decide) ?_
        refine lr_irem (pc := 273) C lr_d_M_passComes_273 (by decide) ?_
        obtain ⟨hb19, h⟩ := lr_gd h
        refine lr_si22 (pc := 274) C lr_d_M_passComes_274 hb19 ?_
        obtain ⟨t20, ht21, h⟩ := lr_bd h
        rw [Option.some.inj ht21]
        refine lr_iconst (pc := 275) (v := 1) C lr_d_M_passComes_275 (by decide) ?_
        have e := Option.some.inj h
        subst e
        exact lr_iret C E lr_d_M_passComes_276 (by decide)
      · have h := lr_ng hc7 h
        refine lr_iconst (pc := 157) (v := 0) C lr_d_M_passComes_157 (by decide) ?_
        have e := Option.some.inj h
        subst e
        exact lr_iret C E lr_d_M_passComes_158 (by decide)
    · have h := lr_ng hc4 h
      refine lr_iload (pc := 65) C lr_d_M_passComes_65 1 rfl ?_
      refine lr_iload_n (pc := 67) C lr_d_M_passComes_67 rfl 4 rfl ?_
      refine lr_icmp_eq (pc := 68) (tgt := 90) C lr_d_M_passComes_68 (by decide) (fun hc => (by first | exact absurd hc hc1 | exact absurd hc1 hc | exact absurd hc (Int32.not_le.mpr hc1) | exact absurd hc1 (Int32.not_lt.mpr hc) | exact absurd (Int32.not_le.mp hc) hc1 | exact absurd (Int32.not_lt.mp hc) hc1 | exact absurd hc (Int32.not_lt.mpr hc1) | exact hc (Int32.not_lt.mp hc1) | exact hc (Int32.not_le.mp hc1) : False).elim) (fun _ => ?_)
      refine lr_aload_n (pc := 71) C lr_d_M_passComes_71 rfl 3 rfl ?_
      refine lr_g7_50 (pc := 72) C lr_d_M_passComes_72 ?_
      refine lr_iload (pc := 75) C lr_d_M_passComes_75 0 rfl ?_
      obtain ⟨hb22, h⟩ := lr_gd h
      refine lr_lz34 (pc := 77) C lr_d_M_passComes_77 hb22 ?_
      refine lr_if_eq (pc := 78) (tgt := 123) C lr_d_M_passComes_78 (by decide) (fun hc23 => ?_) (fun hc23 => ?_)
      · have h := lr_ps hc23 h
        refine lr_iload (pc := 123) C lr_d_M_passComes_123 0 rfl ?_
        refine lr_if_ge (pc := 125) (tgt := 132) C lr_d_M_passComes_125 (by decide) (fun _ => ?_) (fun hc => (by first | exact absurd hc hc4 | exact absurd hc4 hc | exact absurd hc (Int32.not_le.mpr hc4) | exact absurd hc4 (Int32.not_lt.mpr hc) | exact absurd (Int32.not_le.mp hc) hc4 | exact absurd (Int32.not_lt.mp hc) hc4 | exact absurd hc (Int32.not_lt.mpr hc4) | exact hc (Int32.not_lt.mp hc4) | exact hc (Int32.not_le.mp hc4) : False).elim)
        refine lr_iconst (pc := 132) (v := 0) C lr_d_M_passComes_132 (by decide) ?_
        refine lr_istore (pc := 133) (ls' := [(6, .inl (0 : Int32)), (5, .inl u2.1), (4, .inl ((lr_rd t 40 0 (5 : Int32).toNatClampNeg) - (lr_rd t 40 0 (5 : Int32).toNatClampNeg) / (4 : Int32) * (4 : Int32))), (3, .inl (((3 : Int32) * a1) + ((lr_rd t 40 0 (5 : Int32).toNatClampNeg) / (4 : Int32)))), (0, .inr (20, 0)), (1, .inl a1), (2, .inl a2)]) C lr_d_M_passComes_133 (by decide) rfl ?_
        refine lr_iload (pc := 135) C lr_d_M_passComes_135 0 rfl ?_
        refine lr_if_eq (pc := 137) (tgt := 148) C lr_d_M_passComes_137 (by decide) (fun _ => ?_) (fun hc => absurd hc (by decide))
        refine lr_iload (pc := 148) C lr_d_M_passComes_148 1 rfl ?_
        refine lr_istore (pc := 150) (ls' := [(5, .inl u2.1), (6, .inl (0 : Int32)), (4, .inl ((lr_rd t 40 0 (5 : Int32).toNatClampNeg) - (lr_rd t 40 0 (5 : Int32).toNatClampNeg) / (4 : Int32) * (4 : Int32))), (3, .inl (((3 : Int32) * a1) + ((lr_rd t 40 0 (5 : Int32).toNatClampNeg) / (4 : Int32)))), (0, .inr (20, 0)), (1, .inl a1), (2, .inl a2)]) C lr_d_M_passComes_150 (by decide) rfl ?_
        refine lr_iload (pc := 152) C lr_d_M_passComes_152 0 rfl ?_
        refine lr_if_ge (pc := 154) (tgt := 159) C lr_d_M_passComes_154 (by decide) (fun _ => ?_) (fun hc => (by first | exact absurd hc hc4 | exact absurd hc4 hc | exact absurd hc (Int32.not_le.mpr hc4) | exact absurd hc4 (Int32.not_lt.mpr hc) | exact absurd (Int32.not_le.mp hc) hc4 | exact absurd (Int32.not_lt.mp hc) hc4 | exact absurd hc (Int32.not_lt.mpr hc4) | exact hc (Int32.not_lt.mp hc4) | exact hc (Int32.not_le.mp hc4) : False).elim)
        refine lr_iload (pc := 159) C lr_d_M_passComes_159 1 rfl ?_
        refine lr_if_eq (pc := 161) (tgt := 194) C lr_d_M_passComes_161 (by decide) (fun _ => ?_) (fun hc => absurd hc (by decide))
        refine lr_iload (pc := 194) C lr_d_M_passComes_194 1 rfl ?_
        refine lr_if_ne (pc := 196) (tgt := 208) C lr_d_M_passComes_196 (by decide) (fun hc => absurd hc (by decide)) (fun _ => ?_)
        refine lr_aload_n (pc := 199) C lr_d_M_passComes_199 rfl 4 rfl ?_
        refine lr_iload (pc := 200) C lr_d_M_passComes_200 0 rfl ?_
        obtain ⟨u24, hu25, h⟩ := lr_bd h
        refine lr_callVi (pc := 202) (as := [.inl u2.1]) (st := []) (fs := fun ad => lr_fs7 u2.2 0 ad) C (lr_r_M_stale hu25) lr_c7_149 lr_d_M_passComes_202 rfl rfl (fun _ _ => rfl) (ci := 7) rfl rfl ⟨by decide, by decide⟩ (Nat.le_of_ble_eq_true rfl) ?_
        refine lr_if_eq (pc := 205) (tgt := 243) C lr_d_M_passComes_205 (by decide) (fun hc26 => ?_) (fun hc26 => ?_)
        · have h := lr_ps hc26 h
          refine lr_aload_n (pc := 243) C lr_d_M_passComes_243 rfl 4 rfl ?_
          refine lr_g7_53 (pc := 244) C lr_d_M_passComes_244 ?_
          refine lr_iload (pc := 247) C lr_d_M_passComes_247 0 rfl ?_
          refine lr_aload_n (pc := 249) C lr_d_M_passComes_249 rfl 4 rfl ?_
          refine lr_g7_62 (pc := 250) C lr_d_M_passComes_250 ?_
          refine lr_iconst (pc := 253) (v := 4) C lr_d_M_passComes_253 (by decide) ?_
          refine lr_li40 (pc := 254) C lr_d_M_passComes_254 (by decide) ?_
          refine lr_si35 (pc := 255) C lr_d_M_passComes_255 hb22 ?_
          refine lr_aload_n (pc := 256) C lr_d_M_passComes_256 rfl 4 rfl ?_
          refine lr_g7_56 (pc := 257) C lr_d_M_passComes_257 ?_
          refine lr_iload (pc := 260) C lr_d_M_passComes_260 0 rfl ?_
          refine lr_iload_n (pc := 262) C lr_d_M_passComes_262 rfl 6 rfl ?_
          refine lr_si36 (pc := 263) C lr_d_M_passComes_263 hb22 ?_
          obtain ⟨t27, ht28, h⟩ := lr_bd h
          rw [Option.some.inj ht28]
          refine lr_aload_n (pc := 264) C lr_d_M_passComes_264 rfl 4 rfl ?_
          refine lr_g7_13 (pc := 265) C lr_d_M_passComes_265 ?_
          refine lr_iload_n (pc := 268) C lr_d_M_passComes_268 rfl 3 rfl ?_
          refine lr_iload (pc := 269) C lr_d_M_passComes_269 0 rfl ?_
          refine lr_bipush (pc := 271) (v := 8) C lr_d_M_passComes_271 (by decide) ?_
          refine lr_irem (pc := 273) C lr_d_M_passComes_273 (by decide) ?_
          obtain ⟨hb29, h⟩ := lr_gd h
          refine lr_si22 (pc := 274) C lr_d_M_passComes_274 hb29 ?_
          obtain ⟨t30, ht31, h⟩ := lr_bd h
          rw [Option.some.inj ht31]
          refine lr_iconst (pc := 275) (v := 1) C lr_d_M_passComes_275 (by decide) ?_
          have e := Option.some.inj h
          subst e
          exact lr_iret C E lr_d_M_passComes_276 (by decide)
        · have h := lr_ng hc26 h
          refine lr_aload_n (pc := 208) C lr_d_M_passComes_208 rfl 4 rfl ?_
          refine lr_g7_50 (pc := 209) C lr_d_M_passComes_209 ?_
          refine lr_iload (pc := 212) C lr_d_M_passComes_212 0 rfl ?_
          refine lr_iconst (pc := 214) (v := 0) C lr_d_M_passComes_214 (by decide) ?_
          refine lr_sz34 (pc := 215) C lr_d_M_passComes_215 hb22 ?_
          refine lr_aload_n (pc := 216) C lr_d_M_passComes_216 rfl 4 rfl ?_
          refine lr_g7_47 (pc := 217) C lr_d_M_passComes_217 ?_
          refine lr_iload (pc := 220) C lr_d_M_passComes_220 0 rfl ?_
          refine lr_aload_n (pc := 222) C lr_d_M_passComes_222 rfl 4 rfl ?_
          refine lr_g7_119 (pc := 223) C lr_d_M_passComes_223 ?_
          refine lr_bipush (pc := 226) (v := 24) C lr_d_M_passComes_226 (by decide) ?_
          refine lr_iadd (pc := 228) C lr_d_M_passComes_228 ?_
          refine lr_si33 (pc := 229) C lr_d_M_passComes_229 hb22 ?_
          obtain ⟨t32, ht33, h⟩ := lr_bd h
          rw [Option.some.inj ht33]
          refine lr_aload_n (pc := 230) C lr_d_M_passComes_230 rfl 4 rfl ?_
          refine lr_g7_41 (pc := 231) C lr_d_M_passComes_231 ?_
          refine lr_iload (pc := 234) C lr_d_M_passComes_234 0 rfl ?_
          refine lr_aload_n (pc := 236) C lr_d_M_passComes_236 rfl 4 rfl ?_
          refine lr_iload (pc := 237) C lr_d_M_passComes_237 0 rfl ?_
          obtain ⟨u34, hu35, h⟩ := lr_bd h
          refine lr_callVi (pc := 239) (as := [.inl u2.1]) (st := [.inl u2.1, .inr (31, 0)]) (fs := fun ad => lr_fs7 t32 0 ad) C (lr_r_M_sendDirty hu35) lr_c7_159 lr_d_M_passComes_239 rfl rfl (fun _ _ => rfl) (ci := 7) rfl rfl ⟨by decide, by decide⟩ (Nat.le_of_ble_eq_true rfl) ?_
          refine lr_si31 (pc := 242) C lr_d_M_passComes_242 hb22 ?_
          refine lr_aload_n (pc := 243) C lr_d_M_passComes_243 rfl 4 rfl ?_
          refine lr_g7_53 (pc := 244) C lr_d_M_passComes_244 ?_
          refine lr_iload (pc := 247) C lr_d_M_passComes_247 0 rfl ?_
          refine lr_aload_n (pc := 249) C lr_d_M_passComes_249 rfl 4 rfl ?_
          refine lr_g7_62 (pc := 250) C lr_d_M_passComes_250 ?_
          refine lr_iconst (pc := 253) (v := 4) C lr_d_M_passComes_253 (by decide) ?_
          refine lr_li40 (pc := 254) C lr_d_M_passComes_254 (by decide) ?_
          refine lr_si35 (pc := 255) C lr_d_M_passComes_255 hb22 ?_
          obtain ⟨t36, ht37, h⟩ := lr_bd h
          rw [Option.some.inj ht37]
          refine lr_aload_n (pc := 256) C lr_d_M_passComes_256 rfl 4 rfl ?_
          refine lr_g7_56 (pc := 257) C lr_d_M_passComes_257 ?_
          refine lr_iload (pc := 260) C lr_d_M_passComes_260 0 rfl ?_
          refine lr_iload_n (pc := 262) C lr_d_M_passComes_262 rfl 6 rfl ?_
          refine lr_si36 (pc := 263) C lr_d_M_passComes_263 hb22 ?_
          refine lr_aload_n (pc := 264) C lr_d_M_passComes_264 rfl 4 rfl ?_
          refine lr_g7_13 (pc := 265) C lr_d_M_passComes_265 ?_
          refine lr_iload_n (pc := 268) C lr_d_M_passComes_268 rfl 3 rfl ?_
          refine lr_iload (pc := 269) C lr_d_M_passComes_269 0 rfl ?_
          refine lr_bipush (pc := 271) (v := 8) C lr_d_M_passComes_271 (by decide) ?_
          refine lr_irem (pc := 273) C lr_d_M_passComes_273 (by decide) ?_
          obtain ⟨hb38, h⟩ := lr_gd h
          refine lr_si22 (pc := 274) C lr_d_M_passComes_274 hb38 ?_
          obtain ⟨t39, ht40, h⟩ := lr_bd h
          rw [Option.some.inj ht40]
          refine lr_iconst (pc := 275) (v := 1) C lr_d_M_passComes_275 (by decide) ?_
          have e := Option.some.inj h
          subst e
          exact lr_iret C E lr_d_M_passComes_276 (by decide)
      · have h := lr_ng hc23 h
        refine lr_aload_n (pc := 81) C lr_d_M_passComes_81 rfl 3 rfl ?_
        refine lr_iload (pc := 82) C lr_d_M_passComes_82 0 rfl ?_
        obtain ⟨u41, hu42, h⟩ := lr_bd h
        refine lr_callVi (pc := 84) (as := [.inl u2.1]) (st := []) (fs := fun ad => lr_fs7 u2.2 0 ad) C (lr_r_M_stale hu42) lr_c7_149 lr_d_M_passComes_84 rfl rfl (fun _ _ => rfl) (ci := 7) rfl rfl ⟨by decide, by decide⟩ (Nat.le_of_ble_eq_true rfl) ?_
        refine lr_if_ne (pc := 87) (tgt := 123) C lr_d_M_passComes_87 (by decide) (fun hc43 => ?_) (fun hc43 => ?_)
        · have h := lr_ng hc43 h
          refine lr_iload (pc := 123) C lr_d_M_passComes_123 0 rfl ?_
          refine lr_if_ge (pc := 125) (tgt := 132) C lr_d_M_passComes_125 (by decide) (fun _ => ?_) (fun hc => (by first | exact absurd hc hc4 | exact absurd hc4 hc | exact absurd hc (Int32.not_le.mpr hc4) | exact absurd hc4 (Int32.not_lt.mpr hc) | exact absurd (Int32.not_le.mp hc) hc4 | exact absurd (Int32.not_lt.mp hc) hc4 | exact absurd hc (Int32.not_lt.mpr hc4) | exact hc (Int32.not_lt.mp hc4) | exact hc (Int32.not_le.mp hc4) : False).elim)
          refine lr_iconst (pc := 132) (v := 0) C lr_d_M_passComes_132 (by decide) ?_
          refine lr_istore (pc := 133) (ls' := [(6, .inl (0 : Int32)), (5, .inl u2.1), (4, .inl ((lr_rd t 40 0 (5 : Int32).toNatClampNeg) - (lr_rd t 40 0 (5 : Int32).toNatClampNeg) / (4 : Int32) * (4 : Int32))), (3, .inl (((3 : Int32) * a1) + ((lr_rd t 40 0 (5 : Int32).toNatClampNeg) / (4 : Int32)))), (0, .inr (20, 0)), (1, .inl a1), (2, .inl a2)]) C lr_d_M_passComes_133 (by decide) rfl ?_
          refine lr_iload (pc := 135) C lr_d_M_passComes_135 0 rfl ?_
          refine lr_if_eq (pc := 137) (tgt := 148) C lr_d_M_passComes_137 (by decide) (fun _ => ?_) (fun hc => absurd hc (by decide))
          refine lr_iload (pc := 148) C lr_d_M_passComes_148 1 rfl ?_
          refine lr_istore (pc := 150) (ls' := [(5, .inl u2.1), (6, .inl (0 : Int32)), (4, .inl ((lr_rd t 40 0 (5 : Int32).toNatClampNeg) - (lr_rd t 40 0 (5 : Int32).toNatClampNeg) / (4 : Int32) * (4 : Int32))), (3, .inl (((3 : Int32) * a1) + ((lr_rd t 40 0 (5 : Int32).toNatClampNeg) / (4 : Int32)))), (0, .inr (20, 0)), (1, .inl a1), (2, .inl a2)]) C lr_d_M_passComes_150 (by decide) rfl ?_
          refine lr_iload (pc := 152) C lr_d_M_passComes_152 0 rfl ?_
          refine lr_if_ge (pc := 154) (tgt := 159) C lr_d_M_passComes_154 (by decide) (fun _ => ?_) (fun hc => (by first | exact absurd hc hc4 | exact absurd hc4 hc | exact absurd hc (Int32.not_le.mpr hc4) | exact absurd hc4 (Int32.not_lt.mpr hc) | exact absurd (Int32.not_le.mp hc) hc4 | exact absurd (Int32.not_lt.mp hc) hc4 | exact absurd hc (Int32.not_lt.mpr hc4) | exact hc (Int32.not_lt.mp hc4) | exact hc (Int32.not_le.mp hc4) : False).elim)
          refine lr_iload (pc := 159) C lr_d_M_passComes_159 1 rfl ?_
          refine lr_if_eq (pc := 161) (tgt := 194) C lr_d_M_passComes_161 (by decide) (fun _ => ?_) (fun hc => absurd hc (by decide))
          refine lr_iload (pc := 194) C lr_d_M_passComes_194 1 rfl ?_
          refine lr_if_ne (pc := 196) (tgt := 208) C lr_d_M_passComes_196 (by decide) (fun hc => absurd hc (by decide)) (fun _ => ?_)
          refine lr_aload_n (pc := 199) C lr_d_M_passComes_199 rfl 4 rfl ?_
          refine lr_iload (pc := 200) C lr_d_M_passComes_200 0 rfl ?_
          obtain ⟨u44, hu45, h⟩ := lr_bd h
          refine lr_callVi (pc := 202) (as := [.inl u2.1]) (st := []) (fs := fun ad => lr_fs7 u41.2 0 ad) C (lr_r_M_stale hu45) lr_c7_149 lr_d_M_passComes_202 rfl rfl (fun _ _ => rfl) (ci := 7) rfl rfl ⟨by decide, by decide⟩ (Nat.le_of_ble_eq_true rfl) ?_
          refine lr_if_eq (pc := 205) (tgt := 243) C lr_d_M_passComes_205 (by decide) (fun hc46 => ?_) (fun hc46 => ?_)
          · have h := lr_ps hc46 h
            refine lr_aload_n (pc := 243) C lr_d_M_passComes_243 rfl 4 rfl ?_
            refine lr_g7_53 (pc := 244) C lr_d_M_passComes_244 ?_
            refine lr_iload (pc := 247) C lr_d_M_passComes_247 0 rfl ?_
            refine lr_aload_n (pc := 249) C lr_d_M_passComes_249 rfl 4 rfl ?_
            refine lr_g7_62 (pc := 250) C lr_d_M_passComes_250 ?_
            refine lr_iconst (pc := 253) (v := 4) C lr_d_M_passComes_253 (by decide) ?_
            refine lr_li40 (pc := 254) C lr_d_M_passComes_254 (by decide) ?_
            refine lr_si35 (pc := 255) C lr_d_M_passComes_255 hb22 ?_
            refine lr_aload_n (pc := 256) C lr_d_M_passComes_256 rfl 4 rfl ?_
            refine lr_g7_56 (pc := 257) C lr_d_M_passComes_257 ?_
            refine lr_iload (pc := 260) C lr_d_M_passComes_260 0 rfl ?_
            refine lr_iload_n (pc := 262) C lr_d_M_passComes_262 rfl 6 rfl ?_
            refine lr_si36 (pc := 263) C lr_d_M_passComes_263 hb22 ?_
            obtain ⟨t47, ht48, h⟩ := lr_bd h
            rw [Option.some.inj ht48]
            refine lr_aload_n (pc := 264) C lr_d_M_passComes_264 rfl 4 rfl ?_
            refine lr_g7_13 (pc := 265) C lr_d_M_passComes_265 ?_
            refine lr_iload_n (pc := 268) C lr_d_M_passComes_268 rfl 3 rfl ?_
            refine lr_iload (pc := 269) C lr_d_M_passComes_269 0 rfl ?_
            refine lr_bipush (pc := 271) (v := 8) C lr_d_M_passComes_271 (by decide) ?_
            refine lr_irem (pc := 273) C lr_d_M_passComes_273 (by decide) ?_
            obtain ⟨hb49, h⟩ := lr_gd h
            refine lr_si22 (pc := 274) C lr_d_M_passComes_274 hb49 ?_
            obtain ⟨t50, ht51, h⟩ := lr_bd h
            rw [Option.some.inj ht51]
            refine lr_iconst (pc := 275) (v := 1) C lr_d_M_passComes_275 (by decide) ?_
            have e := Option.some.inj h
            subst e
            exact lr_iret C E lr_d_M_passComes_276 (by decide)
          · have h := lr_ng hc46 h
            refine lr_aload_n (pc := 208) C lr_d_M_passComes_208 rfl 4 rfl ?_
            refine lr_g7_50 (pc := 209) C lr_d_M_passComes_209 ?_
            refine lr_iload (pc := 212) C lr_d_M_passComes_212 0 rfl ?_
            refine lr_iconst (pc := 214) (v := 0) C lr_d_M_passComes_214 (by decide) ?_
            refine lr_sz34 (pc := 215) C lr_d_M_passComes_215 hb22 ?_
            refine lr_aload_n (pc := 216) C lr_d_M_passComes_216 rfl 4 rfl ?_
            refine lr_g7_47 (pc := 217) C lr_d_M_passComes_217 ?_
            refine lr_iload (pc := 220) C lr_d_M_passComes_220 0 rfl ?_
            refine lr_aload_n (pc := 222) C lr_d_M_passComes_222 rfl 4 rfl ?_
            refine lr_g7_119 (pc := 223) C lr_d_M_passComes_223 ?_
            refine lr_bipush (pc := 226) (v := 24) C lr_d_M_passComes_226 (by decide) ?_
            refine lr_iadd (pc := 228) C lr_d_M_passComes_228 ?_
            refine lr_si33 (pc := 229) C lr_d_M_passComes_229 hb22 ?_
            obtain ⟨t52, ht53, h⟩ := lr_bd h
            rw [Option.some.inj ht53]
            refine lr_aload_n (pc := 230) C lr_d_M_passComes_230 rfl 4 rfl ?_
            refine lr_g7_41 (pc := 231) C lr_d_M_passComes_231 ?_
            refine lr_iload (pc := 234) C lr_d_M_passComes_234 0 rfl ?_
            refine lr_aload_n (pc := 236) C lr_d_M_passComes_236 rfl 4 rfl ?_
            refine lr_iload (pc := 237) C lr_d_M_passComes_237 0 rfl ?_
            obtain ⟨u54, hu55, h⟩ := lr_bd h
            refine lr_callVi (pc := 239) (as := [.inl u2.1]) (st := [.inl u2.1, .inr (31, 0)]) (fs := fun ad => lr_fs7 t52 0 ad) C (lr_r_M_sendDirty hu55) lr_c7_159 lr_d_M_passComes_239 rfl rfl (fun _ _ => rfl) (ci := 7) rfl rfl ⟨by decide, by decide⟩ (Nat.le_of_ble_eq_true rfl) ?_
            refine lr_si31 (pc := 242) C lr_d_M_passComes_242 hb22 ?_
            refine lr_aload_n (pc := 243) C lr_d_M_passComes_243 rfl 4 rfl ?_
            refine lr_g7_53 (pc := 244) C lr_d_M_passComes_244 ?_
            refine lr_iload (pc := 247) C lr_d_M_passComes_247 0 rfl ?_
            refine lr_aload_n (pc := 249) C lr_d_M_passComes_249 rfl 4 rfl ?_
            refine lr_g7_62 (pc := 250) C lr_d_M_passComes_250 ?_
            refine lr_iconst (pc := 253) (v := 4) C lr_d_M_passComes_253 (by decide) ?_
            refine lr_li40 (pc := 254) C lr_d_M_passComes_254 (by decide) ?_
            refine lr_si35 (pc := 255) C lr_d_M_passComes_255 hb22 ?_
            obtain ⟨t56, ht57, h⟩ := lr_bd h
            rw [Option.some.inj ht57]
            refine lr_aload_n (pc := 256) C lr_d_M_passComes_256 rfl 4 rfl ?_
            refine lr_g7_56 (pc := 257) C lr_d_M_passComes_257 ?_
            refine lr_iload (pc := 260) C lr_d_M_passComes_260 0 rfl ?_
            refine lr_iload_n (pc := 262) C lr_d_M_passComes_262 rfl 6 rfl ?_
            refine lr_si36 (pc := 263) C lr_d_M_passComes_263 hb22 ?_
            refine lr_aload_n (pc := 264) C lr_d_M_passComes_264 rfl 4 rfl ?_
            refine lr_g7_13 (pc := 265) C lr_d_M_passComes_265 ?_
            refine lr_iload_n (pc := 268) C lr_d_M_passComes_268 rfl 3 rfl ?_
            refine lr_iload (pc := 269) C lr_d_M_passComes_269 0 rfl ?_
            refine lr_bipush (pc := 271) (v := 8) C lr_d_M_passComes_271 (by decide) ?_
            refine lr_irem (pc := 273) C lr_d_M_passComes_273 (by decide) ?_
            obtain ⟨hb58, h⟩ := lr_gd h
            refine lr_si22 (pc := 274) C lr_d_M_passComes_274 hb58 ?_
            obtain ⟨t59, ht60, h⟩ := lr_bd h
            rw [Option.some.inj ht60]
            refine lr_iconst (pc := 275) (v := 1) C lr_d_M_passComes_275 (by decide) ?_
            have e := Option.some.inj h
            subst e
            exact lr_iret C E lr_d_M_passComes_276 (by decide)
        · have h := lr_ps hc43 h
          refine lr_aload_n (pc := 90) C lr_d_M_passComes_90 rfl 3 rfl ?_
          refine lr_g7_13 (pc := 91) C lr_d_M_passComes_91 ?_
          refine lr_iload_n (pc := 94) C lr_d_M_passComes_94 rfl 2 rfl ?_
          refine lr_iload (pc := 95) C lr_d_M_passComes_95 0 rfl ?_
          refine lr_bipush (pc := 97) (v := 8) C lr_d_M_passComes_97 (by decide) ?_
          refine lr_irem (pc := 99) C lr_d_M_passComes_99 (by decide) ?_
          obtain ⟨hb61, h⟩ := lr_gd h
          refine lr_si22 (pc := 100) C lr_d_M_passComes_100 hb61 ?_
          obtain ⟨t62, ht63, h⟩ := lr_bd h
          rw [Option.some.inj ht63]
          refine lr_aload_n (pc := 101) C lr_d_M_passComes_101 rfl 3 rfl ?_
          refine lr_iconst (pc := 102) (v := 1) C lr_d_M_passComes_102 (by decide) ?_
          refine lr_iload_n (pc := 103) C lr_d_M_passComes_103 rfl 4 rfl ?_
          refine lr_iload_n (pc := 104) C lr_d_M_passComes_104 rfl 5 rfl ?_
          refine lr_aload_n (pc := 105) C lr_d_M_passComes_105 rfl 3 rfl ?_
          refine lr_g7_62 (pc := 106) C lr_d_M_passComes_106 ?_
          refine lr_iconst (pc := 109) (v := 3) C lr_d_M_passComes_109 (by decide) ?_
          refine lr_li40 (pc := 110) C lr_d_M_passComes_110 (by decide) ?_
          refine lr_aload_n (pc := 111) C lr_d_M_passComes_111 rfl 3 rfl ?_
          refine lr_g7_62 (pc := 112) C lr_d_M_passComes_112 ?_
          refine lr_iconst (pc := 115) (v := 4) C lr_d_M_passComes_115 (by decide) ?_
          refine lr_li40 (pc := 116) C lr_d_M_passComes_116 (by decide) ?_
          refine lr_iconst (pc := 117) (v := 0) C lr_d_M_passComes_117 (by decide) ?_
          obtain ⟨u64, hu65, h⟩ := lr_bd h
          refine lr_callVv (pc := 118) (as := [.inl (1 : Int32), .inl a1, .inl a2, .inl (lr_rd t62 40 0 (3 : Int32).toNatClampNeg), .inl (lr_rd t62 40 0 (4 : Int32).toNatClampNeg), .inl (0 : Int32)]) (st := []) (fs := fun ad => lr_fs7 t62 0 ad) C (lr_r_M_send hu65) lr_c7_126 lr_d_M_passComes_118 rfl rfl (fun _ _ => rfl) (ci := 7) rfl rfl ⟨by decide, by decide⟩ (Nat.le_of_ble_eq_true rfl) ?_
          refine lr_iconst (pc := 121) (v := 1) C lr_d_M_passComes_121 (by decide) ?_
          have e := Option.some.inj h
          subst e
          exact lr_iret C E lr_d_M_passComes_122 (by decide)
  · have h := lr_ps hc1 h
    refine lr_iconst (pc := 31) (v := 1) C lr_d_M_passComes_31 (by decide) ?_
    refine lr_goto (pc := 32) (tgt := 36) C lr_d_M_passComes_32 (by decide) ?_
    refine lr_aload_n (pc := 36) C lr_d_M_passComes_36 rfl 2 rfl ?_
    refine lr_g7_62 (pc := 37) C lr_d_M_passComes_37 ?_
    refine lr_iconst (pc := 40) (v := 3) C lr_d_M_passComes_40 (by decide) ?_
    refine lr_li40 (pc := 41) C lr_d_M_passComes_41 (by decide) ?_
    obtain ⟨u66, hu67, h⟩ := lr_bd h
    refine lr_callVi (pc := 42) (as := [.inl a1, .inl (1 : Int32), .inl (lr_rd t 40 0 (3 : Int32).toNatClampNeg)]) (st := []) (fs := fun ad => lr_fs7 t 0 ad) C (lr_r_M_find hu67) lr_c7_199 lr_d_M_passComes_42 rfl rfl (fun _ _ => rfl) (ci := 7) rfl rfl ⟨by decide, by decide⟩ (Nat.le_of_ble_eq_true rfl) ?_
    refine lr_istore (pc := 45) (ls' := [(5, .inl u66.1), (4, .inl ((lr_rd t 40 0 (5 : Int32).toNatClampNeg) - (lr_rd t 40 0 (5 : Int32).toNatClampNeg) / (4 : Int32) * (4 : Int32))), (3, .inl (((3 : Int32) * a1) + ((lr_rd t 40 0 (5 : Int32).toNatClampNeg) / (4 : Int32)))), (0, .inr (20, 0)), (1, .inl a1), (2, .inl a2)]) C lr_d_M_passComes_45 (by decide) rfl ?_
    refine lr_iload (pc := 47) C lr_d_M_passComes_47 1 rfl ?_
    refine lr_iload_n (pc := 49) C lr_d_M_passComes_49 rfl 4 rfl ?_
    refine lr_icmp_ne (pc := 50) (tgt := 60) C lr_d_M_passComes_50 (by decide) (fun hc => (by first | exact absurd hc hc1 | exact absurd hc1 hc | exact absurd hc (Int32.not_le.mpr hc1) | exact absurd hc1 (Int32.not_lt.mpr hc) | exact absurd (Int32.not_le.mp hc) hc1 | exact absurd (Int32.not_lt.mp hc) hc1 | exact absurd hc (Int32.not_lt.mpr hc1) | exact hc (Int32.not_lt.mp hc1) | exact hc (Int32.not_le.mp hc1) : False).elim) (fun _ => ?_)
    refine lr_iload (pc := 53) C lr_d_M_passComes_53 0 rfl ?_
    refine lr_if_ge (pc := 55) (tgt := 60) C lr_d_M_passComes_55 (by decide) (fun hc68 => ?_) (fun hc68 => ?_)
    · have h := lr_ps hc68 h
      refine lr_iload (pc := 60) C lr_d_M_passComes_60 0 rfl ?_
      refine lr_if_lt (pc := 62) (tgt := 123) C lr_d_M_passComes_62 (by decide) (fun hc => (by first | exact absurd hc hc68 | exact absurd hc68 hc | exact absurd hc (Int32.not_le.mpr hc68) | exact absurd hc68 (Int32.not_lt.mpr hc) | exact absurd (Int32.not_le.mp hc) hc68 | exact absurd (Int32.not_lt.mp hc) hc68 | exact absurd hc (Int32.not_lt.mpr hc68) | exact hc (Int32.not_lt.mp hc68) | exact hc (Int32.not_le.mp hc68) : False).elim) (fun _ => ?_)
      refine lr_iload (pc := 65) C lr_d_M_passComes_65 1 rfl ?_
      refine lr_iload_n (pc := 67) C lr_d_M_passComes_67 rfl 4 rfl ?_
      refine lr_icmp_eq (pc := 68) (tgt := 90) C lr_d_M_passComes_68 (by decide) (fun _ => ?_) (fun hc => (by first | exact absurd hc hc1 | exact absurd hc1 hc | exact absurd hc (Int32.not_le.mpr hc1) | exact absurd hc1 (Int32.not_lt.mpr hc) | exact absurd (Int32.not_le.mp hc) hc1 | exact absurd (Int32.not_lt.mp hc) hc1 | exact absurd hc (Int32.not_lt.mpr hc1) | exact hc (Int32.not_lt.mp hc1) | exact hc (Int32.not_le.mp hc1) : False).elim)
      refine lr_aload_n (pc := 90) C lr_d_M_passComes_90 rfl 3 rfl ?_
      refine lr_g7_13 (pc := 91) C lr_d_M_passComes_91 ?_
      refine lr_iload_n (pc := 94) C lr_d_M_passComes_94 rfl 2 rfl ?_
      refine lr_iload (pc := 95) C lr_d_M_passComes_95 0 rfl ?_
      refine lr_bipush (pc := 97) (v := 8) C lr_d_M_passComes_97 (by decide) ?_
      refine lr_irem (pc := 99) C lr_d_M_passComes_99 (by decide) ?_
      obtain ⟨hb69, h⟩ := lr_gd h
      refine lr_si22 (pc := 100) C lr_d_M_passComes_100 hb69 ?_
      obtain ⟨t70, ht71, h⟩ := lr_bd h
      rw [Option.some.inj ht71]
      refine lr_aload_n (pc := 101) C lr_d_M_passComes_101 rfl 3 rfl ?_
      refine lr_iconst (pc := 102) (v := 1) C lr_d_M_passComes_102 (by decide) ?_
      refine lr_iload_n (pc := 103) C lr_d_M_passComes_103 rfl 4 rfl ?_
      refine lr_iload_n (pc := 104) C lr_d_M_passComes_104 rfl 5 rfl ?_
      refine lr_aload_n (pc := 105) C lr_d_M_passComes_105 rfl 3 rfl ?_
      refine lr_g7_62 (pc := 106) C lr_d_M_passComes_106 ?_
      refine lr_iconst (pc := 109) (v := 3) C lr_d_M_passComes_109 (by decide) ?_
      refine lr_li40 (pc := 110) C lr_d_M_passComes_110 (by decide) ?_
      refine lr_aload_n (pc := 111) C lr_d_M_passComes_111 rfl 3 rfl ?_
      refine lr_g7_62 (pc := 112) C lr_d_M_passComes_112 ?_
      refine lr_iconst (pc := 115) (v := 4) C lr_d_M_passComes_115 (by decide) ?_
      refine lr_li40 (pc := 116) C lr_d_M_passComes_116 (by decide) ?_
      refine lr_iconst (pc := 117) (v := 0) C lr_d_M_passComes_117 (by decide) ?_
      obtain ⟨u72, hu73, h⟩ := lr_bd h
      refine lr_callVv (pc := 118) (as := [.inl (1 : Int32), .inl a1, .inl a2, .inl (lr_rd t70 40 0 (3 : Int32).toNatClampNeg), .inl (lr_rd t70 40 0 (4 : Int32).toNatClampNeg), .inl (0 : Int32)]) (st := []) (fs := fun ad => lr_fs7 t70 0 ad) C (lr_r_M_send hu73) lr_c7_126 lr_d_M_passComes_118 rfl rfl (fun _ _ => rfl) (ci := 7) rfl rfl ⟨by decide, by decide⟩ (Nat.le_of_ble_eq_true rfl) ?_
      refine lr_iconst (pc := 121) (v := 1) C lr_d_M_passComes_121 (by decide) ?_
      have e := Option.some.inj h
      subst e
      exact lr_iret C E lr_d_M_passComes_122 (by decide)
    · have h := lr_ng hc68 h
      refine lr_iconst (pc := 58) (v := 0) C lr_d_M_passComes_58 (by decide) ?_
      have e := Option.some.inj h
      subst e
      exact lr_iret C E lr_d_M_passComes_59 (by decide)
