set_option maxRecDepth 20000 in
set_option maxHeartbeats 4000000 in
theorem lr_lp_Network {D : va_G} {aC : Nat → ClassId} {q : Nat} {Y : lr_Y} (C : lr_UC Y prog_3_method_1_code lr_R1 2 (lr_crm lr_m_Network_init 33 224) D aC q) {fs : List Value} {T : List va_E} {c0 s0 b a1 : Nat} (hb : b = q + (T.length + 2)) (ha1 : a1 = q + (T.length + 1)) (hf : fs[2]? = some (.ref a1)) (hc : c0 + 1 * 32 ≤ 33) (hs : s0 + 6 * 32 ≤ 224) (kk : lr_U Y 50 [(1, .int (nI 32)), (0, .ref q)] [] ((.inr (1, fs) :: T) ++ .inl (aC 2, 32, lr_rs (fun j => some (b + 1 * j))) :: lr_bl (fun j => [lr_e_Message]) 32) (c0 + 1 * 32) (s0 + 6 * 32)) : ∀ d i : Nat, i + d = 32 → lr_U Y 25 [(1, .int (nI i)), (0, .ref q)] [] ((.inr (1, fs) :: T) ++ .inl (aC 2, 32, lr_rs (lr_fr b 1 i)) :: lr_bl (fun j => [lr_e_Message]) i) (c0 + 1 * i) (s0 + 6 * i) := by
  subst hb
  subst ha1
  intro d
  induction d with
  | zero =>
    intro i hi
    obtain rfl : i = 32 := by omega
    refine lr_u_iload C lr_d_Network_init_25 rfl 0 rfl ?_
    refine lr_u_bipush C (v := 32) lr_d_Network_init_26 rfl ?_
    refine lr_u_icmp_ge C (tgt := 50) lr_d_Network_init_28 rfl (fun _ => ?_) (fun h => absurd (by decide) h)
    exact lr_u_mid (lr_aeq_r (fun j hj => by simp [lr_fr, hj])) kk
  | succ d ih =>
    intro i hi
    have hbl : (lr_bl (fun j => [lr_e_Message]) i).length = 1 * i := lr_bl_len (sz := 1) (fun _ => rfl) i
    have hln : ((.inr (1, fs) :: T) ++ .inl (aC 2, 32, lr_rs (lr_fr (q + (T.length + 2)) 1 i)) :: lr_bl (fun j => [lr_e_Message]) i).length = T.length + 2 + 1 * i := by
      rw [List.length_append, List.length_cons, List.length_cons, hbl]
      omega
    have hla : q + (T.length + 2 + 1 * i) = (q + (T.length + 2)) + 1 * i := by omega
    refine lr_u_iload C lr_d_Network_init_25 rfl 0 rfl ?_
    refine lr_u_bipush C (v := 32) lr_d_Network_init_26 rfl ?_
    refine lr_u_icmp_ge C (tgt := 50) lr_d_Network_init_28 rfl (fun h => absurd h (lr_nle (x := 32) (m := 32) rfl (by omega) (by decide))) (fun _ => ?_)
    refine lr_u_aload C lr_d_Network_init_31 rfl 1 rfl ?_
    refine lr_u_get C lr_cok1 (j := 0) (k := 2) lr_d_Network_init_32 rfl rfl (by decide) lr_w_69 hf ?_
    refine lr_u_iload C lr_d_Network_init_35 rfl 0 rfl ?_
    refine lr_u_new C lr_cok0 (a := (q + (T.length + 2)) + 1 * i) (fs := [.int 0, .int 0, .int 0, .int 0, .int 0, .int 0]) (cells' := c0 + 1 * i + 1) (slots' := s0 + 6 * i + 6) lr_d_Network_init_36 lr_w_24 lr_w_26 lr_w_3 lr_z_Message (by show _ ≤ 33; omega) (by show _ ≤ 224; omega) rfl rfl (by rw [hln, hla]) rfl ?_
    refine lr_u_dup C lr_d_Network_init_39 rfl ?_
    refine lr_u_call0 C (M := lr_m_Message_init) (as := []) (e0 := lr_e_Message) (ws0 := ((.inr (1, fs) :: T) ++ .inl (aC 2, 32, lr_rs (lr_fr (q + (T.length + 2)) 1 i)) :: lr_bl (fun j => [lr_e_Message]) i)) (bs := [lr_e_Message]) (ws' := ((.inr (1, fs) :: T) ++ .inl (aC 2, 32, lr_rs (lr_fr (q + (T.length + 2)) 1 i)) :: (lr_bl (fun j => [lr_e_Message]) i ++ [lr_e_Message]))) (st := .ref ((q + (T.length + 2)) + 1 * i) :: [.int (nI i), .ref (q + (T.length + 1))]) (cells' := c0 + 1 * (i + 1)) (slots' := s0 + 6 * (i + 1)) (by rw [hln, hla]; exact lr_k_Message) rfl rfl lr_d_Network_init_40 (show lr_m_Message_init.1.cls ≠ "java/lang/invoke/MethodHandle" ∧ lr_m_Message_init.1.cls ≠ "java/lang/invoke/VarHandle" ∧ (parseMethodDescriptor lr_m_Message_init.1.desc).map (fun d => d.parameters.length) = some 0 from by decide +kernel) (Or.inr (by decide)) lr_w_28 lr_w_3 lr_w_29 (by decide) (Nat.le_of_ble_eq_true rfl) (by rw [hln, hla]) rfl rfl (by show _ ≤ 33; omega) (by show _ ≤ 224; omega) (by omega) (by omega) (by simp [List.append_assoc]) ?_
    refine lr_u_aast C (ci := 0) (r := (lr_R0, lr_F0, 6)) (j0 := (.inr (1, fs) :: T).length) (j1 := (.inr (1, fs) :: T).length + 1 + (lr_bl (fun j => [lr_e_Message]) i).length) (t0 := 2) (n := 32) (ws' := ((.inr (1, fs) :: T) ++ .inl (aC 2, 32, lr_rs (lr_fr (q + (T.length + 2)) 1 (i + 1))) :: lr_bl (fun j => [lr_e_Message]) (i + 1))) lr_d_Network_init_43 rfl lr_mid_get (fun _ => rfl) (by rw [hbl, List.length_cons]; omega) lr_tl_get rfl (lr_nvp (by omega) (by decide)) (by rw [lr_ncl (by omega), lr_fr_up, lr_mid_set]; rfl) ?_
    refine lr_u_iinc C (k := 0) (v := nI (i + 1)) (ls' := [(1, .int (nI (i + 1))), (0, .ref q)]) lr_d_Network_init_44 rfl (nI_1 i) (by decide) rfl ?_
    exact lr_u_goto C (tgt := 25) lr_d_Network_init_47 rfl (ih (i + 1) (by omega))
set_option maxRecDepth 20000 in
set_option maxHeartbeats 4000000 in
theorem lr_lp_Node1 {D : va_G} {aC : Nat → ClassId} {q : Nat} {Y : lr_Y} {nid : Int32} {net : Nat} (C : lr_UC Y prog_4_method_1_code lr_R2 4 (lr_crm lr_m_Node_init 48 261) D aC q) {fs : List Value} {T : List va_E} {c0 s0 b a1 : Nat} (hb : b = q + (T.length + 2)) (ha1 : a1 = q + (T.length + 1)) (hf : fs[2]? = some (.ref a1)) (hc : c0 + 4 * 8 ≤ 48) (hs : s0 + 23 * 8 ≤ 261) (kk : lr_U Y 50 [(3, .int (nI 8)), (0, .ref q), (1, .int nid), (2, .ref net)] [] ((.inr (2, fs) :: T) ++ .inl (aC 5, 8, lr_rs (fun j => some (b + 4 * j))) :: lr_bl (fun j => lr_slotB aC (b + 4 * j)) 8) (c0 + 4 * 8) (s0 + 23 * 8)) : ∀ d i : Nat, i + d = 8 → lr_U Y 25 [(3, .int (nI i)), (0, .ref q), (1, .int nid), (2, .ref net)] [] ((.inr (2, fs) :: T) ++ .inl (aC 5, 8, lr_rs (lr_fr b 4 i)) :: lr_bl (fun j => lr_slotB aC (b + 4 * j)) i) (c0 + 4 * i) (s0 + 23 * i) := by
  subst hb
  subst ha1
  intro d
  induction d with
  | zero =>
    intro i hi
    obtain rfl : i = 8 := by omega
    refine lr_u_iload C lr_d_Node_init_25 rfl 0 rfl ?_
    refine lr_u_bipush C (v := 8) lr_d_Node_init_26 rfl ?_
    refine lr_u_icmp_ge C (tgt := 50) lr_d_Node_init_28 rfl (fun _ => ?_) (fun h => absurd (by decide) h)
    exact lr_u_mid (lr_aeq_r (fun j hj => by simp [lr_fr, hj])) kk
  | succ d ih =>
    intro i hi
    have hbl : (lr_bl (fun j => lr_slotB aC ((q + (T.length + 2)) + 4 * j)) i).length = 4 * i := lr_bl_len (sz := 4) (fun _ => rfl) i
    have hln : ((.inr (2, fs) :: T) ++ .inl (aC 5, 8, lr_rs (lr_fr (q + (T.length + 2)) 4 i)) :: lr_bl (fun j => lr_slotB aC ((q + (T.length + 2)) + 4 * j)) i).length = T.length + 2 + 4 * i := by
      rw [List.length_append, List.length_cons, List.length_cons, hbl]
      omega
    have hla : q + (T.length + 2 + 4 * i) = (q + (T.length + 2)) + 4 * i := by omega
    refine lr_u_iload C lr_d_Node_init_25 rfl 0 rfl ?_
    refine lr_u_bipush C (v := 8) lr_d_Node_init_26 rfl ?_
    refine lr_u_icmp_ge C (tgt := 50) lr_d_Node_init_28 rfl (fun h => absurd h (lr_nle (x := 8) (m := 8) rfl (by omega) (by decide))) (fun _ => ?_)
    refine lr_u_aload C lr_d_Node_init_31 rfl 1 rfl ?_
    refine lr_u_get C lr_cok2 (j := 0) (k := 2) lr_d_Node_init_32 rfl rfl (by decide) lr_w_198 hf ?_
    refine lr_u_iload C lr_d_Node_init_35 rfl 0 rfl ?_
    refine lr_u_new C lr_cok5 (a := (q + (T.length + 2)) + 4 * i) (fs := [.int 0, .int 0, .int 0, .null, .null, .null, .int 0, .int 0, .int 0, .int 0, .int 0, .int 0, .int 0]) (cells' := c0 + 4 * i + 1) (slots' := s0 + 23 * i + 13) lr_d_Node_init_36 lr_w_85 lr_w_87 lr_w_5 lr_z_Slot (by show _ ≤ 48; omega) (by show _ ≤ 261; omega) rfl rfl (by rw [hln, hla]) rfl ?_
    refine lr_u_dup C lr_d_Node_init_39 rfl ?_
    refine lr_u_call0 C (M := lr_m_Slot_init) (as := []) (e0 := lr_e_Slot) (ws0 := ((.inr (2, fs) :: T) ++ .inl (aC 5, 8, lr_rs (lr_fr (q + (T.length + 2)) 4 i)) :: lr_bl (fun j => lr_slotB aC ((q + (T.length + 2)) + 4 * j)) i)) (bs := lr_slotB aC ((q + (T.length + 2)) + 4 * i)) (ws' := ((.inr (2, fs) :: T) ++ .inl (aC 5, 8, lr_rs (lr_fr (q + (T.length + 2)) 4 i)) :: (lr_bl (fun j => lr_slotB aC ((q + (T.length + 2)) + 4 * j)) i ++ lr_slotB aC ((q + (T.length + 2)) + 4 * i)))) (st := .ref ((q + (T.length + 2)) + 4 * i) :: [.int (nI i), .ref (q + (T.length + 1))]) (cells' := c0 + 4 * (i + 1)) (slots' := s0 + 23 * (i + 1)) (by rw [hln, hla]; exact lr_k_Slot) rfl rfl lr_d_Node_init_40 (show lr_m_Slot_init.1.cls ≠ "java/lang/invoke/MethodHandle" ∧ lr_m_Slot_init.1.cls ≠ "java/lang/invoke/VarHandle" ∧ (parseMethodDescriptor lr_m_Slot_init.1.desc).map (fun d => d.parameters.length) = some 0 from by decide +kernel) (Or.inl lr_w_88) lr_w_89 lr_w_5 lr_w_90 (by decide) (Nat.le_of_ble_eq_true rfl) (by rw [hln, hla]) rfl rfl (by show _ ≤ 48; omega) (by show _ ≤ 261; omega) (by omega) (by omega) (by simp [List.append_assoc]) ?_
    refine lr_u_aast C (ci := 5) (r := (lr_R5, lr_F5, 13)) (j0 := (.inr (2, fs) :: T).length) (j1 := (.inr (2, fs) :: T).length + 1 + (lr_bl (fun j => lr_slotB aC ((q + (T.length + 2)) + 4 * j)) i).length) (t0 := 5) (n := 8) (ws' := ((.inr (2, fs) :: T) ++ .inl (aC 5, 8, lr_rs (lr_fr (q + (T.length + 2)) 4 (i + 1))) :: lr_bl (fun j => lr_slotB aC ((q + (T.length + 2)) + 4 * j)) (i + 1))) lr_d_Node_init_43 rfl lr_mid_get (fun _ => rfl) (by rw [hbl, List.length_cons]; omega) lr_tl_get rfl (lr_nvp (by omega) (by decide)) (by rw [lr_ncl (by omega), lr_fr_up, lr_mid_set]; rfl) ?_
    refine lr_u_iinc C (k := 0) (v := nI (i + 1)) (ls' := [(3, .int (nI (i + 1))), (0, .ref q), (1, .int nid), (2, .ref net)]) lr_d_Node_init_44 rfl (nI_1 i) (by decide) rfl ?_
    exact lr_u_goto C (tgt := 25) lr_d_Node_init_47 rfl (ih (i + 1) (by omega))
set_option maxRecDepth 20000 in
set_option maxHeartbeats 4000000 in
theorem lr_lp_Node3 {D : va_G} {aC : Nat → ClassId} {q : Nat} {Y : lr_Y} {nid : Int32} {net : Nat} (C : lr_UC Y prog_4_method_1_code lr_R2 4 (lr_crm lr_m_Node_init 48 261) D aC q) {fs : List Value} {T : List va_E} {c0 s0 b a1 : Nat} (hb : b = q + (T.length + 2)) (ha1 : a1 = q + (T.length + 1)) (hf : fs[4]? = some (.ref a1)) (hc : c0 + 1 * 6 ≤ 48) (hs : s0 + 3 * 6 ≤ 261) (kk : lr_U Y 113 [(3, .int (nI 6)), (0, .ref q), (1, .int nid), (2, .ref net)] [] ((.inr (2, fs) :: T) ++ .inl (aC 4, 6, lr_rs (fun j => some (b + 1 * j))) :: lr_bl (fun j => [lr_e_Pin]) 6) (c0 + 1 * 6) (s0 + 3 * 6)) : ∀ d i : Nat, i + d = 6 → lr_U Y 88 [(3, .int (nI i)), (0, .ref q), (1, .int nid), (2, .ref net)] [] ((.inr (2, fs) :: T) ++ .inl (aC 4, 6, lr_rs (lr_fr b 1 i)) :: lr_bl (fun j => [lr_e_Pin]) i) (c0 + 1 * i) (s0 + 3 * i) := by
  subst hb
  subst ha1
  intro d
  induction d with
  | zero =>
    intro i hi
    obtain rfl : i = 6 := by omega
    refine lr_u_iload C lr_d_Node_init_88 rfl 0 rfl ?_
    refine lr_u_bipush C (v := 6) lr_d_Node_init_89 rfl ?_
    refine lr_u_icmp_ge C (tgt := 113) lr_d_Node_init_91 rfl (fun _ => ?_) (fun h => absurd (by decide) h)
    exact lr_u_mid (lr_aeq_r (fun j hj => by simp [lr_fr, hj])) kk
  | succ d ih =>
    intro i hi
    have hbl : (lr_bl (fun j => [lr_e_Pin]) i).length = 1 * i := lr_bl_len (sz := 1) (fun _ => rfl) i
    have hln : ((.inr (2, fs) :: T) ++ .inl (aC 4, 6, lr_rs (lr_fr (q + (T.length + 2)) 1 i)) :: lr_bl (fun j => [lr_e_Pin]) i).length = T.length + 2 + 1 * i := by
      rw [List.length_append, List.length_cons, List.length_cons, hbl]
      omega
    have hla : q + (T.length + 2 + 1 * i) = (q + (T.length + 2)) + 1 * i := by omega
    refine lr_u_iload C lr_d_Node_init_88 rfl 0 rfl ?_
    refine lr_u_bipush C (v := 6) lr_d_Node_init_89 rfl ?_
    refine lr_u_icmp_ge C (tgt := 113) lr_d_Node_init_91 rfl (fun h => absurd h (lr_nle (x := 6) (m := 6) rfl (by omega) (by decide))) (fun _ => ?_)
    refine lr_u_aload C lr_d_Node_init_94 rfl 1 rfl ?_
    refine lr_u_get C lr_cok2 (j := 0) (k := 4) lr_d_Node_init_95 rfl rfl (by decide) lr_w_202 hf ?_
    refine lr_u_iload C lr_d_Node_init_98 rfl 0 rfl ?_
    refine lr_u_new C lr_cok3 (a := (q + (T.length + 2)) + 1 * i) (fs := [.int 0, .int 0, .int 0]) (cells' := c0 + 1 * i + 1) (slots' := s0 + 3 * i + 3) lr_d_Node_init_99 lr_w_147 lr_w_149 lr_w_6 lr_z_Pin (by show _ ≤ 48; omega) (by show _ ≤ 261; omega) rfl rfl (by rw [hln, hla]) rfl ?_
    refine lr_u_dup C lr_d_Node_init_102 rfl ?_
    refine lr_u_call0 C (M := lr_m_Pin_init) (as := []) (e0 := lr_e_Pin) (ws0 := ((.inr (2, fs) :: T) ++ .inl (aC 4, 6, lr_rs (lr_fr (q + (T.length + 2)) 1 i)) :: lr_bl (fun j => [lr_e_Pin]) i)) (bs := [lr_e_Pin]) (ws' := ((.inr (2, fs) :: T) ++ .inl (aC 4, 6, lr_rs (lr_fr (q + (T.length + 2)) 1 i)) :: (lr_bl (fun j => [lr_e_Pin]) i ++ [lr_e_Pin]))) (st := .ref ((q + (T.length + 2)) + 1 * i) :: [.int (nI i), .ref (q + (T.length + 1))]) (cells' := c0 + 1 * (i + 1)) (slots' := s0 + 3 * (i + 1)) (by rw [hln, hla]; exact lr_k_Pin) rfl rfl lr_d_Node_init_103 (show lr_m_Pin_init.1.cls ≠ "java/lang/invoke/MethodHandle" ∧ lr_m_Pin_init.1.cls ≠ "java/lang/invoke/VarHandle" ∧ (parseMethodDescriptor lr_m_Pin_init.1.desc).map (fun d => d.parameters.length) = some 0 from by decide +kernel) (Or.inr (by decide)) lr_w_151 lr_w_6 lr_w_152 (by decide) (Nat.le_of_ble_eq_true rfl) (by rw [hln, hla]) rfl rfl (by show _ ≤ 48; omega) (by show _ ≤ 261; omega) (by omega) (by omega) (by simp [List.append_assoc]) ?_
    refine lr_u_aast C (ci := 3) (r := (lr_R3, lr_F3, 3)) (j0 := (.inr (2, fs) :: T).length) (j1 := (.inr (2, fs) :: T).length + 1 + (lr_bl (fun j => [lr_e_Pin]) i).length) (t0 := 4) (n := 6) (ws' := ((.inr (2, fs) :: T) ++ .inl (aC 4, 6, lr_rs (lr_fr (q + (T.length + 2)) 1 (i + 1))) :: lr_bl (fun j => [lr_e_Pin]) (i + 1))) lr_d_Node_init_106 rfl lr_mid_get (fun _ => rfl) (by rw [hbl, List.length_cons]; omega) lr_tl_get rfl (lr_nvp (by omega) (by decide)) (by rw [lr_ncl (by omega), lr_fr_up, lr_mid_set]; rfl) ?_
    refine lr_u_iinc C (k := 0) (v := nI (i + 1)) (ls' := [(3, .int (nI (i + 1))), (0, .ref q), (1, .int nid), (2, .ref net)]) lr_d_Node_init_107 rfl (nI_1 i) (by decide) rfl ?_
    exact lr_u_goto C (tgt := 88) lr_d_Node_init_110 rfl (ih (i + 1) (by omega))
set_option maxRecDepth 20000 in
set_option maxHeartbeats 4000000 in
theorem lr_lp_Node4 {D : va_G} {aC : Nat → ClassId} {q : Nat} {Y : lr_Y} {nid : Int32} {net : Nat} (C : lr_UC Y prog_4_method_1_code lr_R2 4 (lr_crm lr_m_Node_init 48 261) D aC q) {fs : List Value} {T : List va_E} {c0 s0 b a1 : Nat} (hb : b = q + (T.length + 2)) (ha1 : a1 = q + (T.length + 1)) (hf : fs[6]? = some (.ref a1)) (hc : c0 + 1 * 4 ≤ 48) (hs : s0 + 6 * 4 ≤ 261) (kk : lr_U Y 166 [(3, .int (nI 4)), (0, .ref q), (1, .int nid), (2, .ref net)] [] ((.inr (2, fs) :: T) ++ .inl (aC 2, 4, lr_rs (fun j => some (b + 1 * j))) :: lr_bl (fun j => [lr_e_Message]) 4) (c0 + 1 * 4) (s0 + 6 * 4)) : ∀ d i : Nat, i + d = 4 → lr_U Y 142 [(3, .int (nI i)), (0, .ref q), (1, .int nid), (2, .ref net)] [] ((.inr (2, fs) :: T) ++ .inl (aC 2, 4, lr_rs (lr_fr b 1 i)) :: lr_bl (fun j => [lr_e_Message]) i) (c0 + 1 * i) (s0 + 6 * i) := by
  subst hb
  subst ha1
  intro d
  induction d with
  | zero =>
    intro i hi
    obtain rfl : i = 4 := by omega
    refine lr_u_iload C lr_d_Node_init_142 rfl 0 rfl ?_
    refine lr_u_iconst C (v := 4) lr_d_Node_init_143 rfl ?_
    refine lr_u_icmp_ge C (tgt := 166) lr_d_Node_init_144 rfl (fun _ => ?_) (fun h => absurd (by decide) h)
    exact lr_u_mid (lr_aeq_r (fun j hj => by simp [lr_fr, hj])) kk
  | succ d ih =>
    intro i hi
    have hbl : (lr_bl (fun j => [lr_e_Message]) i).length = 1 * i := lr_bl_len (sz := 1) (fun _ => rfl) i
    have hln : ((.inr (2, fs) :: T) ++ .inl (aC 2, 4, lr_rs (lr_fr (q + (T.length + 2)) 1 i)) :: lr_bl (fun j => [lr_e_Message]) i).length = T.length + 2 + 1 * i := by
      rw [List.length_append, List.length_cons, List.length_cons, hbl]
      omega
    have hla : q + (T.length + 2 + 1 * i) = (q + (T.length + 2)) + 1 * i := by omega
    refine lr_u_iload C lr_d_Node_init_142 rfl 0 rfl ?_
    refine lr_u_iconst C (v := 4) lr_d_Node_init_143 rfl ?_
    refine lr_u_icmp_ge C (tgt := 166) lr_d_Node_init_144 rfl (fun h => absurd h (lr_nle (x := 4) (m := 4) rfl (by omega) (by decide))) (fun _ => ?_)
    refine lr_u_aload C lr_d_Node_init_147 rfl 1 rfl ?_
    refine lr_u_get C lr_cok2 (j := 0) (k := 6) lr_d_Node_init_148 rfl rfl (by decide) lr_w_205 hf ?_
    refine lr_u_iload C lr_d_Node_init_151 rfl 0 rfl ?_
    refine lr_u_new C lr_cok0 (a := (q + (T.length + 2)) + 1 * i) (fs := [.int 0, .int 0, .int 0, .int 0, .int 0, .int 0]) (cells' := c0 + 1 * i + 1) (slots' := s0 + 6 * i + 6) lr_d_Node_init_152 lr_w_194 lr_w_26 lr_w_3 lr_z_Message (by show _ ≤ 48; omega) (by show _ ≤ 261; omega) rfl rfl (by rw [hln, hla]) rfl ?_
    refine lr_u_dup C lr_d_Node_init_155 rfl ?_
    refine lr_u_call0 C (M := lr_m_Message_init) (as := []) (e0 := lr_e_Message) (ws0 := ((.inr (2, fs) :: T) ++ .inl (aC 2, 4, lr_rs (lr_fr (q + (T.length + 2)) 1 i)) :: lr_bl (fun j => [lr_e_Message]) i)) (bs := [lr_e_Message]) (ws' := ((.inr (2, fs) :: T) ++ .inl (aC 2, 4, lr_rs (lr_fr (q + (T.length + 2)) 1 i)) :: (lr_bl (fun j => [lr_e_Message]) i ++ [lr_e_Message]))) (st := .ref ((q + (T.length + 2)) + 1 * i) :: [.int (nI i), .ref (q + (T.length + 1))]) (cells' := c0 + 1 * (i + 1)) (slots' := s0 + 6 * (i + 1)) (by rw [hln, hla]; exact lr_k_Message) rfl rfl lr_d_Node_init_156 (show lr_m_Message_init.1.cls ≠ "java/lang/invoke/MethodHandle" ∧ lr_m_Message_init.1.cls ≠ "java/lang/invoke/VarHandle" ∧ (parseMethodDescriptor lr_m_Message_init.1.desc).map (fun d => d.parameters.length) = some 0 from by decide +kernel) (Or.inr (by decide)) lr_w_28 lr_w_3 lr_w_29 (by decide) (Nat.le_of_ble_eq_true rfl) (by rw [hln, hla]) rfl rfl (by show _ ≤ 48; omega) (by show _ ≤ 261; omega) (by omega) (by omega) (by simp [List.append_assoc]) ?_
    refine lr_u_aast C (ci := 0) (r := (lr_R0, lr_F0, 6)) (j0 := (.inr (2, fs) :: T).length) (j1 := (.inr (2, fs) :: T).length + 1 + (lr_bl (fun j => [lr_e_Message]) i).length) (t0 := 2) (n := 4) (ws' := ((.inr (2, fs) :: T) ++ .inl (aC 2, 4, lr_rs (lr_fr (q + (T.length + 2)) 1 (i + 1))) :: lr_bl (fun j => [lr_e_Message]) (i + 1))) lr_d_Node_init_159 rfl lr_mid_get (fun _ => rfl) (by rw [hbl, List.length_cons]; omega) lr_tl_get rfl (lr_nvp (by omega) (by decide)) (by rw [lr_ncl (by omega), lr_fr_up, lr_mid_set]; rfl) ?_
    refine lr_u_iinc C (k := 0) (v := nI (i + 1)) (ls' := [(3, .int (nI (i + 1))), (0, .ref q), (1, .int nid), (2, .ref net)]) lr_d_Node_init_160 rfl (nI_1 i) (by decide) rfl ?_
    exact lr_u_goto C (tgt := 142) lr_d_Node_init_163 rfl (ih (i + 1) (by omega))
set_option maxRecDepth 20000 in
set_option maxHeartbeats 4000000 in
theorem lr_lp_Node2 {D : va_G} {aC : Nat → ClassId} {q : Nat} {Y : lr_Y} {nid : Int32} {net : Nat} (C : lr_UC Y prog_4_method_1_code lr_R2 4 (lr_crm lr_m_Node_init 48 261) D aC q) {fs : List Value} {T : List va_E} {c0 s0 : Nat} {a1 : Nat} (ha1 : a1 = q + (T.length + 1)) (hf : fs[3]? = some (.ref a1)) (kk : lr_U Y 77 [(3, .int (nI 3)), (0, .ref q), (1, .int nid), (2, .ref net)] [] ((.inr (2, fs) :: T) ++ [.inl (aC 0, 3, .inl (lr_fi 3))]) c0 s0) : ∀ d i : Nat, i + d = 3 → lr_U Y 59 [(3, .int (nI i)), (0, .ref q), (1, .int nid), (2, .ref net)] [] ((.inr (2, fs) :: T) ++ [.inl (aC 0, 3, .inl (lr_fi i))]) c0 s0 := by
  subst ha1
  intro d
  induction d with
  | zero =>
    intro i hi
    obtain rfl : i = 3 := by omega
    refine lr_u_iload C lr_d_Node_init_59 rfl 0 rfl ?_
    refine lr_u_iconst C (v := 3) lr_d_Node_init_60 rfl ?_
    exact lr_u_icmp_ge C (tgt := 77) lr_d_Node_init_61 rfl (fun _ => kk) (fun h => absurd (by decide) h)
  | succ d ih =>
    intro i hi
    refine lr_u_iload C lr_d_Node_init_59 rfl 0 rfl ?_
    refine lr_u_iconst C (v := 3) lr_d_Node_init_60 rfl ?_
    refine lr_u_icmp_ge C (tgt := 77) lr_d_Node_init_61 rfl (fun h => absurd h (lr_nle (x := 3) (m := 3) rfl (by omega) (by decide))) (fun _ => ?_)
    refine lr_u_aload C lr_d_Node_init_64 rfl 1 rfl ?_
    refine lr_u_get C lr_cok2 (j := 0) (k := 3) lr_d_Node_init_65 rfl rfl (by decide) lr_w_200 hf ?_
    refine lr_u_iload C lr_d_Node_init_68 rfl 0 rfl ?_
    refine lr_u_iconst C (v := -1) lr_d_Node_init_69 rfl ?_
    refine lr_u_iast C (j0 := (.inr (2, fs) :: T : List va_E).length) (ws' := ((.inr (2, fs) :: T) ++ [.inl (aC 0, 3, .inl (lr_fi (i + 1)))])) lr_d_Node_init_70 rfl lr_mid_get (lr_nvp (by omega) (by decide)) (by rw [lr_ncl (by omega), lr_fi_up, lr_mid_set]) ?_
    refine lr_u_iinc C (k := 0) (v := nI (i + 1)) (ls' := [(3, .int (nI (i + 1))), (0, .ref q), (1, .int nid), (2, .ref net)]) lr_d_Node_init_71 rfl (nI_1 i) (by decide) rfl ?_
    exact lr_u_goto C (tgt := 59) lr_d_Node_init_74 rfl (ih (i + 1) (by omega))
def lr_netB (aC : Nat → ClassId) (q : Nat) : List va_E := [.inr (1, [.int 0, .int 0, .ref (q + 1)])] ++ .inl (aC 2, 32, lr_rs (fun j => some ((q + 2) + 1 * j))) :: lr_bl (fun _ => [lr_e_Message]) 32
set_option maxRecDepth 20000 in
set_option maxHeartbeats 4000000 in
theorem lr_k_Network {D : va_G} {aC : Nat → ClassId} {q : Nat} : lr_RC lr_m_Network_init 33 224 [] lr_e_Network D aC q (lr_netB aC q) := by
  refine lr_u_of (own := lr_R1) (ls := [(0, .ref q)]) (by decide) rfl rfl rfl (Nat.le_of_ble_eq_true rfl) rfl (fun Y C E => ?_)
  refine lr_u_aload C lr_d_Network_init_0 rfl 0 rfl ?_
  refine lr_u_obj C lr_d_Network_init_1 lr_w_23 lr_w_16 lr_w_17 (by decide) (by decide) ?_
  refine lr_u_aload C lr_d_Network_init_4 rfl 0 rfl ?_
  refine lr_u_iconst C (v := 0) lr_d_Network_init_5 rfl ?_
  refine lr_u_put C lr_cok1 (j := 0) (k := 0) (ws' := [.inr (1, [.int 0, .int 0, .null])]) lr_d_Network_init_6 rfl rfl (by decide) lr_w_64 rfl rfl rfl (Nat.le_of_ble_eq_true rfl) rfl ?_
  refine lr_u_aload C lr_d_Network_init_9 rfl 0 rfl ?_
  refine lr_u_iconst C (v := 0) lr_d_Network_init_10 rfl ?_
  refine lr_u_put C lr_cok1 (j := 0) (k := 1) (ws' := [.inr (1, [.int 0, .int 0, .null])]) lr_d_Network_init_11 rfl rfl (by decide) lr_w_67 rfl rfl rfl (Nat.le_of_ble_eq_true rfl) rfl ?_
  refine lr_u_aload C lr_d_Network_init_14 rfl 0 rfl ?_
  refine lr_u_bipush C (v := 32) lr_d_Network_init_15 rfl ?_
  refine lr_u_anew C (a := (q + 1)) (t0 := 2) (n := 32) (C1 := lr_R0) (ws' := [.inr (1, [.int 0, .int 0, .null]), .inl (aC 2, 32, lr_rs (fun _ => none))]) (cells' := 1) (slots' := 32) lr_d_Network_init_17 lr_w_24 (by decide) (fun _ => rfl) (by decide) (by decide) (by decide) (by decide) (by decide) rfl rfl rfl rfl ?_
  refine lr_u_putF C lr_cok1 (j := 0) (k := 2) (ws' := [.inr (1, [.int 0, .int 0, .ref (q + 1)]), .inl (aC 2, 32, lr_rs (fun _ => none))]) lr_d_Network_init_20 rfl rfl (by decide) lr_w_69 rfl rfl rfl rfl (Nat.le_of_ble_eq_true rfl) rfl ?_
  refine lr_u_iconst C (v := 0) lr_d_Network_init_23 rfl ?_
  refine lr_u_istore C lr_d_Network_init_24 rfl (by decide) (ls' := [(1, .int 0), (0, .ref q)]) rfl ?_
  refine lr_u_cast (ws' := ([.inr (1, [.int 0, .int 0, .ref (q + 1)])] ++ .inl (aC 2, 32, lr_rs (lr_fr (q + 2) 1 0)) :: lr_bl (fun _ => [lr_e_Message]) 0)) (by rw [lr_fr_0]; rfl) rfl rfl rfl rfl ?_
  exact lr_lp_Network C (T := []) (c0 := 1) (s0 := 32) rfl rfl rfl (by decide) (by decide) (lr_u_ret C E lr_d_Network_init_50) 32 0 rfl
set_option maxRecDepth 20000 in
set_option maxHeartbeats 4000000 in
theorem lr_ph_Node2 {D : va_G} {aC : Nat → ClassId} {q : Nat} {Y : lr_Y} {nid : Int32} {net : Nat} (C : lr_UC Y prog_4_method_1_code lr_R2 4 (lr_crm lr_m_Node_init 48 261) D aC q) {T : List va_E} (hT : T.length = 33) (kk : lr_U Y 59 [(3, .int 0), (0, .ref q), (1, .int nid), (2, .ref net)] [] (.inr (2, [.int nid, .ref net, .ref (q + 1), .ref (q + 34), .null, .null, .null, .null, .int 0, .int 0]) :: (T ++ [.inl (aC 0, 3, .inl (fun _ => 0))])) 34 195) : lr_U Y 50 [(3, .int (nI 8)), (0, .ref q), (1, .int nid), (2, .ref net)] [] (.inr (2, [.int nid, .ref net, .ref (q + 1), .null, .null, .null, .null, .null, .int 0, .int 0]) :: T) 33 192 := by
  refine lr_u_aload C lr_d_Node_init_50 rfl 1 rfl ?_
  refine lr_u_iconst C (v := 3) lr_d_Node_init_51 rfl ?_
  refine lr_u_newa C (a := (q + 34)) (t0 := 0) (n := 3) (ws' := (.inr (2, [.int nid, .ref net, .ref (q + 1), .null, .null, .null, .null, .null, .int 0, .int 0]) :: (T ++ [.inl (aC 0, 3, .inl (fun _ => 0))]))) (cells' := 34) (slots' := 195) lr_d_Node_init_52 rfl lr_w_146 (fun _ => rfl) (fun _ _ => rfl) rfl (by decide) (by decide) (by decide) (by decide) (by decide) rfl rfl (by simp [hT]) (by simp) ?_
  refine lr_u_putF C lr_cok2 (j := 0) (k := 3) (ws' := (.inr (2, [.int nid, .ref net, .ref (q + 1), .ref (q + 34), .null, .null, .null, .null, .int 0, .int 0]) :: (T ++ [.inl (aC 0, 3, .inl (fun _ => 0))]))) lr_d_Node_init_54 rfl rfl (by decide) lr_w_200 rfl rfl rfl rfl (Nat.le_of_ble_eq_true rfl) rfl ?_
  refine lr_u_iconst C (v := 0) lr_d_Node_init_57 rfl ?_
  refine lr_u_istore C lr_d_Node_init_58 rfl (by decide) (ls' := [(3, .int 0), (0, .ref q), (1, .int nid), (2, .ref net)]) rfl ?_
  exact kk
set_option maxRecDepth 20000 in
set_option maxHeartbeats 4000000 in
theorem lr_ph_Node3 {D : va_G} {aC : Nat → ClassId} {q : Nat} {Y : lr_Y} {nid : Int32} {net : Nat} (C : lr_UC Y prog_4_method_1_code lr_R2 4 (lr_crm lr_m_Node_init 48 261) D aC q) {T : List va_E} (hT : T.length = 34) (kk : lr_U Y 88 [(3, .int 0), (0, .ref q), (1, .int nid), (2, .ref net)] [] (.inr (2, [.int nid, .ref net, .ref (q + 1), .ref (q + 34), .ref (q + 35), .null, .null, .null, .int 0, .int 0]) :: (T ++ [.inl (aC 4, 6, lr_rs (fun _ => none))])) 35 201) : lr_U Y 77 [(3, .int (nI 3)), (0, .ref q), (1, .int nid), (2, .ref net)] [] (.inr (2, [.int nid, .ref net, .ref (q + 1), .ref (q + 34), .null, .null, .null, .null, .int 0, .int 0]) :: T) 34 195 := by
  refine lr_u_aload C lr_d_Node_init_77 rfl 1 rfl ?_
  refine lr_u_bipush C (v := 6) lr_d_Node_init_78 rfl ?_
  refine lr_u_anew C (a := (q + 35)) (t0 := 4) (n := 6) (C1 := lr_R3) (ws' := (.inr (2, [.int nid, .ref net, .ref (q + 1), .ref (q + 34), .null, .null, .null, .null, .int 0, .int 0]) :: (T ++ [.inl (aC 4, 6, lr_rs (fun _ => none))]))) (cells' := 35) (slots' := 201) lr_d_Node_init_80 lr_w_147 (by decide) (fun _ => rfl) (by decide) (by decide) (by decide) (by decide) (by decide) rfl rfl (by simp [hT]) (by simp) ?_
  refine lr_u_putF C lr_cok2 (j := 0) (k := 4) (ws' := (.inr (2, [.int nid, .ref net, .ref (q + 1), .ref (q + 34), .ref (q + 35), .null, .null, .null, .int 0, .int 0]) :: (T ++ [.inl (aC 4, 6, lr_rs (fun _ => none))]))) lr_d_Node_init_83 rfl rfl (by decide) lr_w_202 rfl rfl rfl rfl (Nat.le_of_ble_eq_true rfl) rfl ?_
  refine lr_u_iconst C (v := 0) lr_d_Node_init_86 rfl ?_
  refine lr_u_istore C lr_d_Node_init_87 rfl (by decide) (ls' := [(3, .int 0), (0, .ref q), (1, .int nid), (2, .ref net)]) rfl ?_
  exact kk
set_option maxRecDepth 20000 in
set_option maxHeartbeats 4000000 in
theorem lr_ph_Node4 {D : va_G} {aC : Nat → ClassId} {q : Nat} {Y : lr_Y} {nid : Int32} {net : Nat} (C : lr_UC Y prog_4_method_1_code lr_R2 4 (lr_crm lr_m_Node_init 48 261) D aC q) {T : List va_E} (hT : T.length = 41) (kk : lr_U Y 142 [(3, .int 0), (0, .ref q), (1, .int nid), (2, .ref net)] [] (.inr (2, [.int nid, .ref net, .ref (q + 1), .ref (q + 34), .ref (q + 35), .ref (q + 42), .ref (q + 43), .null, .int 0, .int 0]) :: (T ++ [lr_e_Request, .inl (aC 2, 4, lr_rs (fun _ => none))])) 43 229) : lr_U Y 113 [(3, .int (nI 6)), (0, .ref q), (1, .int nid), (2, .ref net)] [] (.inr (2, [.int nid, .ref net, .ref (q + 1), .ref (q + 34), .ref (q + 35), .null, .null, .null, .int 0, .int 0]) :: T) 41 219 := by
  refine lr_u_aload C lr_d_Node_init_113 rfl 1 rfl ?_
  refine lr_u_new C lr_cok4 (a := (q + 42)) (fs := [.int 0, .int 0, .int 0, .int 0, .int 0, .int 0]) (ws' := (.inr (2, [.int nid, .ref net, .ref (q + 1), .ref (q + 34), .ref (q + 35), .null, .null, .null, .int 0, .int 0]) :: (T ++ [lr_e_Request]))) (cells' := 42) (slots' := 225) lr_d_Node_init_114 lr_w_164 lr_w_165 lr_w_7 lr_z_Request (by decide) (by decide) rfl rfl (by simp [hT]) (by simp) ?_
  refine lr_u_dup C lr_d_Node_init_117 rfl ?_
  refine lr_u_call0 C (M := lr_m_Request_init) (as := []) (e0 := lr_e_Request) (ws0 := (.inr (2, [.int nid, .ref net, .ref (q + 1), .ref (q + 34), .ref (q + 35), .null, .null, .null, .int 0, .int 0]) :: T)) (bs := [lr_e_Request]) (ws' := (.inr (2, [.int nid, .ref net, .ref (q + 1), .ref (q + 34), .ref (q + 35), .null, .null, .null, .int 0, .int 0]) :: (T ++ [lr_e_Request]))) (st := [.ref (q + 42), .ref q]) (cells' := 42) (slots' := 225) (lr_k_Request) rfl rfl lr_d_Node_init_118 (by decide +kernel) (Or.inr (by decide)) lr_w_167 lr_w_7 lr_w_168 (by decide) (Nat.le_of_ble_eq_true rfl) (by simp [hT]) (by simp) rfl (by decide) (by decide) rfl rfl (by simp) ?_
  refine lr_u_putF C lr_cok2 (j := 0) (k := 5) (ws' := (.inr (2, [.int nid, .ref net, .ref (q + 1), .ref (q + 34), .ref (q + 35), .ref (q + 42), .null, .null, .int 0, .int 0]) :: (T ++ [lr_e_Request]))) lr_d_Node_init_121 rfl rfl (by decide) lr_w_203 rfl rfl rfl rfl (Nat.le_of_ble_eq_true rfl) rfl ?_
  refine lr_u_aload C lr_d_Node_init_124 rfl 1 rfl ?_
  refine lr_u_get C lr_cok2 (j := 0) (k := 5) lr_d_Node_init_125 rfl rfl (by decide) lr_w_203 rfl ?_
  refine lr_u_iconst C (v := 0) lr_d_Node_init_128 rfl ?_
  refine lr_u_put C lr_cok4 (j := ((.inr (2, [.int nid, .ref net, .ref (q + 1), .ref (q + 34), .ref (q + 35), .ref (q + 42), .null, .null, .int 0, .int 0]) : va_E) :: T).length) (k := 0) (ws' := (.inr (2, [.int nid, .ref net, .ref (q + 1), .ref (q + 34), .ref (q + 35), .ref (q + 42), .null, .null, .int 0, .int 0]) :: (T ++ [lr_e_Request]))) lr_d_Node_init_129 (by simp [hT]) (lr_mid_get (A := .inr (2, [.int nid, .ref net, .ref (q + 1), .ref (q + 34), .ref (q + 35), .ref (q + 42), .null, .null, .int 0, .int 0]) :: T) (Z := [])) (by decide) lr_w_170 rfl rfl rfl (Nat.le_of_ble_eq_true rfl) (lr_mid_set (A := .inr (2, [.int nid, .ref net, .ref (q + 1), .ref (q + 34), .ref (q + 35), .ref (q + 42), .null, .null, .int 0, .int 0]) :: T) (Z := [])) ?_
  refine lr_u_aload C lr_d_Node_init_132 rfl 1 rfl ?_
  refine lr_u_iconst C (v := 4) lr_d_Node_init_133 rfl ?_
  refine lr_u_anew C (a := (q + 43)) (t0 := 2) (n := 4) (C1 := lr_R0) (ws' := (.inr (2, [.int nid, .ref net, .ref (q + 1), .ref (q + 34), .ref (q + 35), .ref (q + 42), .null, .null, .int 0, .int 0]) :: (T ++ [lr_e_Request, .inl (aC 2, 4, lr_rs (fun _ => none))]))) (cells' := 43) (slots' := 229) lr_d_Node_init_134 lr_w_194 (by decide) (fun _ => rfl) (by decide) (by decide) (by decide) (by decide) (by decide) rfl rfl (by simp [hT]) (by simp) ?_
  refine lr_u_putF C lr_cok2 (j := 0) (k := 6) (ws' := (.inr (2, [.int nid, .ref net, .ref (q + 1), .ref (q + 34), .ref (q + 35), .ref (q + 42), .ref (q + 43), .null, .int 0, .int 0]) :: (T ++ [lr_e_Request, .inl (aC 2, 4, lr_rs (fun _ => none))]))) lr_d_Node_init_137 rfl rfl (by decide) lr_w_205 rfl rfl rfl rfl (Nat.le_of_ble_eq_true rfl) rfl ?_
  refine lr_u_iconst C (v := 0) lr_d_Node_init_140 rfl ?_
  refine lr_u_istore C lr_d_Node_init_141 rfl (by decide) (ls' := [(3, .int 0), (0, .ref q), (1, .int nid), (2, .ref net)]) rfl ?_
  exact kk
set_option maxRecDepth 20000 in
set_option maxHeartbeats 4000000 in
theorem lr_ph_Node5 {D : va_G} {aC : Nat → ClassId} {q : Nat} {Y : lr_Y} {nid : Int32} {net : Nat} (C : lr_UC Y prog_4_method_1_code lr_R2 4 (lr_crm lr_m_Node_init 48 261) D aC q) {T : List va_E} (hT : T.length = 47) (E : lr_UE Y (.inr (2, [.int nid, .ref net, .ref (q + 1), .ref (q + 34), .ref (q + 35), .ref (q + 42), .ref (q + 43), .ref (q + 48), .int 0, .int 0]) :: (T ++ [.inl (aC 1, 8, .inl (fun _ => 0))])) 48 261) : lr_U Y 166 [(3, .int (nI 4)), (0, .ref q), (1, .int nid), (2, .ref net)] [] (.inr (2, [.int nid, .ref net, .ref (q + 1), .ref (q + 34), .ref (q + 35), .ref (q + 42), .ref (q + 43), .null, .int 0, .int 0]) :: T) 47 253 := by
  refine lr_u_aload C lr_d_Node_init_166 rfl 1 rfl ?_
  refine lr_u_bipush C (v := 8) lr_d_Node_init_167 rfl ?_
  refine lr_u_newa C (a := (q + 48)) (t0 := 1) (n := 8) (ws' := (.inr (2, [.int nid, .ref net, .ref (q + 1), .ref (q + 34), .ref (q + 35), .ref (q + 42), .ref (q + 43), .null, .int 0, .int 0]) :: (T ++ [.inl (aC 1, 8, .inl (fun _ => 0))]))) (cells' := 48) (slots' := 261) lr_d_Node_init_169 rfl lr_w_231 (fun _ => rfl) (fun _ _ => rfl) rfl (by decide) (by decide) (by decide) (by decide) (by decide) rfl rfl (by simp [hT]) (by simp) ?_
  refine lr_u_putF C lr_cok2 (j := 0) (k := 7) (ws' := (.inr (2, [.int nid, .ref net, .ref (q + 1), .ref (q + 34), .ref (q + 35), .ref (q + 42), .ref (q + 43), .ref (q + 48), .int 0, .int 0]) :: (T ++ [.inl (aC 1, 8, .inl (fun _ => 0))]))) lr_d_Node_init_171 rfl rfl (by decide) lr_w_206 rfl rfl rfl rfl (Nat.le_of_ble_eq_true rfl) rfl ?_
  refine lr_u_aload C lr_d_Node_init_174 rfl 1 rfl ?_
  refine lr_u_iconst C (v := 0) lr_d_Node_init_175 rfl ?_
  refine lr_u_put C lr_cok2 (j := 0) (k := 8) (ws' := (.inr (2, [.int nid, .ref net, .ref (q + 1), .ref (q + 34), .ref (q + 35), .ref (q + 42), .ref (q + 43), .ref (q + 48), .int 0, .int 0]) :: (T ++ [.inl (aC 1, 8, .inl (fun _ => 0))]))) lr_d_Node_init_176 rfl rfl (by decide) lr_w_207 rfl rfl rfl (Nat.le_of_ble_eq_true rfl) rfl ?_
  refine lr_u_aload C lr_d_Node_init_179 rfl 1 rfl ?_
  refine lr_u_iconst C (v := 0) lr_d_Node_init_180 rfl ?_
  refine lr_u_put C lr_cok2 (j := 0) (k := 9) (ws' := (.inr (2, [.int nid, .ref net, .ref (q + 1), .ref (q + 34), .ref (q + 35), .ref (q + 42), .ref (q + 43), .ref (q + 48), .int 0, .int 0]) :: (T ++ [.inl (aC 1, 8, .inl (fun _ => 0))]))) lr_d_Node_init_181 rfl rfl (by decide) lr_w_208 rfl rfl rfl (Nat.le_of_ble_eq_true rfl) rfl ?_
  exact lr_u_ret C E lr_d_Node_init_184
def lr_nodT1 (aC : Nat → ClassId) (q : Nat) : List va_E := .inl (aC 5, 8, lr_rs (fun j => some ((q + 2) + 4 * j))) :: lr_bl (fun j => lr_slotB aC (q + 2 + 4 * j)) 8
def lr_nodT2 (aC : Nat → ClassId) (q : Nat) : List va_E := lr_nodT1 aC q ++ [.inl (aC 0, 3, .inl (lr_fi 3))]
def lr_nodT3 (aC : Nat → ClassId) (q : Nat) : List va_E := lr_nodT2 aC q ++ .inl (aC 4, 6, lr_rs (fun j => some ((q + 36) + 1 * j))) :: lr_bl (fun _ => [lr_e_Pin]) 6
def lr_nodT4 (aC : Nat → ClassId) (q : Nat) : List va_E := (lr_nodT3 aC q ++ [lr_e_Request]) ++ .inl (aC 2, 4, lr_rs (fun j => some ((q + 44) + 1 * j))) :: lr_bl (fun _ => [lr_e_Message]) 4
def lr_nodB (aC : Nat → ClassId) (nid : Int32) (net q : Nat) : List va_E := .inr (2, [.int nid, .ref net, .ref (q + 1), .ref (q + 34), .ref (q + 35), .ref (q + 42), .ref (q + 43), .ref (q + 48), .int 0, .int 0]) :: (lr_nodT4 aC q ++ [.inl (aC 1, 8, .inl (fun _ => 0))])
set_option maxRecDepth 20000 in
set_option maxHeartbeats 4000000 in
theorem lr_k_Node {D : va_G} {aC : Nat → ClassId} {q : Nat} {nid : Int32} {net : Nat} : lr_RC lr_m_Node_init 48 261 [.int nid, .ref net] lr_e_Node D aC q (lr_nodB aC nid net q) := by
  refine lr_u_of (own := lr_R2) (ls := [(0, .ref q), (1, .int nid), (2, .ref net)]) (by decide) rfl rfl rfl (Nat.le_of_ble_eq_true rfl) rfl (fun Y C E => ?_)
  refine lr_u_aload C lr_d_Node_init_0 rfl 0 rfl ?_
  refine lr_u_obj C lr_d_Node_init_1 lr_w_84 lr_w_16 lr_w_17 (by decide) (by decide) ?_
  refine lr_u_aload C lr_d_Node_init_4 rfl 0 rfl ?_
  refine lr_u_iload C lr_d_Node_init_5 rfl 1 rfl ?_
  refine lr_u_putF C lr_cok2 (j := 0) (k := 0) (ws' := [.inr (2, [.int nid, .null, .null, .null, .null, .null, .null, .null, .int 0, .int 0])]) lr_d_Node_init_6 rfl rfl (by decide) lr_w_196 rfl rfl rfl rfl (Nat.le_of_ble_eq_true rfl) rfl ?_
  refine lr_u_aload C lr_d_Node_init_9 rfl 0 rfl ?_
  refine lr_u_aload C lr_d_Node_init_10 rfl 2 rfl ?_
  refine lr_u_putF C lr_cok2 (j := 0) (k := 1) (ws' := [.inr (2, [.int nid, .ref net, .null, .null, .null, .null, .null, .null, .int 0, .int 0])]) lr_d_Node_init_11 rfl rfl (by decide) lr_w_197 rfl rfl rfl rfl (Nat.le_of_ble_eq_true rfl) rfl ?_
  refine lr_u_aload C lr_d_Node_init_14 rfl 0 rfl ?_
  refine lr_u_bipush C (v := 8) lr_d_Node_init_15 rfl ?_
  refine lr_u_anew C (a := (q + 1)) (t0 := 5) (n := 8) (C1 := lr_R5) (ws' := [.inr (2, [.int nid, .ref net, .null, .null, .null, .null, .null, .null, .int 0, .int 0]), .inl (aC 5, 8, lr_rs (fun _ => none))]) (cells' := 1) (slots' := 8) lr_d_Node_init_17 lr_w_85 (by decide) (fun _ => rfl) (by decide) (by decide) (by decide) (by decide) (by decide) rfl rfl rfl rfl ?_
  refine lr_u_putF C lr_cok2 (j := 0) (k := 2) (ws' := [.inr (2, [.int nid, .ref net, .ref (q + 1), .null, .null, .null, .null, .null, .int 0, .int 0]), .inl (aC 5, 8, lr_rs (fun _ => none))]) lr_d_Node_init_20 rfl rfl (by decide) lr_w_198 rfl rfl rfl rfl (Nat.le_of_ble_eq_true rfl) rfl ?_
  refine lr_u_iconst C (v := 0) lr_d_Node_init_23 rfl ?_
  refine lr_u_istore C lr_d_Node_init_24 rfl (by decide) (ls' := [(3, .int 0), (0, .ref q), (1, .int nid), (2, .ref net)]) rfl ?_
  refine lr_u_cast (ws' := ([.inr (2, [.int nid, .ref net, .ref (q + 1), .null, .null, .null, .null, .null, .int 0, .int 0])] ++ .inl (aC 5, 8, lr_rs (lr_fr (q + 2) 4 0)) :: lr_bl (fun j => lr_slotB aC (q + 2 + 4 * j)) 0)) (by rw [lr_fr_0]; rfl) rfl rfl rfl rfl ?_
  refine lr_lp_Node1 C (fs := [.int nid, .ref net, .ref (q + 1), .null, .null, .null, .null, .null, .int 0, .int 0]) (T := []) (c0 := 1) (s0 := 8) rfl rfl rfl (by decide) (by decide) ?_ 8 0 rfl
  refine lr_ph_Node2 C (T := lr_nodT1 aC q) rfl ?_
  refine lr_u_cast (ws' := ((.inr (2, [.int nid, .ref net, .ref (q + 1), .ref (q + 34), .null, .null, .null, .null, .int 0, .int 0]) :: lr_nodT1 aC q) ++ [.inl (aC 0, 3, .inl (lr_fi 0))])) (by rw [lr_fi_0]; rfl) rfl rfl rfl rfl ?_
  refine lr_lp_Node2 C (fs := [.int nid, .ref net, .ref (q + 1), .ref (q + 34), .null, .null, .null, .null, .int 0, .int 0]) (T := lr_nodT1 aC q) rfl rfl ?_ 3 0 rfl
  refine lr_ph_Node3 C (T := lr_nodT2 aC q) rfl ?_
  refine lr_u_cast (ws' := ((.inr (2, [.int nid, .ref net, .ref (q + 1), .ref (q + 34), .ref (q + 35), .null, .null, .null, .int 0, .int 0]) :: lr_nodT2 aC q) ++ .inl (aC 4, 6, lr_rs (lr_fr (q + 36) 1 0)) :: lr_bl (fun _ => [lr_e_Pin]) 0)) (by rw [lr_fr_0]; rfl) rfl rfl rfl rfl ?_
  refine lr_lp_Node3 C (fs := [.int nid, .ref net, .ref (q + 1), .ref (q + 34), .ref (q + 35), .null, .null, .null, .int 0, .int 0]) (T := lr_nodT2 aC q) (c0 := 35) (s0 := 201) rfl rfl rfl (by decide) (by decide) ?_ 6 0 rfl
  refine lr_ph_Node4 C (T := lr_nodT3 aC q) rfl ?_
  refine lr_u_cast (ws' := ((.inr (2, [.int nid, .ref net, .ref (q + 1), .ref (q + 34), .ref (q + 35), .ref (q + 42), .ref (q + 43), .null, .int 0, .int 0]) :: (lr_nodT3 aC q ++ [lr_e_Request])) ++ .inl (aC 2, 4, lr_rs (lr_fr (q + 44) 1 0)) :: lr_bl (fun _ => [lr_e_Message]) 0)) (by rw [lr_fr_0]; simp [lr_bl]) rfl rfl rfl rfl ?_
  refine lr_lp_Node4 C (fs := [.int nid, .ref net, .ref (q + 1), .ref (q + 34), .ref (q + 35), .ref (q + 42), .ref (q + 43), .null, .int 0, .int 0]) (T := lr_nodT3 aC q ++ [lr_e_Request]) (c0 := 43) (s0 := 229) rfl rfl rfl (by decide) (by decide) ?_ 4 0 rfl
  exact lr_ph_Node5 C (T := lr_nodT4 aC q) rfl E
