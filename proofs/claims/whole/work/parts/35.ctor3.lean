theorem lr_nodB_len {aC : Nat → ClassId} {nid : Int32} {net q : Nat} : (lr_nodB aC nid net q).length = 49 := rfl
theorem lr_nodB_cons {aC : Nat → ClassId} {nid : Int32} {net q : Nat} : lr_nodB aC nid net q = .inr (2, [.int nid, .ref net, .ref (q + 1), .ref (q + 34), .ref (q + 35), .ref (q + 42), .ref (q + 43), .ref (q + 48), .int 0, .int 0]) :: (lr_nodT4 aC q ++ [.inl (aC 1, 8, .inl (fun _ => 0))]) := rfl
set_option maxRecDepth 20000 in
set_option maxHeartbeats 4000000 in
theorem lr_lp_X {D : va_G} {aC : Nat → ClassId} {q : Nat} {Y : lr_Y} {net : Nat} (C : lr_UC Y prog_1_method_1_code lr_R6 3 (lr_crm lr_m_X_init 232 1321) D aC q) {fs : List Value} {T : List va_E} {c0 s0 b a1 : Nat} (hb : b = q + (T.length + 2)) (ha1 : a1 = q + (T.length + 1)) (hf : fs[1]? = some (.ref a1)) (hc : c0 + 49 * 4 ≤ 232) (hs : s0 + 271 * 4 ≤ 1321) (kk : lr_U Y 53 [(2, .int (nI 4)), (1, .ref net), (0, .ref q)] [] ((.inr (6, fs) :: T) ++ .inl (aC 3, 4, lr_rs (fun j => some (b + 49 * j))) :: lr_bl (fun j => lr_nodB aC (nI j) net (b + 49 * j)) 4) (c0 + 49 * 4) (s0 + 271 * 4)) : ∀ d i : Nat, i + d = 4 → lr_U Y 27 [(2, .int (nI i)), (1, .ref net), (0, .ref q)] [] ((.inr (6, fs) :: T) ++ .inl (aC 3, 4, lr_rs (lr_fr b 49 i)) :: lr_bl (fun j => lr_nodB aC (nI j) net (b + 49 * j)) i) (c0 + 49 * i) (s0 + 271 * i) := by
  subst hb
  subst ha1
  intro d
  induction d with
  | zero =>
    intro i hi
    obtain rfl : i = 4 := by omega
    refine lr_u_iload C lr_d_X_init_27 rfl 0 rfl ?_
    refine lr_u_iconst C (v := 4) lr_d_X_init_28 rfl ?_
    refine lr_u_icmp_ge C (tgt := 53) lr_d_X_init_29 rfl (fun _ => ?_) (fun h => absurd (by decide) h)
    exact lr_u_mid (lr_aeq_r (fun j hj => by simp [lr_fr, hj])) kk
  | succ d ih =>
    intro i hi
    have hbl : (lr_bl (fun j => lr_nodB aC (nI j) net ((q + (T.length + 2)) + 49 * j)) i).length = 49 * i := lr_bl_len (sz := 49) (fun _ => rfl) i
    have hln : ((.inr (6, fs) :: T) ++ .inl (aC 3, 4, lr_rs (lr_fr (q + (T.length + 2)) 49 i)) :: lr_bl (fun j => lr_nodB aC (nI j) net ((q + (T.length + 2)) + 49 * j)) i).length = T.length + 2 + 49 * i := by
      rw [List.length_append, List.length_cons, List.length_cons, hbl]
      omega
    have hla : q + (T.length + 2 + 49 * i) = (q + (T.length + 2)) + 49 * i := by omega
    refine lr_u_iload C lr_d_X_init_27 rfl 0 rfl ?_
    refine lr_u_iconst C (v := 4) lr_d_X_init_28 rfl ?_
    refine lr_u_icmp_ge C (tgt := 53) lr_d_X_init_29 rfl (fun h => absurd h (lr_nle (x := 4) (m := 4) rfl (by omega) (by decide))) (fun _ => ?_)
    refine lr_u_aload C lr_d_X_init_32 rfl 2 rfl ?_
    refine lr_u_get C lr_cok6 (j := 0) (k := 1) lr_d_X_init_33 rfl rfl (by decide) lr_w_235 hf ?_
    refine lr_u_iload C lr_d_X_init_36 rfl 0 rfl ?_
    refine lr_u_new C lr_cok2 (a := (q + (T.length + 2)) + 49 * i) (fs := [.int 0, .null, .null, .null, .null, .null, .null, .null, .int 0, .int 0]) (cells' := c0 + 49 * i + 1) (slots' := s0 + 271 * i + 10) lr_d_X_init_37 lr_w_78 lr_w_80 lr_w_4 lr_z_Node (by show _ ≤ 232; omega) (by show _ ≤ 1321; omega) rfl rfl (by rw [hln, hla]) rfl ?_
    refine lr_u_dup C lr_d_X_init_40 rfl ?_
    refine lr_u_iload C lr_d_X_init_41 rfl 0 rfl ?_
    refine lr_u_aload C lr_d_X_init_42 rfl 1 rfl ?_
    refine lr_u_call0 C (M := lr_m_Node_init) (as := [.int (nI i), .ref net]) (e0 := lr_e_Node) (ws0 := ((.inr (6, fs) :: T) ++ .inl (aC 3, 4, lr_rs (lr_fr (q + (T.length + 2)) 49 i)) :: lr_bl (fun j => lr_nodB aC (nI j) net ((q + (T.length + 2)) + 49 * j)) i)) (bs := lr_nodB aC (nI i) net ((q + (T.length + 2)) + 49 * i)) (ws' := ((.inr (6, fs) :: T) ++ .inl (aC 3, 4, lr_rs (lr_fr (q + (T.length + 2)) 49 i)) :: (lr_bl (fun j => lr_nodB aC (nI j) net ((q + (T.length + 2)) + 49 * j)) i ++ lr_nodB aC (nI i) net ((q + (T.length + 2)) + 49 * i)))) (st := .ref ((q + (T.length + 2)) + 49 * i) :: [.int (nI i), .ref (q + (T.length + 1))]) (cells' := c0 + 49 * (i + 1)) (slots' := s0 + 271 * (i + 1)) (by rw [hln, hla]; exact lr_k_Node) rfl rfl lr_d_X_init_43 (show lr_m_Node_init.1.cls ≠ "java/lang/invoke/MethodHandle" ∧ lr_m_Node_init.1.cls ≠ "java/lang/invoke/VarHandle" ∧ (parseMethodDescriptor lr_m_Node_init.1.desc).map (fun d => d.parameters.length) = some 2 from by decide +kernel) (Or.inl lr_w_81) lr_w_82 lr_w_4 lr_w_83 (by decide) (Nat.le_of_ble_eq_true rfl) (by rw [hln, hla]) rfl rfl (by show _ ≤ 232; omega) (by show _ ≤ 1321; omega) (by omega) (by omega) (by simp [List.append_assoc]) ?_
    refine lr_u_aast C (ci := 2) (r := (lr_R2, lr_F2, 10)) (j0 := (.inr (6, fs) :: T).length) (j1 := (.inr (6, fs) :: T).length + 1 + (lr_bl (fun j => lr_nodB aC (nI j) net ((q + (T.length + 2)) + 49 * j)) i).length) (t0 := 3) (n := 4) (ws' := ((.inr (6, fs) :: T) ++ .inl (aC 3, 4, lr_rs (lr_fr (q + (T.length + 2)) 49 (i + 1))) :: lr_bl (fun j => lr_nodB aC (nI j) net ((q + (T.length + 2)) + 49 * j)) (i + 1))) lr_d_X_init_46 rfl lr_mid_get (fun _ => rfl) (by rw [hbl, List.length_cons]; omega) lr_tl_get rfl (lr_nvp (by omega) (by decide)) (by rw [lr_ncl (by omega), lr_fr_up, lr_mid_set]; rfl) ?_
    refine lr_u_iinc C (k := 0) (v := nI (i + 1)) (ls' := [(2, .int (nI (i + 1))), (1, .ref net), (0, .ref q)]) lr_d_X_init_47 rfl (nI_1 i) (by decide) rfl ?_
    exact lr_u_goto C (tgt := 27) lr_d_X_init_50 rfl (ih (i + 1) (by omega))
def lr_xT (aC : Nat → ClassId) (q : Nat) : List va_E := lr_netB aC (q + 1) ++ .inl (aC 3, 4, lr_rs (fun j => some ((q + 36) + 49 * j))) :: lr_bl (fun j => lr_nodB aC (nI j) (q + 1) (q + 36 + 49 * j)) 4
def lr_xB (aC : Nat → ClassId) (q : Nat) : List va_E := .inr (6, [.ref (q + 1), .ref (q + 35), .ref (q + 232), .int 0, .int 0]) :: (lr_xT aC q ++ [lr_e_Message])
set_option maxRecDepth 20000 in
set_option maxHeartbeats 4000000 in
theorem lr_ph_X1 {D : va_G} {aC : Nat → ClassId} {q : Nat} {Y : lr_Y} (C : lr_UC Y prog_1_method_1_code lr_R6 3 (lr_crm lr_m_X_init 232 1321) D aC q) {T : List va_E} (hT : T.length = 34) (kk : lr_U Y 27 [(2, .int 0), (1, .ref (q + 1)), (0, .ref q)] [] (.inr (6, [.ref (q + 1), .ref (q + 35), .null, .int 0, .int 0]) :: (T ++ [.inl (aC 3, 4, lr_rs (fun _ => none))])) 35 231) : lr_U Y 11 [(0, .ref q)] [.ref (q + 1)] (.inr (6, [.null, .null, .null, .int 0, .int 0]) :: T) 34 227 := by
  refine lr_u_astore C lr_d_X_init_11 rfl (by decide) (ls' := [(1, .ref (q + 1)), (0, .ref q)]) rfl ?_
  refine lr_u_aload C lr_d_X_init_12 rfl 1 rfl ?_
  refine lr_u_aload C lr_d_X_init_13 rfl 0 rfl ?_
  refine lr_u_putF C lr_cok6 (j := 0) (k := 0) (ws' := (.inr (6, [.ref (q + 1), .null, .null, .int 0, .int 0]) :: T)) lr_d_X_init_14 rfl rfl (by decide) lr_w_234 rfl rfl rfl rfl (Nat.le_of_ble_eq_true rfl) rfl ?_
  refine lr_u_aload C lr_d_X_init_17 rfl 1 rfl ?_
  refine lr_u_iconst C (v := 4) lr_d_X_init_18 rfl ?_
  refine lr_u_anew C (a := (q + 35)) (t0 := 3) (n := 4) (C1 := lr_R2) (ws' := (.inr (6, [.ref (q + 1), .null, .null, .int 0, .int 0]) :: (T ++ [.inl (aC 3, 4, lr_rs (fun _ => none))]))) (cells' := 35) (slots' := 231) lr_d_X_init_19 lr_w_78 (by decide) (fun _ => rfl) (by decide) (by decide) (by decide) (by decide) (by decide) rfl rfl (by simp [hT]) (by simp) ?_
  refine lr_u_putF C lr_cok6 (j := 0) (k := 1) (ws' := (.inr (6, [.ref (q + 1), .ref (q + 35), .null, .int 0, .int 0]) :: (T ++ [.inl (aC 3, 4, lr_rs (fun _ => none))]))) lr_d_X_init_22 rfl rfl (by decide) lr_w_235 rfl rfl rfl rfl (Nat.le_of_ble_eq_true rfl) rfl ?_
  refine lr_u_iconst C (v := 0) lr_d_X_init_25 rfl ?_
  refine lr_u_istore C lr_d_X_init_26 rfl (by decide) (ls' := [(2, .int 0), (1, .ref (q + 1)), (0, .ref q)]) rfl ?_
  exact kk
set_option maxRecDepth 20000 in
set_option maxHeartbeats 4000000 in
theorem lr_ph_X2 {D : va_G} {aC : Nat → ClassId} {q : Nat} {Y : lr_Y} (C : lr_UC Y prog_1_method_1_code lr_R6 3 (lr_crm lr_m_X_init 232 1321) D aC q) {T : List va_E} (hT : T.length = 231) (E : lr_UE Y (.inr (6, [.ref (q + 1), .ref (q + 35), .ref (q + 232), .int 0, .int 0]) :: (T ++ [lr_e_Message])) 232 1321) : lr_U Y 53 [(2, .int (nI 4)), (1, .ref (q + 1)), (0, .ref q)] [] (.inr (6, [.ref (q + 1), .ref (q + 35), .null, .int 0, .int 0]) :: T) 231 1315 := by
  refine lr_u_aload C lr_d_X_init_53 rfl 2 rfl ?_
  refine lr_u_new C lr_cok0 (a := (q + 232)) (fs := [.int 0, .int 0, .int 0, .int 0, .int 0, .int 0]) (ws' := (.inr (6, [.ref (q + 1), .ref (q + 35), .null, .int 0, .int 0]) :: (T ++ [lr_e_Message]))) (cells' := 232) (slots' := 1321) lr_d_X_init_54 lr_w_232 lr_w_26 lr_w_3 lr_z_Message (by decide) (by decide) rfl rfl (by simp [hT]) (by simp) ?_
  refine lr_u_dup C lr_d_X_init_57 rfl ?_
  refine lr_u_call0 C (M := lr_m_Message_init) (as := []) (e0 := lr_e_Message) (ws0 := (.inr (6, [.ref (q + 1), .ref (q + 35), .null, .int 0, .int 0]) :: T)) (bs := [lr_e_Message]) (ws' := (.inr (6, [.ref (q + 1), .ref (q + 35), .null, .int 0, .int 0]) :: (T ++ [lr_e_Message]))) (st := [.ref (q + 232), .ref q]) (cells' := 232) (slots' := 1321) (lr_k_Message) rfl rfl lr_d_X_init_58 (by decide +kernel) (Or.inr (by decide)) lr_w_28 lr_w_3 lr_w_29 (by decide) (Nat.le_of_ble_eq_true rfl) (by simp [hT]) (by simp) rfl (by decide) (by decide) rfl rfl (by simp) ?_
  refine lr_u_putF C lr_cok6 (j := 0) (k := 2) (ws' := (.inr (6, [.ref (q + 1), .ref (q + 35), .ref (q + 232), .int 0, .int 0]) :: (T ++ [lr_e_Message]))) lr_d_X_init_61 rfl rfl (by decide) lr_w_236 rfl rfl rfl rfl (Nat.le_of_ble_eq_true rfl) rfl ?_
  refine lr_u_aload C lr_d_X_init_64 rfl 2 rfl ?_
  refine lr_u_iconst C (v := 0) lr_d_X_init_65 rfl ?_
  refine lr_u_put C lr_cok6 (j := 0) (k := 3) (ws' := (.inr (6, [.ref (q + 1), .ref (q + 35), .ref (q + 232), .int 0, .int 0]) :: (T ++ [lr_e_Message]))) lr_d_X_init_66 rfl rfl (by decide) lr_w_237 rfl rfl rfl (Nat.le_of_ble_eq_true rfl) rfl ?_
  refine lr_u_aload C lr_d_X_init_69 rfl 2 rfl ?_
  refine lr_u_iconst C (v := 0) lr_d_X_init_70 rfl ?_
  refine lr_u_put C lr_cok6 (j := 0) (k := 4) (ws' := (.inr (6, [.ref (q + 1), .ref (q + 35), .ref (q + 232), .int 0, .int 0]) :: (T ++ [lr_e_Message]))) lr_d_X_init_71 rfl rfl (by decide) lr_w_238 rfl rfl rfl (Nat.le_of_ble_eq_true rfl) rfl ?_
  exact lr_u_ret C E lr_d_X_init_74
set_option maxRecDepth 20000 in
set_option maxHeartbeats 4000000 in
theorem lr_k_X {D : va_G} {aC : Nat → ClassId} {q : Nat} : lr_RC lr_m_X_init 232 1321 [] lr_e_X D aC q (lr_xB aC q) := by
  refine lr_u_of (own := lr_R6) (ls := [(0, .ref q)]) (by decide) rfl rfl rfl (Nat.le_of_ble_eq_true rfl) rfl (fun Y C E => ?_)
  refine lr_u_aload C lr_d_X_init_0 rfl 0 rfl ?_
  refine lr_u_obj C lr_d_X_init_1 lr_w_15 lr_w_16 lr_w_17 (by decide) (by decide) ?_
  refine lr_u_new C lr_cok1 (a := (q + 1)) (fs := [.int 0, .int 0, .null]) (ws' := [.inr (6, [.null, .null, .null, .int 0, .int 0]), lr_e_Network]) (cells' := 1) (slots' := 3) lr_d_X_init_4 lr_w_18 lr_w_19 lr_w_2 lr_z_Network (by decide) (by decide) rfl rfl rfl rfl ?_
  refine lr_u_dup C lr_d_X_init_7 rfl ?_
  refine lr_u_call0 C (M := lr_m_Network_init) (as := []) (e0 := lr_e_Network) (ws0 := [lr_e_X]) (bs := lr_netB aC (q + 1)) (ws' := lr_e_X :: lr_netB aC (q + 1)) (st := [.ref (q + 1)]) (cells' := 34) (slots' := 227) lr_k_Network rfl rfl lr_d_X_init_8 (by decide +kernel) (Or.inl lr_w_20) lr_w_21 lr_w_2 lr_w_22 (by decide) (Nat.le_of_ble_eq_true rfl) rfl rfl rfl (by decide) (by decide) rfl rfl rfl ?_
  refine lr_ph_X1 C (T := lr_netB aC (q + 1)) rfl ?_
  refine lr_u_cast (ws' := ((.inr (6, [.ref (q + 1), .ref (q + 35), .null, .int 0, .int 0]) :: lr_netB aC (q + 1)) ++ .inl (aC 3, 4, lr_rs (lr_fr (q + 36) 49 0)) :: lr_bl (fun j => lr_nodB aC (nI j) (q + 1) (q + 36 + 49 * j)) 0)) (by rw [lr_fr_0]; rfl) rfl rfl rfl rfl ?_
  refine lr_lp_X C (fs := [.ref (q + 1), .ref (q + 35), .null, .int 0, .int 0]) (T := lr_netB aC (q + 1)) (c0 := 35) (s0 := 231) rfl rfl rfl (by decide) (by decide) ?_ 4 0 rfl
  exact lr_ph_X2 C (T := lr_xT aC q) rfl E
