theorem lr_arrP {args : Array Value} {s : State} {ty : FieldType} (h : (Cond.arrayClass ty).before args s = true) (hra : ∀ (s : State) (cA : ClassId), va_RA s cA ty = (s.vm.findClass ("[" ++ ty.toString) = some cA)) : ∃ cA, ArrOfT s cA ty ∧ va_RA s cA ty := by
  obtain ⟨cA, k, comp, h1, h2, h3⟩ := Cond.arrayClass_spec h
  exact ⟨cA, fun n z => ⟨fun k h => (by cases h), k, h2, comp, h3⟩, by rw [hra]; exact h1⟩
theorem lr_arrO {s : State} {C : String} (h : va_AO C s) : ∃ cA, ArrOfT s cA (.object C) ∧ va_RA s cA (.object C) := by
  obtain ⟨comp, cA, k, h1, h2, h3, h4, h5⟩ := Cond.arrayOver_spec h
  exact ⟨cA, fun n z => ⟨fun k h => (by cases h), k, h3, comp, h4⟩, k, comp, h3, h4, h1, h5⟩
theorem lr_xB_len {aC : Nat → ClassId} {q : Nat} : (lr_xB aC q).length = 233 := by
  rw [lr_xB, List.length_cons, List.length_append, lr_xT_len]
  rfl
/-- the tables' words, at the law's entry -/
theorem lr_ent {s : State} {b : Nat} (hts0 : ∀ w ∈ lw_tbl, w.before #[Value.ref b] s = true) : lr_E s := by
  refine ⟨fun C hC => ?_, fun w hw => ?_⟩
  · rcases (show C = lr_R0 ∨ C = lr_R2 ∨ C = lr_R3 ∨ C = lr_R5 by simpa [lr_AO] using hC) with rfl | rfl | rfl | rfl
    · exact va_AO.of (hts0 (Cond.arrayOver (.object lr_R0)) (List.mem_of_getElem? (i := 69) (by decide +kernel)))
    · exact va_AO.of (hts0 (Cond.arrayOver (.object lr_R2)) (List.mem_of_getElem? (i := 123) (by decide +kernel)))
    · exact va_AO.of (hts0 (Cond.arrayOver (.object lr_R3)) (List.mem_of_getElem? (i := 192) (by decide +kernel)))
    · exact va_AO.of (hts0 (Cond.arrayOver (.object lr_R5)) (List.mem_of_getElem? (i := 130) (by decide +kernel)))
  · rcases (show w = (lr_R1, 24, lr_iM) ∨ w = (lr_R2, 36, lr_iP) ∨ w = (lr_R2, 39, lr_iQ) ∨ w = (lr_R2, 53, lr_iM) ∨ w = (lr_R6, 27, lr_iM) by simpa [lr_nest] using hw) with rfl | rfl | rfl | rfl | rfl
    · exact va_Nw.of rfl (hts0 (Cond.methodLinkNest lr_R1 24 lr_iM lr_R6) (List.mem_of_getElem? (i := 71) (by decide +kernel)))
    · exact va_Nw.of rfl (hts0 (Cond.methodLinkNest lr_R2 36 lr_iP lr_R6) (List.mem_of_getElem? (i := 194) (by decide +kernel)))
    · exact va_Nw.of rfl (hts0 (Cond.methodLinkNest lr_R2 39 lr_iQ lr_R6) (List.mem_of_getElem? (i := 210) (by decide +kernel)))
    · exact va_Nw.of rfl (hts0 (Cond.methodLinkNest lr_R2 53 lr_iM lr_R6) (List.mem_of_getElem? (i := 239) (by decide +kernel)))
    · exact va_Nw.of rfl (hts0 (Cond.methodLinkNest lr_R6 27 lr_iM lr_R6) (List.mem_of_getElem? (i := 277) (by decide +kernel)))
theorem lr_known {s : State} {b : Nat} (hts : ∀ w ∈ lr_tb, w.before #[Value.ref b] s = true) (hE : lr_E s) : ∃ (D : va_G) (aC : Nat → ClassId), va_K D lr_cl (lr_tys aC) s := by
  obtain ⟨c0, f0, k0⟩ := u_known (C := lr_R0) (T := lr_F0) (N := 6) (n := 6) hts lr_in0 (hts _ lr_w_26)
  obtain ⟨c1, f1, k1⟩ := u_known (C := lr_R1) (T := lr_F1) (N := 3) (n := 3) hts lr_in1 (hts _ lr_w_19)
  obtain ⟨c2, f2, k2⟩ := u_known (C := lr_R2) (T := lr_F2) (N := 10) (n := 10) hts lr_in2 (hts _ lr_w_80)
  obtain ⟨c3, f3, k3⟩ := u_known (C := lr_R3) (T := lr_F3) (N := 3) (n := 3) hts lr_in3 (hts _ lr_w_149)
  obtain ⟨c4, f4, k4⟩ := u_known (C := lr_R4) (T := lr_F4) (N := 6) (n := 6) hts lr_in4 (hts _ lr_w_165)
  obtain ⟨c5, f5, k5⟩ := u_known (C := lr_R5) (T := lr_F5) (N := 13) (n := 13) hts lr_in5 (hts _ lr_w_87)
  obtain ⟨c6, f6, k6⟩ := u_known (C := lr_R6) (T := lr_F6) (N := 5) (n := 5) hts lr_in6 (hts _ (lr_mem 55 (by decide +kernel) (by decide +kernel)))
  obtain ⟨c7, f7, k7⟩ := u_known (C := lr_R7) (T := lr_F7) (N := 36) (n := 36) hts lr_in7 (hts _ (lr_mem 577 (by decide +kernel) (by decide +kernel)))
  obtain ⟨a0, x0⟩ := lr_arrP (ty := .int) (hts _ (lr_mem 190 (by decide +kernel) (by decide +kernel))) (fun _ _ => rfl)
  obtain ⟨a1, x1⟩ := lr_arrP (ty := .boolean) (hts _ (lr_mem 275 (by decide +kernel) (by decide +kernel))) (fun _ _ => rfl)
  obtain ⟨a2, x2⟩ := lr_arrO (hE.1 lr_R0 (by decide))
  obtain ⟨a3, x3⟩ := lr_arrO (hE.1 lr_R2 (by decide))
  obtain ⟨a4, x4⟩ := lr_arrO (hE.1 lr_R3 (by decide))
  obtain ⟨a5, x5⟩ := lr_arrO (hE.1 lr_R5 (by decide))
  refine ⟨(fun k => match k with | 0 => c0 | 1 => c1 | 2 => c2 | 3 => c3 | 4 => c4 | 5 => c5 | 6 => c6 | _ => c7, fun k => match k with | 0 => f0 | 1 => f1 | 2 => f2 | 3 => f3 | 4 => f4 | 5 => f5 | 6 => f6 | _ => f7), (fun k => match k with | 0 => a0 | 1 => a1 | 2 => a2 | 3 => a3 | 4 => a4 | _ => a5), ?_, ?_⟩
  · intro k q hq
    match k, hq with
    | 0, hq => cases hq; exact k0
    | 1, hq => cases hq; exact k1
    | 2, hq => cases hq; exact k2
    | 3, hq => cases hq; exact k3
    | 4, hq => cases hq; exact k4
    | 5, hq => cases hq; exact k5
    | 6, hq => cases hq; exact k6
    | 7, hq => cases hq; exact k7
    | k + 8, hq => simp [lr_cl] at hq
  · intro k q hq
    match k, hq with
    | 0, hq => cases hq; exact x0
    | 1, hq => cases hq; exact x1
    | 2, hq => cases hq; exact x2
    | 3, hq => cases hq; exact x3
    | 4, hq => cases hq; exact x4
    | 5, hq => cases hq; exact x5
    | k + 6, hq => simp [lr_tys] at hq
set_option maxRecDepth 20000 in
set_option maxHeartbeats 4000000 in
theorem whole_start {p : Program} {e : Env} {s : State} {m : MethodId} {below : List Frame} {meth : Method} {c : Code} (l : Launch) {b L : Nat} {xs : Nat → Int32} (hL : L ≤ 320) (C0 : lw_At p s m meth c b L xs) : W p l e room_1 s m #[Value.ref b] below meth c s.heap [] 0 0 (lw_Z below #[Value.ref b] s) (entryFrame m ([Value.ref b] : List Value).toArray 4) := by
  obtain ⟨hx, hb, hr, hml, hown, hts0, hX, hbl, hlocks, hgv⟩ := C0
  have hts : ∀ w ∈ lr_tb, w.before #[Value.ref b] s = true := fun w hw => hts0 w (List.mem_filter.mp hw).1
  have hE := lr_ent hts0
  obtain ⟨D, aC, hK⟩ := lr_known hts hE
  have hl := lv_entry ([.ref b]) (n := 4) (Nat.le_of_ble_eq_true rfl)
  rw [lg_entry_eq]
  generalize (lg_sl ([.ref b]) ++ List.replicate (4 - (lg_sl ([.ref b])).length) Slot.unset).toArray = ls at hl ⊢
  have hl : lv_has ls 4 [(0, .ref b)] := hl
  generalize hq : s.heap.size = q at hbl
  have C : lr_UC (p, l, e, room_1, s, m, #[Value.ref b], below, meth, c, lw_Z below #[Value.ref b] s, D, aC, q, s.heap, 4) code R_law 4 room_1 D aC q := ⟨hx, hb, hml, hown, hts, hK, hE, Or.inl rfl, by rw [hq]; exact Nat.le_succ q, rfl, rfl, rfl, rfl, rfl⟩
  have CZ : lr_ZC (p, l, e, s, m, below, meth, c, b, L, xs, D, aC, q, 266, 3852) L xs q := ⟨hx, hb, hr, hml, hown, hts, hK, hX, by rw [hq]; exact hbl, hlocks, hq.symm, by decide, by decide, rfl, rfl, rfl⟩
  have go : lr_U (p, l, e, room_1, s, m, #[Value.ref b], below, meth, c, lw_Z below #[Value.ref b] s, D, aC, q, s.heap, 4) 0 [(0, .ref b)] [] [] 0 0 := by
    refine lr_u_new C lr_cok6 (a := q) (fs := [.null, .null, .null, .int 0, .int 0]) (ws' := [lr_e_X]) (cells' := 1) (slots' := 5) lr_d_L_0 (lr_mem 54 (by decide +kernel) (by decide +kernel)) (lr_mem 55 (by decide +kernel) (by decide +kernel)) (lr_mem 45 (by decide +kernel) (by decide +kernel)) lr_z_X (by decide) (by decide) rfl rfl rfl rfl ?_
    refine lr_u_dup C lr_d_L_3 rfl ?_
    refine lr_u_call0 C (M := lr_m_X_init) (as := []) (e0 := lr_e_X) (ws0 := []) (bs := lr_xB aC q) (ws' := lr_xB aC q) (st := [.ref q]) (cells' := 233) (slots' := 1326) lr_k_X rfl rfl lr_d_L_4 (by decide +kernel) (Or.inl (lr_mem 56 (by decide +kernel) (by decide +kernel))) (lr_mem 57 (by decide +kernel) (by decide +kernel)) (lr_mem 45 (by decide +kernel) (by decide +kernel)) (lr_mem 58 (by decide +kernel) (by decide +kernel)) (by decide) (Nat.le_of_ble_eq_true rfl) rfl rfl rfl (by decide) (by decide) rfl rfl rfl ?_
    refine lr_u_astore C lr_d_L_7 rfl (by decide) (ls' := [(1, .ref q), (0, .ref b)]) rfl ?_
    refine lr_u_new C lr_cok7 (a := q + 233) (fs := [.int 0, .null, .null, .null, .null, .null, .null, .null, .null, .null, .null, .null, .null, .null, .null, .null, .null, .int 0, .null, .int 0, .null, .null, .null, .null, .int 0, .null, .null, .null, .null, .null, .null, .null, .null, .null, .null, .null]) (ws' := lr_xB aC q ++ [lr_e_M]) (cells' := 234) (slots' := 1362) lr_d_L_8 (lr_mem 576 (by decide +kernel) (by decide +kernel)) (lr_mem 577 (by decide +kernel) (by decide +kernel)) (lr_mem 52 (by decide +kernel) (by decide +kernel)) lr_z_M (by decide) (by decide) rfl rfl (by rw [lr_xB_len]) rfl ?_
    refine lr_u_dup C lr_d_L_11 rfl ?_
    refine lr_u_call0 C (M := lr_m_M_init) (as := []) (e0 := lr_e_M) (ws0 := lr_xB aC q) (bs := lr_modB aC (q + 233) 12) (ws' := lr_xB aC q ++ lr_modB aC (q + 233) 12) (st := [.ref (q + 233)]) (cells' := 266) (slots' := 3852) (by rw [lr_xB_len]; exact lr_k_M) rfl rfl lr_d_L_12 (by decide +kernel) (Or.inl (lr_mem 578 (by decide +kernel) (by decide +kernel))) (lr_mem 579 (by decide +kernel) (by decide +kernel)) (lr_mem 52 (by decide +kernel) (by decide +kernel)) (lr_mem 580 (by decide +kernel) (by decide +kernel)) (by decide) (Nat.le_of_ble_eq_true rfl) (by rw [lr_xB_len]) rfl rfl (by decide) (by decide) rfl rfl rfl ?_
    refine lr_u_astore C lr_d_L_15 rfl (by decide) (ls' := [(2, .ref (q + 233)), (1, .ref q), (0, .ref b)]) rfl ?_
    refine lr_u_iconst C (v := 0) lr_d_L_16 rfl ?_
    refine lr_u_istore C lr_d_L_17 rfl (by decide) (ls' := [(3, .int 0), (2, .ref (q + 233)), (1, .ref q), (0, .ref b)]) rfl ?_
    intro H locs la hB hS hl
    have hB1 : lr_B2 D q (lr_xB aC q) H := ⟨trivial, fun j e hj => hB.2 j e (by rw [List.getElem?_append_left (List.getElem?_eq_some_iff.mp hj).1]; exact hj)⟩
    have hB2 : lr_B2 D (q + 233) (lr_modB aC (q + 233) 12) H := ⟨trivial, by
      have h := (lr_B_last hB).2
      rw [lr_xB_len] at h
      exact h⟩
    exact lr_z_loop CZ hL 65 0 lr_t0x lr_t0m rfl lr_first H locs la (lr_x_first hB1) (lr_m_first hB2) hS hl
  exact go s.heap [] ls ⟨by rw [hq]; rfl, fun j e h => by simp at h⟩ va_S.rf hl

set_option maxHeartbeats 4000000 in
theorem lw_walk (l : Launch) (b : Addr) (xs : List Int32) : MetFree l x (headSpec (Jvm.Cond.code x code maxLocals ret :: tables_1) room_1) (lw_P b xs) (fun _ _ _ _ _ => True) lw_Q := by
  refine MetFree.of_bodyS (code := code) (maxLocals := maxLocals) (ret := ret) (by decide) ?_ ?_
  · intro args s m h hn
    obtain ⟨meth, c, h1, h2, h3, h4, h5, h6, -, -⟩ := Cond.code_spec hn (atoms_spec (ws := Jvm.Cond.code x code maxLocals ret :: tables_1) h _ List.mem_cons_self)
    exact ⟨meth, c, h1, h2, h3, h4, h5, h6⟩
  · intro p e s m args below meth c s₁ B hml0 hP _
    obtain ⟨rfl, hx, hbd, hgv⟩ := hP
    obtain ⟨scr, harrAt, hlist, hof, hsmall⟩ := hx
    obtain ⟨hcb, hkn, -, -⟩ := State.arrayAt?_spec harrAt
    have hown : s.vm.findClass R_law = some m.cls := findClass_of_methodNamed B.named
    have hts0 : ∀ c ∈ (Jvm.Cond.code x code maxLocals ret :: tables_1), c.before #[Value.ref b] s = true := atoms_spec (ws := Jvm.Cond.code x code maxLocals ret :: tables_1) B.pre
    have hts : ∀ w ∈ lw_tbl, w.before #[Value.ref b] s = true := k2_hts_sels lw_privs (fun w hw => hts0 w (List.mem_cons_of_mem _ hw)) lw_privs_ok
    have hml : c.maxLocals = 4 := B.maxLocals_eq (hts0 _ List.mem_cons_self)
    have X₀ : Stand p l e room_1 s m #[Value.ref b] below meth c s₁ [] 0 0 := Stand.of_body B
    have hh0 : s₁.heap = s.heap := by rw [B.state]; rfl
    have hsz : scr.slots.size = xs.length := by rw [← Array.length_toList, hlist, List.length_map]
    have hval : ∀ j : Nat, j < xs.length → scr.slots[j]? = some (.int (xs.getD j 0)) := fun j hj => by
      rw [← Array.getElem?_toList, hlist]
      simp [hj]
    have hbl : b < s.heap.size := (Array.getElem?_eq_some_iff.mp hcb).1
    have hX : va_X b xs.length (fun j => xs.getD j 0) s s.heap := ⟨scr, hcb, hof, hkn, hsz, hval⟩
    have K : W p l e room_1 s m #[Value.ref b] below meth c s₁.heap [] 0 0 (lw_Z below #[Value.ref b] s) (entryFrame m ([Value.ref b] : List Value).toArray 4) := by
      rw [hh0]
      exact whole_start l hbd ⟨B.exec, B.bytes, B.returns, hml, hown, hts, hX, hbl, B.notSynchronized, hgv⟩
    obtain ⟨t, a1, o, b1, b2, b3⟩ := K s₁ rfl X₀
    exact ⟨t, o, a1, b1, b2, b3⟩
theorem lw_pre_spec {args : Array Value} {s : State} (h : (Jvm.Cond.and given_1 narrow_1).before args s = true) (hr : rest_1_c.before args s = true) : ∃ (b : Addr) (xs : List Int32), lw_P b xs args s := by
  have hs := flat_of_before _ h
  have hq := flat_of_before _ hr
  have hc : (Cond.count 1).before args s = true := hs _ (by decide +kernel)
  have harr : (Cond.arrayOf (.arg 0) .int).before args s = true := hs _ (by decide +kernel)
  have hle : (Cond.le (.length (.arg 0)) (.int 320)).before args s = true := hs _ (by decide +kernel)
  have hlen : (Cond.isInt (.length (.arg 0))).before args s = true := hq _ (by decide +kernel)
  have hall : (Cond.all (.arg 0) (.isInt (.elem (.arg 0) (.index 0)))).before args s = true := hq _ (by decide +kernel)
  obtain ⟨b, xs, hb, hx⟩ := State.ints_of_pre rfl harr hlen hall
  have hsm : xs.length < 2 ^ 31 := hx.choose_spec.2.2.2
  have hev : (Term.length (.arg 0)).eval args s none [] s = some (.int xs.length.toInt32) := hx.length_eval hb
  have hv := Cond.le_ints hev (show (Term.int 320).eval args s none [] s = some (.int 320) from rfl)
  have hd : xs.length.toInt32 ≤ 320 := by
    simpa [Cond.before, Cond.holds, hv] using hle
  have hN : xs.length ≤ 320 := (Int32.ofNat_le_ofNat hsm (by decide)).mp (show Int32.ofNat xs.length ≤ Int32.ofNat 320 from hd)
  exact ⟨b, xs, Cond.one_arg hc (show args[0]? = some (.ref b) from hb), hx, hN, h⟩
theorem lw_comes (l : Launch) : Comes l x (Jvm.Cond.code x code maxLocals ret :: tables_1) room_1 (fun tb e args s => Calls_1 tb e args s ∧ rest_1 tb e args s ∧ Pre_1 tb e args s)
    (fun _ _ args s o t => lw_Q args s o t) := by
  intro p e ha hc hk s m args below hf hfit hheap happ hpre
  obtain ⟨b, xs, hP⟩ := lw_pre_spec hpre.2.2 hpre.2.1
  obtain ⟨k, o, h1, h2, h3, hQ⟩ := lw_walk l b xs p e ha hc hk s m args below hf ((Spec.applies_iff_loose hf).mp happ).1 hP trivial
  exact ⟨k, o, h1, h2, h3, hQ⟩
theorem lw_frame {s t : State} {o : Outcome} {args : Array Value} (h : Framed s o t [] 600000 7302250) :
    Framed s o t (fieldLocs frame_1_writes args s ++ arrayLocs frame_1_arrays args s ++ staticLocs frame_1_statics s) 600000 7302250 := h
theorem lw_limb (L : Cond) (hL : ∀ (args : Array Value) (s t : State), L.after args s (.returned (some (.int 1))) t = true) :
    ArmFor flags0 classFile x code maxLocals ret World_1 tables_1 room_1 Calls_1 rest_1 Pre_1
      (fun tb e a s o t => postC L tb e a s o t ∧ Framed s o t (fieldLocs frame_1_writes a s ++ arrayLocs frame_1_arrays a s ++ staticLocs frame_1_statics s) 600000 7302250) := by
  intro l _ _ _ p e ha hc hk s m args below hf hfit hheap happ hpre
  obtain ⟨k, o, h1, h2, h3, rfl, hF⟩ := lw_comes l p e ha hc hk s m args below hf hfit hheap happ hpre
  exact ⟨k, _, h1, h2, h3, hL args s _, lw_frame hF⟩
theorem i_vc : Claimed_1_1 ∧ Claimed_1_2 := ⟨lw_limb limb_1_1 (fun args s t => by simp [limb_1_1, Cond.after, Cond.holds, Cond.value]), lw_limb limb_1_2 (fun args s t => Cond.after_iff.mpr (by
  first | (rw [show limb_1_2 = Cond.eq .result (.int 1) from rfl, Cond.eq_ints (x := 1) (y := 1) rfl rfl]; simp; done) | (simp [limb_1_2, Cond.value, Term.eval]; done)))⟩
