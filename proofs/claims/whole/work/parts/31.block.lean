/-! MAKING. The cells of a block: from q to the heap's end. -/
def lr_B (D : va_G) (q : Nat) (ws : List va_E) (H : Heap) : Prop := H.size = q + ws.length ∧ ∀ (j : Nat) (e : va_E), ws[j]? = some e → va_at D lr_cl (q + j, e) H
theorem lr_B_set {D : va_G} {q : Nat} {ws : List va_E} {H H1 : Heap} {j : Nat} {e : va_E} (h : lr_B D q ws H) (z : H1.size = H.size) (o : ∀ a : Nat, a ≠ q + j → H1[a]? = H[a]?) (hn : va_at D lr_cl (q + j, e) H1) : lr_B D q (ws.set j e) H1 := by
  refine ⟨by rw [z, List.length_set]; exact h.1, fun i e' hi => ?_⟩
  rw [List.getElem?_set] at hi
  by_cases hij : j = i
  · subst hij
    rw [if_pos rfl] at hi
    split at hi
    · cases hi
      exact hn
    · cases hi
  · rw [if_neg hij] at hi
    exact (h.2 i e' hi).kept (o _ (fun z => hij (by have z : q + i = q + j := z; omega)))
theorem lr_B_push {D : va_G} {q : Nat} {ws : List va_E} {H H1 : Heap} {e : va_E} (h : lr_B D q ws H) (z : H1.size = H.size + 1) (o : ∀ a : Nat, a < H.size → H1[a]? = H[a]?) (hn : va_at D lr_cl (q + ws.length, e) H1) : lr_B D q (ws ++ [e]) H1 := by
  refine ⟨by rw [z, h.1, List.length_append]; rfl, fun i e' hi => ?_⟩
  by_cases hl : i < ws.length
  · rw [List.getElem?_append_left hl] at hi
    exact (h.2 i e' hi).kept (o _ (h.2 i e' hi).lt)
  · rw [List.getElem?_append_right (by omega)] at hi
    have hz : i - ws.length < 1 := (List.getElem?_eq_some_iff.mp hi).1
    have hi2 : i = ws.length := by omega
    subst hi2
    rw [Nat.sub_self] at hi
    cases hi
    exact hn
theorem lr_B_last {D : va_G} {q : Nat} {ws bs : List va_E} {H : Heap} (h : lr_B D q (ws ++ bs) H) : lr_B D (q + ws.length) bs H := by
  refine ⟨by rw [h.1, List.length_append]; omega, fun i e' hi => ?_⟩
  have h2 := h.2 (ws.length + i) e' (by rw [List.getElem?_append_right (by omega), Nat.add_sub_cancel_left]; exact hi)
  rw [← Nat.add_assoc] at h2
  exact h2
theorem lr_B_app {D : va_G} {q : Nat} {ws bs cs : List va_E} {H H1 : Heap} (h : lr_B D q (ws ++ cs) H) (h1 : lr_B D (q + ws.length) bs H1) (o : ∀ a : Nat, a < q + ws.length → H1[a]? = H[a]?) : lr_B D q (ws ++ bs) H1 := by
  refine ⟨by rw [h1.1, List.length_append]; omega, fun i e' hi => ?_⟩
  by_cases hl : i < ws.length
  · rw [List.getElem?_append_left hl] at hi
    have h2 := h.2 i e' (by rw [List.getElem?_append_left hl]; exact hi)
    exact h2.kept (o _ (by show q + i < _; omega))
  · rw [List.getElem?_append_right (by omega)] at hi
    have h2 := h1.2 (i - ws.length) e' hi
    rw [show q + ws.length + (i - ws.length) = q + i by omega] at h2
    exact h2
theorem lr_arr_ext {cA : ClassId} {n : Nat} {f g : Nat → Value} (h : ∀ j, j < n → f j = g j) : arrV cA n f = arrV cA n g := by
  unfold arrV
  have e : (fun j : Fin n => f j.val) = (fun j : Fin n => g j.val) := funext fun j => h j.val j.isLt
  rw [e]
/-- one cell for another that says the same of every heap -/
def lr_aeq (e e' : va_E) : Prop := ∀ (D : va_G) (a : Nat) (H : Heap), va_at D lr_cl (a, e) H → va_at D lr_cl (a, e') H
theorem lr_aeq_r {cA : ClassId} {n : Nat} {f g : Nat → Option Nat} (h : ∀ j, j < n → f j = g j) : lr_aeq (.inl (cA, n, lr_rs f)) (.inl (cA, n, lr_rs g)) := by
  intro D a H h1
  have h2 : H[a]? = some (vp_cell cA (n, lr_rs f)) := h1
  show H[a]? = some (vp_cell cA (n, lr_rs g))
  rw [h2]
  show some (arrV cA n (fun j => va_rf (f j))) = some (arrV cA n (fun j => va_rf (g j)))
  rw [lr_arr_ext (fun j hj => congrArg va_rf (h j hj))]
theorem lr_aeq_i {cA : ClassId} {n : Nat} {f g : Nat → Int32} (h : ∀ j, j < n → f j = g j) : lr_aeq (.inl (cA, n, .inl f)) (.inl (cA, n, .inl g)) := by
  intro D a H h1
  have h2 : H[a]? = some (vp_cell cA (n, .inl f)) := h1
  show H[a]? = some (vp_cell cA (n, .inl g))
  rw [h2]
  show some (arrV cA n (fun j => .int (f j))) = some (arrV cA n (fun j => .int (g j)))
  rw [lr_arr_ext (fun j hj => congrArg Value.int (h j hj))]
theorem lr_B_mid {D : va_G} {q : Nat} {A Z : List va_E} {e e' : va_E} {H : Heap} (h : lr_B D q (A ++ e :: Z) H) (hq : lr_aeq e e') : lr_B D q (A ++ e' :: Z) H := by
  refine ⟨by rw [h.1, List.length_append, List.length_append]; rfl, fun i x hi => ?_⟩
  by_cases hl : i < A.length
  · rw [List.getElem?_append_left hl] at hi
    exact h.2 i x (by rw [List.getElem?_append_left hl]; exact hi)
  · rw [List.getElem?_append_right (by omega)] at hi
    by_cases h0 : i - A.length = 0
    · rw [h0] at hi
      cases hi
      exact hq D _ H (h.2 i e (by rw [List.getElem?_append_right (by omega), h0]; rfl))
    · obtain ⟨k, hk⟩ : ∃ k, i - A.length = k + 1 := ⟨i - A.length - 1, by omega⟩
      rw [hk] at hi
      exact h.2 i x (by rw [List.getElem?_append_right (by omega), hk]; exact hi)
def lr_AO : List String := [lr_R0, lr_R2, lr_R3, lr_R5]
def lr_iM : MethodName := ⟨lr_R0, "<init>", "()V"⟩
def lr_iP : MethodName := ⟨lr_R3, "<init>", "()V"⟩
def lr_iQ : MethodName := ⟨lr_R4, "<init>", "()V"⟩
def lr_nest : List (String × Nat × MethodName) := [(lr_R1, 24, lr_iM), (lr_R2, 36, lr_iP), (lr_R2, 39, lr_iQ), (lr_R2, 53, lr_iM), (lr_R6, 27, lr_iM)]
/-- the tables' words that a change of the machine does not keep as they stand: arrays over rows, calls of nest mates -/
def lr_E (U : State) : Prop := (∀ C ∈ lr_AO, va_AO C U) ∧ ∀ w ∈ lr_nest, va_Nw (.methodLinkNest w.1 w.2.1 w.2.2 lr_R6) U
theorem lr_E.warm {s U : State} (hW : s.WarmedH U.vm) (h : lr_E s) : lr_E U := ⟨fun C hC => va_AO.moved hW.alike (h.1 C hC), fun w hw => va_Nw.warmM hW (h.2 w hw)⟩
theorem lr_E.calling {U : State} {g : JFrame} {mk : MethodId} {a : Array Value} (h : lr_E U) : lr_E (U.calling g mk a) := ⟨fun C hC => va_AO.moved (u := U) (U := U.calling g mk a) (Vm.Alike.refl U.vm) (h.1 C hC), fun w hw => va_Nw.same (u := U) (U := U.calling g mk a) rfl rfl (h.2 w hw)⟩
abbrev lr_Y : Type := Program × Launch × Env × Room × State × MethodId × Array Value × List Frame × Method × Code × (State → Prop) × va_G × (Nat → ClassId) × Nat × Heap × Nat
def lr_U : lr_Y → Nat → List (Nat × Value) → List Value → List va_E → Nat → Nat → Prop
  | (p, l, e, R, s, m, args, below, meth, c, Q, D, aC, q, H0, nL), pc, ls, st, ws, cells, slots => ∀ (H : Heap) (locs : List Loc) (la : Array Slot), lr_B D q ws H → va_S (fun a => q ≤ a) H0 H locs → lv_has la nL ls → W p l e R s m args below meth c H locs cells slots Q (F0 m pc la st)
def lr_UC : lr_Y → ByteArray → String → Nat → Room → va_G → (Nat → ClassId) → Nat → Prop
  | (p, l, e, R, s, m, args, below, meth, c, Q, D, aC, q, H0, nL), cc, own, nL', R', D', aC', q' => p.tables.exec = Jvm.exec ∧ c.code = cc ∧ c.maxLocals = nL ∧ s.vm.findClass own = some m.cls ∧ (∀ w ∈ lr_tb, w.before args s = true) ∧ va_K D lr_cl (lr_tys aC) s ∧ lr_E s ∧ (own = "LeasedReferencesLaw" ∨ meth.name = "<init>") ∧ H0.size ≤ q + 1 ∧ nL = nL' ∧ R = R' ∧ D = D' ∧ aC = aC' ∧ q = q'
def lr_UE : lr_Y → List va_E → Nat → Nat → Prop
  | (p, l, e, R, s, m, args, below, meth, c, Q, D, aC, q, H0, nL), ws, mc, ms => Q = MQ below (va_Qv (fun (_ : Unit) => True) (fun _ u => lr_B D q ws u.heap) (fun a => q ≤ a)) args s mc ms (fun a => q ≤ a) ∧ meth.sig.returnType = none ∧ meth.locks = false ∧ H0 = s.heap
def lr_crm (M : lr_M) (mc ms : Nat) : Room := { frames := M.2.2.2.2.1, cells := mc, slots := ms, locals := M.2.2.2.2.2 }
def lr_cPc (as : List Value) (e0 : va_E) (D : va_G) (aC : Nat → ClassId) (q : Nat) : Array Value → State → Prop := fun v U => v = (.ref q :: as : List Value).toArray ∧ lr_B D q [e0] U.heap ∧ va_K D lr_cl (lr_tys aC) U ∧ lr_E U
theorem lr_cPc_blind {as : List Value} {e0 : va_E} {D : va_G} {aC : Nat → ClassId} {q : Nat} : FrameBlind (lr_cPc as e0 D aC q) := fun a U g mk z => ⟨z.1, z.2.1, va_K.moved (u := U) (U := U.calling g mk a) (Vm.Alike.refl U.vm) z.2.2.1, z.2.2.2.calling⟩
/-- a constructor: from the blank cell at q, which is the heap's last, to a block -/
def lr_RC (M : lr_M) (mc ms : Nat) (as : List Value) (e0 : va_E) (D : va_G) (aC : Nat → ClassId) (q : Nat) (ws : List va_E) : Prop := ∀ l : Launch, Met l M.1 (.code M.1 M.2.1 M.2.2.1 M.2.2.2.1 :: lr_tb) (lr_crm M mc ms) (lr_cPc as e0 D aC q) (va_Qv (fun (_ : Unit) => True) (fun _ u => lr_B D q ws u.heap) (fun a => q ≤ a)) mc ms (fun a => q ≤ a)
theorem lr_u_of {M : lr_M} {own : String} {mc ms : Nat} {as : List Value} {e0 : va_E} {D : va_G} {aC : Nat → ClassId} {q : Nat} {ws : List va_E} {ls : List (Nat × Value)} (hy : plainName M.1.cls = true) (hret : M.2.2.2.1 = none) (hown : M.1.cls = own) (hname : M.1.name = "<init>") (hn : (lg_sl (.ref q :: as)).length ≤ M.2.2.1) (hls : lv_args 0 (.ref q :: as) = ls)
    (body : ∀ Y : lr_Y, lr_UC Y M.2.1 own M.2.2.1 (lr_crm M mc ms) D aC q → lr_UE Y ws mc ms → lr_U Y 0 ls [] [e0] 0 0) : lr_RC M mc ms as e0 D aC q ws := by
  intro l
  refine Met.ofW (cc := M.2.1) (maxL := M.2.2.1) (ret := M.2.2.2.1) hy rfl ?_
  intro p e s m args below meth c s₁ B hml hv
  obtain ⟨rfl, hB, hK, hE⟩ := hv
  have hts := atoms_spec (ws := .code M.1 M.2.1 M.2.2.1 M.2.2.2.1 :: lr_tb) B.pre
  have hl := lv_entry (.ref q :: as) (n := M.2.2.1) hn
  rw [lg_entry_eq]
  rw [hls] at hl
  have hr := B.returns
  exact body (p, l, e, lr_crm M mc ms, s, m, (.ref q :: as : List Value).toArray, below, meth, c, _, D, aC, q, s.heap, M.2.2.1) ⟨B.exec, B.bytes, hml, by rw [← hown]; exact findClass_of_methodNamed B.named, fun w h => hts w (List.mem_cons_of_mem _ h), hK, hE, Or.inr ((name_of_methodNamed B.named B.method).1.trans hname), (Nat.le_of_eq hB.1), rfl, rfl, rfl, rfl, rfl⟩ ⟨rfl, hr.trans hret, B.notSynchronized, rfl⟩ s.heap [] _ hB va_S.rf hl
section
variable {Y : lr_Y} {cc : ByteArray} {own : String} {nL : Nat} {R : Room} {D : va_G} {aC : Nat → ClassId} {q : Nat} {pc : Nat} {ls : List (Nat × Value)} {st : List Value} {ws : List va_E} {cells slots : Nat}
theorem lr_u_cast {ws' : List va_E} {cells' slots' : Nat} {ls' : List (Nat × Value)} {st' : List Value} (h1 : ws = ws') (h2 : cells = cells') (h3 : slots = slots') (h4 : ls = ls') (h5 : st = st') (kk : lr_U Y pc ls' st' ws' cells' slots') : lr_U Y pc ls st ws cells slots := by
  subst h1; subst h2; subst h3; subst h4; subst h5
  exact kk
theorem lr_u_mid {A Z : List va_E} {e e' : va_E} (hq : lr_aeq e e') (kk : lr_U Y pc ls st (A ++ e' :: Z) cells slots) : lr_U Y pc ls st (A ++ e :: Z) cells slots := by
  obtain ⟨p, l, e, R, s, m, args, below, meth, c, Q, D, aC, q, H0, nL⟩ := Y
  intro H locs la hB hS hl
  exact kk H locs la (lr_B_mid hB hq) hS hl
theorem lr_u_ret (C : lr_UC Y cc own nL R D aC q) (E : lr_UE Y ws cells slots) (hd : decode cc pc = .ok (.return_, 1)) : lr_U Y pc ls [] ws cells slots := by
  obtain ⟨p, l, e, R, s, m, args, below, meth, c, Q, D, aC, q, H0, nL⟩ := Y
  obtain ⟨hx, hb, hml, hown, hts, hK, hE, hin, hz, rfl, rfl, rfl, rfl, rfl⟩ := C
  obtain ⟨rfl, hr, hlocks, rfl⟩ := E
  intro H locs la hB hS hl
  exact W.vret hx hb hr (fun u hu hw => ⟨⟨(), rfl, trivial, by subst hu; exact hB⟩, hS.F hu⟩) hS.2.2 hd
theorem lr_u_iconst (C : lr_UC Y cc own nL R D aC q) {n : Int} {v : Int32} (hd : decode cc pc = .ok (.iconst n, 1)) (hv : Int32.ofInt n = v) (kk : lr_U Y (pc + 1) ls (.int v :: st) ws cells slots) : lr_U Y pc ls st ws cells slots := by
  obtain ⟨p, l, e, R, s, m, args, below, meth, c, Q, D, aC, q, H0, nL⟩ := Y
  obtain ⟨hx, hb, hml, hown, hts, hK, hE, hin, hz, rfl, rfl, rfl, rfl, rfl⟩ := C
  intro H locs la hB hS hl
  exact lv_iconst hx hb hd hv (kk H locs la hB hS hl)
theorem lr_u_bipush (C : lr_UC Y cc own nL R D aC q) {n : Int} {v : Int32} (hd : decode cc pc = .ok (.bipush n, 2)) (hv : (Int8.ofInt n).toInt32 = v) (kk : lr_U Y (pc + 2) ls (.int v :: st) ws cells slots) : lr_U Y pc ls st ws cells slots := by
  obtain ⟨p, l, e, R, s, m, args, below, meth, c, Q, D, aC, q, H0, nL⟩ := Y
  obtain ⟨hx, hb, hml, hown, hts, hK, hE, hin, hz, rfl, rfl, rfl, rfl, rfl⟩ := C
  intro H locs la hB hS hl
  exact lv_bipush hx hb hd hv (kk H locs la hB hS hl)
theorem lr_u_sipush (C : lr_UC Y cc own nL R D aC q) {n : Int} {v : Int32} (hd : decode cc pc = .ok (.sipush n, 3)) (hv : (Int16.ofInt n).toInt32 = v) (kk : lr_U Y (pc + 3) ls (.int v :: st) ws cells slots) : lr_U Y pc ls st ws cells slots := by
  obtain ⟨p, l, e, R, s, m, args, below, meth, c, Q, D, aC, q, H0, nL⟩ := Y
  obtain ⟨hx, hb, hml, hown, hts, hK, hE, hin, hz, rfl, rfl, rfl, rfl, rfl⟩ := C
  intro H locs la hB hS hl
  exact lv_sipush hx hb hd hv (kk H locs la hB hS hl)
theorem lr_u_iload (C : lr_UC Y cc own nL R D aC q) {n : Fin 4} {i : Nat} {x : Int32} (hd : decode cc pc = .ok (.iload_n n, 1)) (hn : (n : Nat) = i) (k : Nat) (hl : ls[k]? = some (i, .int x)) (kk : lr_U Y (pc + 1) ls (.int x :: st) ws cells slots) : lr_U Y pc ls st ws cells slots := by
  obtain ⟨p, l, e, R, s, m, args, below, meth, c, Q, D, aC, q, H0, nL⟩ := Y
  obtain ⟨hx, hb, hml, hown, hts, hK, hE, hin, hz, rfl, rfl, rfl, rfl, rfl⟩ := C
  intro H locs la hB hS hl'
  exact lv_iload_n hx hb hd hn (lv_at hl' k hl) (kk H locs la hB hS hl')
theorem lr_u_aload (C : lr_UC Y cc own nL R D aC q) {n : Fin 4} {i : Nat} {x : Nat} (hd : decode cc pc = .ok (.aload_n n, 1)) (hn : (n : Nat) = i) (k : Nat) (hl : ls[k]? = some (i, .ref x)) (kk : lr_U Y (pc + 1) ls (.ref x :: st) ws cells slots) : lr_U Y pc ls st ws cells slots := by
  obtain ⟨p, l, e, R, s, m, args, below, meth, c, Q, D, aC, q, H0, nL⟩ := Y
  obtain ⟨hx, hb, hml, hown, hts, hK, hE, hin, hz, rfl, rfl, rfl, rfl, rfl⟩ := C
  intro H locs la hB hS hl'
  exact lv_aload_n hx hb hd hn (lv_at hl' k hl) (kk H locs la hB hS hl')
theorem lr_u_istore (C : lr_UC Y cc own nL R D aC q) {n : Fin 4} {i : Nat} {x : Int32} {ls' : List (Nat × Value)} (hd : decode cc pc = .ok (.istore_n n, 1)) (hn : (n : Nat) = i) (hi : i < nL) (hl : (i, Value.int x) :: ls.filter (fun q => !(q.1 == i) && !(q.1 + 1 == i && q.2.category == 2)) = ls') (kk : lr_U Y (pc + 1) ls' st ws cells slots) : lr_U Y pc ls (.int x :: st) ws cells slots := by
  obtain ⟨p, l, e, R, s, m, args, below, meth, c, Q, D, aC, q, H0, nL⟩ := Y
  obtain ⟨hx, hb, hml, hown, hts, hK, hE, hin, hz, rfl, rfl, rfl, rfl, rfl⟩ := C
  intro H locs la hB hS hl'
  exact lv_istore_n hx hb hd hn hl' hi hl (fun la' h' => kk H locs la' hB hS h')
theorem lr_u_astore (C : lr_UC Y cc own nL R D aC q) {n : Fin 4} {i : Nat} {x : Nat} {ls' : List (Nat × Value)} (hd : decode cc pc = .ok (.astore_n n, 1)) (hn : (n : Nat) = i) (hi : i < nL) (hl : (i, Value.ref x) :: ls.filter (fun q => !(q.1 == i) && !(q.1 + 1 == i && q.2.category == 2)) = ls') (kk : lr_U Y (pc + 1) ls' st ws cells slots) : lr_U Y pc ls (.ref x :: st) ws cells slots := by
  obtain ⟨p, l, e, R, s, m, args, below, meth, c, Q, D, aC, q, H0, nL⟩ := Y
  obtain ⟨hx, hb, hml, hown, hts, hK, hE, hin, hz, rfl, rfl, rfl, rfl, rfl⟩ := C
  intro H locs la hB hS hl'
  exact lv_astore_n hx hb hd hn hl' hi hl (fun la' h' => kk H locs la' hB hS h')
theorem lr_u_iinc (C : lr_UC Y cc own nL R D aC q) {i k : Nat} {n : Int} {x v : Int32} {ls' : List (Nat × Value)} (hd : decode cc pc = .ok (.iinc i n, 3)) (hk : ls[k]? = some (i, .int x)) (hv : x + Int32.ofInt n = v) (hi : i < nL) (hl : (i, Value.int v) :: ls.filter (fun q => !(q.1 == i) && !(q.1 + 1 == i && q.2.category == 2)) = ls') (kk : lr_U Y (pc + 3) ls' st ws cells slots) : lr_U Y pc ls st ws cells slots := by
  obtain ⟨p, l, e, R, s, m, args, below, meth, c, Q, D, aC, q, H0, nL⟩ := Y
  obtain ⟨hx, hb, hml, hown, hts, hK, hE, hin, hz, rfl, rfl, rfl, rfl, rfl⟩ := C
  intro H locs la hB hS hl'
  exact lv_iinc hx hb hd hl' hk hv hi hl (fun la' h' => kk H locs la' hB hS h')
theorem lr_u_dup (C : lr_UC Y cc own nL R D aC q) {v : Value} (hd : decode cc pc = .ok (.dup, 1)) (hv : v.category = 1) (kk : lr_U Y (pc + 1) ls (v :: v :: st) ws cells slots) : lr_U Y pc ls (v :: st) ws cells slots := by
  obtain ⟨p, l, e, R, s, m, args, below, meth, c, Q, D, aC, q, H0, nL⟩ := Y
  obtain ⟨hx, hb, hml, hown, hts, hK, hE, hin, hz, rfl, rfl, rfl, rfl, rfl⟩ := C
  intro H locs la hB hS hl'
  exact lv_dup hx hb hd hv (kk H locs la hB hS hl')
theorem lr_u_icmp_ge (C : lr_UC Y cc own nL R D aC q) {x y : Int32} {off : Int} {tgt : Nat} (hd : decode cc pc = .ok (.if_icmp .ge off, 3)) (ht : (pc : Int) + off = (tgt : Int)) (kt : y ≤ x → lr_U Y tgt ls st ws cells slots) (kf : ¬ y ≤ x → lr_U Y (pc + 3) ls st ws cells slots) : lr_U Y pc ls (.int y :: .int x :: st) ws cells slots := by
  obtain ⟨p, l, e, R, s, m, args, below, meth, c, Q, D, aC, q, H0, nL⟩ := Y
  obtain ⟨hx, hb, hml, hown, hts, hK, hE, hin, hz, rfl, rfl, rfl, rfl, rfl⟩ := C
  intro H locs la hB hS hl'
  exact lv_icmp_ge hx hb hd ht (fun h => kt h H locs la hB hS hl') (fun h => kf h H locs la hB hS hl')
theorem lr_u_goto (C : lr_UC Y cc own nL R D aC q) {off : Int} {tgt : Nat} (hd : decode cc pc = .ok (.goto off, 3)) (ht : (pc : Int) + off = (tgt : Int)) (kk : lr_U Y tgt ls st ws cells slots) : lr_U Y pc ls st ws cells slots := by
  obtain ⟨p, l, e, R, s, m, args, below, meth, c, Q, D, aC, q, H0, nL⟩ := Y
  obtain ⟨hx, hb, hml, hown, hts, hK, hE, hin, hz, rfl, rfl, rfl, rfl, rfl⟩ := C
  intro H locs la hB hS hl'
  exact lv_goto hx hb hd ht (kk H locs la hB hS hl')
theorem lr_u_obj (C : lr_UC Y cc own nL R D aC q) {a idx : Nat} (hd : decode cc pc = .ok (.invokespecial idx, 3)) (w : Cond.methodLink own idx Lib.objectInit ∈ lr_tb) (w2 : Cond.instanceMethod Lib.objectInit ∈ lr_tb) (w3 : Cond.code Lib.objectInit ⟨#[0xb1]⟩ 1 none ∈ lr_tb) (hf : 1 ≤ R.frames) (hlo : 12 ≤ R.locals) (kk : lr_U Y (pc + 3) ls [] ws cells slots) : lr_U Y pc ls [.ref a] ws cells slots := by
  obtain ⟨p, l, e, R, s, m, args, below, meth, c, Q, D, aC, q, H0, nL⟩ := Y
  obtain ⟨hx, hb, hml, hown, hts, hK, hE, hin, hz, rfl, rfl, rfl, rfl, rfl⟩ := C
  intro H locs la hB hS hl'
  refine W.objInit hx hb hown (hts _ w) (hts _ w2) (hts _ w3) rfl (by rw [hml]; exact hl'.1) rfl hd hf (by show 2 * 0 + 0 + 12 ≤ _; omega) ?_
  exact kk H locs la hB hS hl'
end
/-- a sort of objects: its place in the list, its fields -/
def lr_cok (C0 : String) (T : u_T) (N ci : Nat) (ty0 : Nat → FieldType) : Prop := lr_cl[ci]? = some (C0, T, N) ∧ (∀ w ∈ u_ws C0 T N, w ∈ lr_tb) ∧ (∀ k, k < N → parseFieldDescriptor (T k).2.2.1 = some (ty0 k)) ∧ (∀ a, a < N → ∀ b, b < N → a ≠ b → (T a).2.1 ≠ (T b).2.1)
theorem lr_cok0 : lr_cok lr_R0 lr_F0 6 0 lr_t0 := ⟨rfl, lr_in0, lr_ty0, lr_nm0⟩
theorem lr_cok1 : lr_cok lr_R1 lr_F1 3 1 lr_t1 := ⟨rfl, lr_in1, lr_ty1, lr_nm1⟩
theorem lr_cok2 : lr_cok lr_R2 lr_F2 10 2 lr_t2 := ⟨rfl, lr_in2, lr_ty2, lr_nm2⟩
theorem lr_cok3 : lr_cok lr_R3 lr_F3 3 3 lr_t3 := ⟨rfl, lr_in3, lr_ty3, lr_nm3⟩
theorem lr_cok4 : lr_cok lr_R4 lr_F4 6 4 lr_t4 := ⟨rfl, lr_in4, lr_ty4, lr_nm4⟩
theorem lr_cok5 : lr_cok lr_R5 lr_F5 13 5 lr_t5 := ⟨rfl, lr_in5, lr_ty5, lr_nm5⟩
theorem lr_cok6 : lr_cok lr_R6 lr_F6 5 6 lr_t6 := ⟨rfl, lr_in6, lr_ty6, lr_nm6⟩
theorem lr_cok7 : lr_cok lr_R7 lr_F7 36 7 lr_t7 := ⟨rfl, lr_in7, lr_ty7, lr_nm7⟩
theorem lr_putF0 {p : Program} {l : Launch} {e : Env} {R : Room} {s : State} {m : MethodId} {args : Array Value} {below : List Frame} {meth : Method} {c : Code} {H : Heap} {locs : List Loc} {cells slots : Nat} {Q : State → Prop} {cc : ByteArray} {pc : Nat} {la : Array Slot} {rest : List Value} {D : va_G} {cl : List vw_C} {tys : List (ClassId × FieldType)} (hexec : p.tables.exec = Jvm.exec) (hb : c.code = cc) {own C : String} {T : u_T} {N ci index : Nat} {Ts : List Cond} (hts : ∀ w ∈ Ts, w.before args s = true) (hin : ∀ w ∈ u_ws C T N, w ∈ Ts) (ty0 : Nat → FieldType) (hty : ∀ k, k < N → parseFieldDescriptor (T k).2.2.1 = some (ty0 k)) (hnm : ∀ a, a < N → ∀ b, b < N → a ≠ b → (T a).2.1 ≠ (T b).2.1) (hown : s.vm.findClass own = some m.cls) (hK : va_K D cl tys s) {a : Nat} {fs : List Value} (he : va_at D cl (a, .inr (ci, fs)) H) (hc : cl[ci]? = some (C, T, N)) (k : Nat) (hk : k < N) (hlink : (Cond.fieldLink own index (T k).1 (T k).2.1 (T k).2.2.1).before args s = true) (hfin : (T k).2.2.2 = true) (hin2 : meth.name = "<init>") (hdecl : (T k).1 = own) {v : Value} (hn : narrow (ty0 k) v = v) (hfit : fits (ty0 k) v = true) (hl : k < fs.length) (hdg : decode cc pc = .ok (.putfield index, 3))
    (kk : ∀ (H1 : Heap) (i : Nat), va_at D cl (a, .inr (ci, fs.set k v)) H1 → H1.size = H.size → (∀ q : Nat, q ≠ a → H1[q]? = H[q]?) → W p l e R s m args below meth c H1 (locs ++ [⟨a, i⟩]) cells slots Q (F0 m (pc + 3) la rest)) : W p l e R s m args below meth c H locs cells slots Q (F0 m pc la (v :: .ref a :: rest)) := by
  obtain ⟨x, cf, kf, fi, f, found, inst, ⟨hx, xvm, wide⟩, fit, -, owner, after⟩ := lr_fp hts hin hty hnm hK hc hk he
  have mine : s.vm.findClass own = some cf := hdecl ▸ owner hfin
  exact W.putFinK hexec hb hown hlink found inst (Option.some.inj (hown.symm.trans mine)) hin2 (fit v hn hfit) hx xvm wide rfl rfl hdg fun H1 h1 z o => kk H1 f.slot (after v H1 hl h1) z o
section
variable {Y : lr_Y} {cc : ByteArray} {own : String} {nL : Nat} {R : Room} {D : va_G} {aC : Nat → ClassId} {q : Nat} {pc : Nat} {ls : List (Nat × Value)} {st : List Value} {ws : List va_E} {cells slots : Nat} {C0 : String} {T : u_T} {N ci : Nat} {ty0 : Nat → FieldType}
theorem lr_u_put (C : lr_UC Y cc own nL R D aC q) (K : lr_cok C0 T N ci ty0) {a j k index : Nat} {fs : List Value} {v : Value} {ws' : List va_E} (hd : decode cc pc = .ok (.putfield index, 3)) (ha : a = q + j) (hw : ws[j]? = some (.inr (ci, fs))) (hk : k < N) (hlk : Cond.fieldLink own index (T k).1 (T k).2.1 (T k).2.2.1 ∈ lr_tb) (hfin : (T k).2.2.2 = false) (hn : narrow (ty0 k) v = v) (hfit : fits (ty0 k) v = true) (hlen : k < fs.length) (hws : ws.set j (.inr (ci, fs.set k v)) = ws') (kk : lr_U Y (pc + 3) ls st ws' cells slots) : lr_U Y pc ls (v :: .ref a :: st) ws cells slots := by
  obtain ⟨p, l, e, R, s, m, args, below, meth, c, Q, D, aC, q, H0, nL⟩ := Y
  obtain ⟨hx, hb, hml, hown, hts, hK, hE, hin, hz, rfl, rfl, rfl, rfl, rfl⟩ := C
  intro H locs la hB hS hl'
  subst ha
  subst hws
  refine lr_put0 hx hb hts K.2.1 ty0 K.2.2.1 K.2.2.2 hown hK (hB.2 j _ hw) K.1 k hk (hts _ hlk) hfin hn hfit hlen hd (fun H1 i1 a1 a2 a3 => ?_)
  exact kk H1 _ la (lr_B_set hB a2 a3 a1) (hS.put a2 a3 (by show q ≤ q + j; omega)) hl'
theorem lr_u_putF (C : lr_UC Y cc own nL R D aC q) (K : lr_cok C0 T N ci ty0) {a j k index : Nat} {fs : List Value} {v : Value} {ws' : List va_E} (hd : decode cc pc = .ok (.putfield index, 3)) (ha : a = q + j) (hw : ws[j]? = some (.inr (ci, fs))) (hk : k < N) (hlk : Cond.fieldLink own index (T k).1 (T k).2.1 (T k).2.2.1 ∈ lr_tb) (hfin : (T k).2.2.2 = true) (hdecl : (T k).1 = own) (hn : narrow (ty0 k) v = v) (hfit : fits (ty0 k) v = true) (hlen : k < fs.length) (hws : ws.set j (.inr (ci, fs.set k v)) = ws') (kk : lr_U Y (pc + 3) ls st ws' cells slots) (hne : own ≠ "LeasedReferencesLaw" := by decide) : lr_U Y pc ls (v :: .ref a :: st) ws cells slots := by
  obtain ⟨p, l, e, R, s, m, args, below, meth, c, Q, D, aC, q, H0, nL⟩ := Y
  obtain ⟨hx, hb, hml, hown, hts, hK, hE, hin, hz, rfl, rfl, rfl, rfl, rfl⟩ := C
  intro H locs la hB hS hl'
  subst ha
  subst hws
  refine lr_putF0 hx hb hts K.2.1 ty0 K.2.2.1 K.2.2.2 hown hK (hB.2 j _ hw) K.1 k hk (hts _ hlk) hfin (hin.resolve_left hne) hdecl hn hfit hlen hd (fun H1 i1 a1 a2 a3 => ?_)
  exact kk H1 _ la (lr_B_set hB a2 a3 a1) (hS.put a2 a3 (by show q ≤ q + j; omega)) hl'
theorem lr_u_get (C : lr_UC Y cc own nL R D aC q) (K : lr_cok C0 T N ci ty0) {a j k index : Nat} {fs : List Value} {v : Value} (hd : decode cc pc = .ok (.getfield index, 3)) (ha : a = q + j) (hw : ws[j]? = some (.inr (ci, fs))) (hk : k < N) (hlk : Cond.fieldLink own index (T k).1 (T k).2.1 (T k).2.2.1 ∈ lr_tb) (hv : fs[k]? = some v) (kk : lr_U Y (pc + 3) ls (v :: st) ws cells slots) : lr_U Y pc ls (.ref a :: st) ws cells slots := by
  obtain ⟨p, l, e, R, s, m, args, below, meth, c, Q, D, aC, q, H0, nL⟩ := Y
  obtain ⟨hx, hb, hml, hown, hts, hK, hE, hin, hz, rfl, rfl, rfl, rfl, rfl⟩ := C
  intro H locs la hB hS hl'
  subst ha
  exact va_get (D := D) (cl := lr_cl) (ws := [(q + j, .inr (ci, fs))]) hx hb hts K.2.1 hown hK (fun a q hq => by
    cases a with
    | zero => cases hq; exact hB.2 j _ hw
    | succ a => simp at hq) 0 rfl K.1 k hk (hts _ hlk) (fun x h => h) hv hd (kk H locs la hB hS hl')
theorem lr_u_new (C : lr_UC Y cc own nL R D aC q) (K : lr_cok C0 T N ci ty0) {a index cells' slots' : Nat} {fs : List Value} {ws' : List va_E} (hd : decode cc pc = .ok (.new index, 3)) (w1 : Cond.classLink own index C0 ∈ lr_tb) (w2 : Cond.instantiable C0 N ∈ lr_tb) (w3 : Cond.initialized C0 ∈ lr_tb) (hfs : ∀ j, j < N → defaultValue (ty0 j) = vp_V fs j) (hc1 : cells' ≤ R.cells) (hs1 : slots' ≤ R.slots) (hc2 : cells + 1 = cells') (hs2 : slots + N = slots') (ha : a = q + ws.length) (hws : ws ++ [.inr (ci, fs)] = ws') (kk : lr_U Y (pc + 3) ls (.ref a :: st) ws' cells' slots') : lr_U Y pc ls st ws cells slots := by
  obtain ⟨p, l, e, R, s, m, args, below, meth, c, Q, D, aC, q, H0, nL⟩ := Y
  obtain ⟨hx, hb, hml, hown, hts, hK, hE, hin, hz, rfl, rfl, rfl, rfl, rfl⟩ := C
  intro H locs la hB hS hl'
  subst ha
  subst hws
  subst hc2
  subst hs2
  have hKn := hK.1 ci _ K.1
  refine W.newcK hx hb hown (hts _ w1) (hts _ w2) (hts _ w3) rfl hd hc1 hs1 hKn.2.1 hB.1 fun H1 kC hkC e1 z1 o1 => ?_
  exact kk H1 locs la (lr_B_push hB (by rw [z1, hB.1]) (fun x hx => o1 x (by rw [← hB.1]; exact hx)) ⟨_, K.1, (u_born ty0 hts K.2.1 hKn hkC e1 K.2.2.1).to hfs⟩) ⟨by have := hS.1; rw [z1]; rw [hB.1] at this; omega, fun x h1 h2 => (o1 x (by have := hS.1; rw [hB.1] at this; omega)).trans (hS.2.1 x h1 h2), hS.2.2⟩ hl'
theorem lr_u_newa (C : lr_UC Y cc own nL R D aC q) {a t0 cells' slots' n : Nat} {x : Int32} {atype : ArrayType} {ty : FieldType} {ws' : List va_E} (hd : decode cc pc = .ok (.newarray atype, 2)) (hty : newarray.typeOf atype = ty) (w1 : Cond.arrayClass ty ∈ lr_tb) (ht0 : ∀ aC, (lr_tys aC)[t0]? = some (aC t0, ty)) (hra : ∀ (s : State) (cA : ClassId), va_RA s cA ty = (s.vm.findClass ("[" ++ ty.toString) = some cA)) (hdv : defaultValue ty = .int 0) (hn : ¬ x < 0) (hN : x.toNatClampNeg = n) (hby : n * componentBytes ty ≤ 536870912) (hc1 : cells' ≤ R.cells) (hs1 : slots' ≤ R.slots) (hc2 : cells + 1 = cells') (hs2 : slots + n = slots') (ha : a = q + ws.length) (hws : ws ++ [.inl (aC t0, n, .inl (fun _ => 0))] = ws') (kk : lr_U Y (pc + 2) ls (.ref a :: st) ws' cells' slots') : lr_U Y pc ls (.int x :: st) ws cells slots := by
  obtain ⟨p, l, e, R, s, m, args, below, meth, c, Q, D, aC, q, H0, nL⟩ := Y
  obtain ⟨hx, hb, hml, hown, hts, hK, hE, hin, hz, rfl, rfl, rfl, rfl, rfl⟩ := C
  intro H locs la hB hS hl'
  subst ha
  subst hws
  subst hc2
  subst hs2
  subst hty
  refine va_newaK hx hb (hts _ w1) rfl hd rfl hn hN hby hc1 hs1 hB.1 fun H1 cA e1 z1 o1 hAr hNm => ?_
  have h1 := (hK.2 t0 _ (ht0 aC)).2
  rw [hra] at h1
  have hcA : cA = aC t0 := Option.some.inj (hNm.symm.trans h1)
  subst hcA
  rw [hdv] at e1
  exact kk H1 locs la (lr_B_push hB (by rw [z1, hB.1]) (fun x hx => o1 x (by rw [← hB.1]; exact hx)) e1) ⟨by have := hS.1; rw [z1]; rw [hB.1] at this; omega, fun x h1 h2 => (o1 x (by have := hS.1; rw [hB.1] at this; omega)).trans (hS.2.1 x h1 h2), hS.2.2⟩ hl'
theorem lr_u_anew (C : lr_UC Y cc own nL R D aC q) {a t0 cells' slots' n index : Nat} {x : Int32} {C1 : String} {ws' : List va_E} (hd : decode cc pc = .ok (.anewarray index, 3)) (w1 : Cond.classLink own index C1 ∈ lr_tb) (w2 : C1 ∈ lr_AO) (ht0 : ∀ aC, (lr_tys aC)[t0]? = some (aC t0, .object C1)) (hn : ¬ x < 0) (hN : x.toNatClampNeg = n) (hby : n * 4 ≤ 536870912) (hc1 : cells' ≤ R.cells) (hs1 : slots' ≤ R.slots) (hc2 : cells + 1 = cells') (hs2 : slots + n = slots') (ha : a = q + ws.length) (hws : ws ++ [.inl (aC t0, n, lr_rs (fun _ => none))] = ws') (kk : lr_U Y (pc + 3) ls (.ref a :: st) ws' cells' slots') : lr_U Y pc ls (.int x :: st) ws cells slots := by
  obtain ⟨p, l, e, R, s, m, args, below, meth, c, Q, D, aC, q, H0, nL⟩ := Y
  obtain ⟨hx, hb, hml, hown, hts, hK, hE, hin, hz, rfl, rfl, rfl, rfl, rfl⟩ := C
  intro H locs la hB hS hl'
  subst ha
  subst hws
  subst hc2
  subst hs2
  subst hN
  refine W.anew hx hb hown (hts _ w1) (va_AO.use (hE.1 _ w2)) rfl hd rfl hn hby hc1 hs1 fun cA kA comp f1 f2 f3 f4 => ?_
  have h1 : va_RA s (aC t0) (.object C1) := (hK.2 t0 _ (ht0 aC)).2
  obtain ⟨_, _, -, -, -, h5⟩ := h1
  have hcA : cA = aC t0 := Option.some.inj (f1.symm.trans h5)
  subst hcA
  generalize hH1 : H.push ({ cls := aC t0, slots := Array.replicate x.toNatClampNeg .null, vm := .none } : Cell) = H1
  have z1 : H1.size = H.size + 1 := by rw [← hH1, Array.size_push]
  have e1 : H1[H.size]? = some (arrV (aC t0) x.toNatClampNeg (fun _ => .null)) := by rw [← hH1, Array.getElem?_push_size, ← arrV_new]
  have o1 : ∀ a : Nat, a < H.size → H1[a]? = H[a]? := fun a ha => by rw [← hH1, Array.getElem?_push, if_neg (Nat.ne_of_lt ha)]
  have hs := hB.1
  have e2 : W p l e R s m args below meth c H1 locs (cells + 1) (slots + x.toNatClampNeg) Q (F0 m (pc + 3) la (.ref H.size :: st)) := by
    rw [hs] at e1 ⊢
    exact kk H1 locs la (lr_B_push hB z1 o1 e1) ⟨Nat.le_trans hS.1 (by omega), fun x h1 h2 => (o1 x (Nat.lt_of_lt_of_le h1 hS.1)).trans (hS.2.1 x h1 h2), hS.2.2⟩ hl'
  exact e2
theorem lr_u_aast (C : lr_UC Y cc own nL R D aC q) {a j0 t0 v j1 n : Nat} {i : Int32} {f : Nat → Option Nat} {r : vw_C} {vs : List Value} {ws' : List va_E} (hd : decode cc pc = .ok (.aastore, 1)) (ha : a = q + j0) (hw : ws[j0]? = some (.inl (aC t0, n, lr_rs f))) (ht0 : ∀ aC, (lr_tys aC)[t0]? = some (aC t0, .object r.1)) (hv : v = q + j1) (hw1 : ws[j1]? = some (.inr (ci, vs))) (hc : lr_cl[ci]? = some r) (hi : vp_in i n) (hws : ws.set j0 (.inl (aC t0, n, lr_rs (va_up f i.toNatClampNeg (some v)))) = ws') (kk : lr_U Y (pc + 1) ls st ws' cells slots) : lr_U Y pc ls (.ref v :: .int i :: .ref a :: st) ws cells slots := by
  obtain ⟨p, l, e, R, s, m, args, below, meth, c, Q, D, aC, q, H0, nL⟩ := Y
  obtain ⟨hx, hb, hml, hown, hts, hK, hE, hin, hz, rfl, rfl, rfl, rfl, rfl⟩ := C
  intro H locs la hB hS hl'
  subst ha
  subst hws
  subst hv
  have hlt : i.toNatClampNeg < n := Nat.not_le.mp fun z => hi (Or.inr z)
  have hi0 : ¬ i < 0 := fun z => hi (Or.inl z)
  obtain ⟨r', hr', cellV, g1, g2, g3, -⟩ := hB.2 j1 _ hw1
  have hcls := (hK.1 ci r hc).2
  obtain ⟨kA, comp, k1, k2, k3, -⟩ := (hK.2 t0 _ (ht0 aC)).2
  have hcomp : comp = D.1 ci := Option.some.inj (k3.symm.trans hcls.1)
  subst hcomp
  obtain ⟨kC, hkC, -⟩ := hcls.2
  have h0 : H[q + j0]? = some (arrV (aC t0) n (fun j => va_rf (f j))) := hB.2 j0 _ hw
  refine W.aast (cell := arrV (aC t0) n (fun j => va_rf (f j))) hx hb h0 (fun z h => by cases h) (fun h => by cases h) k1 k2 rfl hkC ⟨hi0, by rw [arrV_size]; exact hlt⟩ g1 (fun z h => by rw [g3] at h; cases h) (by rw [g2]; exact hkC) (by rw [g2]; exact va_assign hcls) rfl rfl hd fun H1 e z oq => ?_
  refine kk H1 _ la (lr_B_set hB z oq ?_) (hS.put z oq (by show q ≤ q + j0; omega)) hl'
  show H1[q + j0]? = some (arrV (aC t0) n (fun j => va_rf (va_up f i.toNatClampNeg (some (q + j1)) j)))
  rw [e, arrV_store]
  congr 2
  funext x
  by_cases hq : x = i.toNatClampNeg
  · subst hq
    simp [updV, va_up, va_rf]
  · simp [updV, va_up, hq]
theorem lr_u_iast (C : lr_UC Y cc own nL R D aC q) {a j0 n : Nat} {i x : Int32} {f : Nat → Int32} {ws' : List va_E} (hd : decode cc pc = .ok (.iastore, 1)) (ha : a = q + j0) (hw : ws[j0]? = some (.inl (aC 0, n, .inl f))) (hi : vp_in i n) (hws : ws.set j0 (.inl (aC 0, n, .inl (upd f i.toNatClampNeg x))) = ws') (kk : lr_U Y (pc + 1) ls st ws' cells slots) : lr_U Y pc ls (.int x :: .int i :: .ref a :: st) ws cells slots := by
  obtain ⟨p, l, e, R, s, m, args, below, meth, c, Q, D, aC, q, H0, nL⟩ := Y
  obtain ⟨hx, hb, hml, hown, hts, hK, hE, hin, hz, rfl, rfl, rfl, rfl, rfl⟩ := C
  intro H locs la hB hS hl'
  subst ha
  subst hws
  have h0 : H[q + j0]? = some (arrV (aC 0) n (fun j => .int (f j))) := hB.2 j0 _ hw
  refine W.iast hx hb h0 ((hK.2 0 _ rfl).1 n (fun j => .int (f j))) (fun z => by cases z) (by rw [arrV_size]; exact hi) rfl rfl hd fun H1 e z oq => ?_
  refine kk H1 _ la (lr_B_set hB z oq ?_) (hS.put z oq (by show q ≤ q + j0; omega)) hl'
  show H1[q + j0]? = some (arrV (aC 0) n (fun j => .int (upd f i.toNatClampNeg x j)))
  rw [e, arrV_store]
  congr 2
  funext y
  by_cases hq : y = i.toNatClampNeg
  · subst hq
    simp [updV, upd]
  · simp [updV, upd, hq]
theorem lr_u_call0 (C : lr_UC Y cc own nL R D aC q) {M : lr_M} {idx mc ms a cells' slots' : Nat} {as : List Value} {e0 : va_E} {bs ws0 ws' : List va_E} {stk : List Value} (hR : lr_RC M mc ms as e0 D aC (q + ws0.length) bs) (hname : M.1.name = "<init>") (hret : M.2.2.2.1 = none) (hd : decode cc pc = .ok (.invokespecial idx, 3)) (hd2 : M.1.cls ≠ "java/lang/invoke/MethodHandle" ∧ M.1.cls ≠ "java/lang/invoke/VarHandle" ∧ (parseMethodDescriptor M.1.desc).map (fun d => d.parameters.length) = some as.length) (hl : Cond.methodLink own idx M.1 ∈ lr_tb ∨ (own, idx, M.1) ∈ lr_nest) (w2 : Cond.instanceMethod M.1 ∈ lr_tb) (w3 : Cond.initialized M.1.cls ∈ lr_tb) (w4 : Cond.code M.1 M.2.1 M.2.2.1 M.2.2.2.1 ∈ lr_tb) (hroom : M.2.2.2.2.1 + 1 ≤ R.frames ∧ 8 + (M.2.2.1 + 11) + M.2.2.2.2.2 ≤ R.locals) (hsm : (st.map fun v => v.category).sum ≤ 8) (ha : a = q + ws0.length) (hws0 : ws = ws0 ++ [e0]) (hstk : stk = as.reverse ++ .ref a :: st) (hc1 : cells' ≤ R.cells) (hs1 : slots' ≤ R.slots) (hc2 : cells + mc = cells') (hs2 : slots + ms = slots') (hws : ws0 ++ bs = ws') (kk : lr_U Y (pc + 3) ls st ws' cells' slots') : lr_U Y pc ls stk ws cells slots := by
  obtain ⟨p, l, e, R, s, m, args, below, meth, c, Q, D, aC, q, H0, nL⟩ := Y
  obtain ⟨hx, hb, hml, hown, hts, hK, hE, hin, hz, rfl, rfl, rfl, rfl, rfl⟩ := C
  intro H locs la hB hS hl'
  subst ha
  subst hws0
  subst hws
  subst hstk
  subst hc2
  subst hs2
  obtain ⟨y, bytes, maxL, ret, fr, lc⟩ := M
  have hret : ret = none := hret
  subst hret
  have hgo : va_Run p l e R s m args below meth c H locs cells slots mc ms (F0 m pc la (as.reverse ++ .ref (q + ws0.length) :: st)) st (va_Qv (fun (_ : Unit) => True) (fun _ u => lr_B D (q + ws0.length) bs u.heap) (fun a => q + ws0.length ≤ a) (Value.ref (q + ws0.length) :: as).toArray) (fun a => q + ws0.length ≤ a) := by
    have hp : PreS s H (lr_cPc as e0 D aC (q + ws0.length)) (.ref (q + ws0.length) :: as) := ⟨lr_cPc_blind, fun U hU hw => ⟨rfl, by rw [hU]; exact lr_B_last hB, va_K.moved hw.alike hK, hE.warm hw⟩⟩
    rcases hl with hl | hl
    · exact va_runI (rest := st) (As := as) (b := q + ws0.length) (n := as.length) (maxL := maxL) (bytes := bytes) ⟨hx, hb, hml, hown, hts⟩ (hR l) ⟨callB_of as.length hts (lr_goodc w4) rfl rfl rfl (hts _ w3) (hts _ hl) hd2 hroom, hname, hts _ w2⟩ hp rfl rfl hl'.1 rfl (lv_room hsm) hd ⟨hc1, hs1⟩
    · exact va_runIN (host := lr_R6) (rest := st) (As := as) (b := q + ws0.length) (n := as.length) (maxL := maxL) (bytes := bytes) ⟨hx, hb, hml, hown, hts⟩ (hR l) ⟨va_cnB as.length hts (lr_goodc w4) rfl rfl rfl (hE.2 _ hl) (hts _ w3) hd2 hroom, hname, hts _ w2⟩ hp rfl rfl hl'.1 rfl (lv_room hsm) hd ⟨hc1, hs1⟩
  refine va_callv (A0 := fun a => q ≤ a) (H0 := H0) hgo hS (fun x _ h => by have h : q + ws0.length ≤ x := h; show q ≤ x; omega) (fun x h => by have h : q + ws0.length ≤ x := h; show q ≤ x; omega) (fun _ u H1 locs1 hu hvm hr1 hB1 hz1 hk1 hS1 => ?_)
  subst hu
  refine kk _ _ la (lr_B_app hB hB1 (fun x hx => hk1 x ?_ ?_)) hS1 hl'
  · have := hB.1
    rw [List.length_append] at this
    omega
  · intro h
    have h : q + ws0.length ≤ x := h
    omega
end
