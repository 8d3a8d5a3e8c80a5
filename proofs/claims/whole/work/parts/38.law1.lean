/-! THE CLAIM OUT OF ONE WALK OF THE LAW'S BODY. Your part is whole_start (and what it stands on); all else here is the same for every law, but numbers. -/
def R_law : String := "LeasedReferencesLaw"
def lw_P (b : Addr) (xs : List Int32) (args : Array Value) (s : State) : Prop := args = #[.ref b] ∧ s.IntsAt b xs ∧ xs.length ≤ 320 ∧ (Jvm.Cond.and given_1 narrow_1).before args s = true
def lw_Q (_ : Array Value) (s : State) (o : Outcome) (t : State) : Prop := o = .returned (some (.int 1)) ∧ Framed s o t [] 600000 7302250
def lw_Z (below : List Frame) (a : Array Value) (s : State) : State → Prop := fun t => ∃ o, t.status = .running ∧ Ended t below o ∧ lw_Q a s o t
/-- the law's own end, with 1 on the stack, nothing written that was there before, its room as the claim has it -/
theorem lw_ret {p : Program} {l : Launch} {e : Env} {s : State} {m : MethodId} {below : List Frame} {meth : Method} {c : Code} {b : Nat} (hx : p.tables.exec = Jvm.exec) (hb : c.code = code) (hr : meth.sig.returnType = ret) (hlocks : meth.locks = false) {pc : Nat} {H : Heap} {ls : Array Slot} (hdg : decode code pc = .ok (.ireturn, 1)) : W p l e room_1 s m #[Value.ref b] below meth c H [] 600000 7302250 (lw_Z below #[Value.ref b] s) (F0 m pc ls [.int 1]) := by
  intro T hT X
  obtain ⟨fs, hret, hrun, hended, hW, hframe⟩ := X.leave (v := some (.int 1)) (hlocks := hlocks) (fun h => by rw [hr] at h; cases h)
  have hmeth' : T.vm.method? m = some meth := X.method'
  refine ⟨T.setFrames fs, ?_, .returned (some (.int 1)), hrun, hended, rfl, ⟨_, rfl⟩, hW, hframe⟩
  jvm_step X.here [X.here.top, hx, hb, hdg, hmeth', hr, ret, narrow_b1]
  (try refine ⟨rfl, ?_⟩); (try refine ⟨rfl, ?_⟩)
  first | (intro acts; rw [hret _ acts rfl rfl rfl]) | rw [hret _ _ rfl rfl rfl]
  exact Steps.refl _
/-- what holds at the law's entry: the machine, the code, the tables' words (any of lw_tbl by 'hts w (by decide +kernel)'), the script of L ints xs at the cell b, what the Statement gives of the start (any of its parts by flat_of_before) -/
def lw_At (p : Program) (s : State) (m : MethodId) (meth : Method) (c : Code) (b L : Nat) (xs : Nat → Int32) : Prop :=
  p.tables.exec = Jvm.exec ∧ c.code = code ∧ meth.sig.returnType = ret ∧ c.maxLocals = 4 ∧ s.vm.findClass R_law = some m.cls ∧ (∀ w ∈ lw_tbl, w.before #[Value.ref b] s = true) ∧ va_X b L xs s s.heap ∧ b < s.heap.size ∧ meth.locks = false ∧ (Jvm.Cond.and given_1 narrow_1).before #[Value.ref b] s = true
theorem lr_cL_13 : lr_siteV R_law 13 lr_m_X_make 2 := ⟨lr_mem 294 (by decide +kernel) (by decide +kernel), lr_mem 295 (by decide +kernel) (by decide +kernel), lr_mem 296 (by decide +kernel) (by decide +kernel), lr_mem 45 (by decide +kernel) (by decide +kernel), lr_mem 297 (by decide +kernel) (by decide +kernel), by decide +kernel⟩
theorem lr_cL_17 : lr_siteV R_law 17 lr_m_M_make 2 := ⟨lr_mem 691 (by decide +kernel) (by decide +kernel), lr_mem 692 (by decide +kernel) (by decide +kernel), lr_mem 693 (by decide +kernel) (by decide +kernel), lr_mem 52 (by decide +kernel) (by decide +kernel), lr_mem 694 (by decide +kernel) (by decide +kernel), by decide +kernel⟩
theorem lr_cL_18 : lr_siteV R_law 18 lr_m_X_link 4 := ⟨lr_mem 316 (by decide +kernel) (by decide +kernel), lr_mem 317 (by decide +kernel) (by decide +kernel), lr_mem 318 (by decide +kernel) (by decide +kernel), lr_mem 45 (by decide +kernel) (by decide +kernel), lr_mem 319 (by decide +kernel) (by decide +kernel), by decide +kernel⟩
theorem lr_cL_22 : lr_siteV R_law 22 lr_m_M_link 4 := ⟨lr_mem 706 (by decide +kernel) (by decide +kernel), lr_mem 707 (by decide +kernel) (by decide +kernel), lr_mem 708 (by decide +kernel) (by decide +kernel), lr_mem 52 (by decide +kernel) (by decide +kernel), lr_mem 709 (by decide +kernel) (by decide +kernel), by decide +kernel⟩
theorem lr_cL_23 : lr_siteV R_law 23 lr_m_X_fetch 4 := ⟨lr_mem 327 (by decide +kernel) (by decide +kernel), lr_mem 328 (by decide +kernel) (by decide +kernel), lr_mem 329 (by decide +kernel) (by decide +kernel), lr_mem 45 (by decide +kernel) (by decide +kernel), lr_mem 330 (by decide +kernel) (by decide +kernel), by decide +kernel⟩
theorem lr_cL_26 : lr_siteV R_law 26 lr_m_M_fetch 4 := ⟨lr_mem 714 (by decide +kernel) (by decide +kernel), lr_mem 715 (by decide +kernel) (by decide +kernel), lr_mem 716 (by decide +kernel) (by decide +kernel), lr_mem 52 (by decide +kernel) (by decide +kernel), lr_mem 717 (by decide +kernel) (by decide +kernel), by decide +kernel⟩
theorem lr_cL_27 : lr_siteV R_law 27 lr_m_X_drop 2 := ⟨lr_mem 331 (by decide +kernel) (by decide +kernel), lr_mem 332 (by decide +kernel) (by decide +kernel), lr_mem 333 (by decide +kernel) (by decide +kernel), lr_mem 45 (by decide +kernel) (by decide +kernel), lr_mem 334 (by decide +kernel) (by decide +kernel), by decide +kernel⟩
theorem lr_cL_31 : lr_siteV R_law 31 lr_m_M_drop 2 := ⟨lr_mem 718 (by decide +kernel) (by decide +kernel), lr_mem 719 (by decide +kernel) (by decide +kernel), lr_mem 720 (by decide +kernel) (by decide +kernel), lr_mem 52 (by decide +kernel) (by decide +kernel), lr_mem 721 (by decide +kernel) (by decide +kernel), by decide +kernel⟩
theorem lr_cL_32 : lr_siteV R_law 32 lr_m_X_pass 4 := ⟨lr_mem 335 (by decide +kernel) (by decide +kernel), lr_mem 336 (by decide +kernel) (by decide +kernel), lr_mem 337 (by decide +kernel) (by decide +kernel), lr_mem 45 (by decide +kernel) (by decide +kernel), lr_mem 338 (by decide +kernel) (by decide +kernel), by decide +kernel⟩
theorem lr_cL_36 : lr_siteV R_law 36 lr_m_M_pass 4 := ⟨lr_mem 722 (by decide +kernel) (by decide +kernel), lr_mem 723 (by decide +kernel) (by decide +kernel), lr_mem 724 (by decide +kernel) (by decide +kernel), lr_mem 52 (by decide +kernel) (by decide +kernel), lr_mem 725 (by decide +kernel) (by decide +kernel), by decide +kernel⟩
theorem lr_cL_37 : lr_siteV R_law 37 lr_m_X_call 3 := ⟨lr_mem 371 (by decide +kernel) (by decide +kernel), lr_mem 372 (by decide +kernel) (by decide +kernel), lr_mem 373 (by decide +kernel) (by decide +kernel), lr_mem 45 (by decide +kernel) (by decide +kernel), lr_mem 374 (by decide +kernel) (by decide +kernel), by decide +kernel⟩
theorem lr_cL_41 : lr_siteV R_law 41 lr_m_M_call 3 := ⟨lr_mem 742 (by decide +kernel) (by decide +kernel), lr_mem 743 (by decide +kernel) (by decide +kernel), lr_mem 744 (by decide +kernel) (by decide +kernel), lr_mem 52 (by decide +kernel) (by decide +kernel), lr_mem 745 (by decide +kernel) (by decide +kernel), by decide +kernel⟩
theorem lr_cL_42 : lr_siteV R_law 42 lr_m_X_deliver 1 := ⟨lr_mem 383 (by decide +kernel) (by decide +kernel), lr_mem 384 (by decide +kernel) (by decide +kernel), lr_mem 385 (by decide +kernel) (by decide +kernel), lr_mem 45 (by decide +kernel) (by decide +kernel), lr_mem 386 (by decide +kernel) (by decide +kernel), by decide +kernel⟩
theorem lr_cL_46 : lr_siteV R_law 46 lr_m_M_deliver 1 := ⟨lr_mem 786 (by decide +kernel) (by decide +kernel), lr_mem 787 (by decide +kernel) (by decide +kernel), lr_mem 788 (by decide +kernel) (by decide +kernel), lr_mem 52 (by decide +kernel) (by decide +kernel), lr_mem 789 (by decide +kernel) (by decide +kernel), by decide +kernel⟩
theorem lr_cL_47 : lr_siteV R_law 47 lr_m_X_lose 1 := ⟨lr_mem 479 (by decide +kernel) (by decide +kernel), lr_mem 480 (by decide +kernel) (by decide +kernel), lr_mem 481 (by decide +kernel) (by decide +kernel), lr_mem 45 (by decide +kernel) (by decide +kernel), lr_mem 482 (by decide +kernel) (by decide +kernel), by decide +kernel⟩
theorem lr_cL_51 : lr_siteV R_law 51 lr_m_M_lose 1 := ⟨lr_mem 830 (by decide +kernel) (by decide +kernel), lr_mem 831 (by decide +kernel) (by decide +kernel), lr_mem 832 (by decide +kernel) (by decide +kernel), lr_mem 52 (by decide +kernel) (by decide +kernel), lr_mem 833 (by decide +kernel) (by decide +kernel), by decide +kernel⟩
theorem lr_cL_52 : lr_siteV R_law 52 lr_m_X_copy 1 := ⟨lr_mem 483 (by decide +kernel) (by decide +kernel), lr_mem 484 (by decide +kernel) (by decide +kernel), lr_mem 485 (by decide +kernel) (by decide +kernel), lr_mem 45 (by decide +kernel) (by decide +kernel), lr_mem 486 (by decide +kernel) (by decide +kernel), by decide +kernel⟩
theorem lr_cL_55 : lr_siteV R_law 55 lr_m_M_copy 1 := ⟨lr_mem 834 (by decide +kernel) (by decide +kernel), lr_mem 835 (by decide +kernel) (by decide +kernel), lr_mem 836 (by decide +kernel) (by decide +kernel), lr_mem 52 (by decide +kernel) (by decide +kernel), lr_mem 837 (by decide +kernel) (by decide +kernel), by decide +kernel⟩
theorem lr_cL_56 : lr_siteV R_law 56 lr_m_X_tick 1 := ⟨lr_mem 488 (by decide +kernel) (by decide +kernel), lr_mem 489 (by decide +kernel) (by decide +kernel), lr_mem 490 (by decide +kernel) (by decide +kernel), lr_mem 45 (by decide +kernel) (by decide +kernel), lr_mem 491 (by decide +kernel) (by decide +kernel), by decide +kernel⟩
theorem lr_cL_59 : lr_siteV R_law 59 lr_m_M_tick 1 := ⟨lr_mem 750 (by decide +kernel) (by decide +kernel), lr_mem 751 (by decide +kernel) (by decide +kernel), lr_mem 752 (by decide +kernel) (by decide +kernel), lr_mem 52 (by decide +kernel) (by decide +kernel), lr_mem 753 (by decide +kernel) (by decide +kernel), by decide +kernel⟩
theorem lr_cL_60 : lr_siteV R_law 60 lr_m_X_collect 1 := ⟨lr_mem 500 (by decide +kernel) (by decide +kernel), lr_mem 501 (by decide +kernel) (by decide +kernel), lr_mem 502 (by decide +kernel) (by decide +kernel), lr_mem 45 (by decide +kernel) (by decide +kernel), lr_mem 503 (by decide +kernel) (by decide +kernel), by decide +kernel⟩
theorem lr_cL_63 : lr_siteV R_law 63 lr_m_M_collect 1 := ⟨lr_mem 766 (by decide +kernel) (by decide +kernel), lr_mem 767 (by decide +kernel) (by decide +kernel), lr_mem 768 (by decide +kernel) (by decide +kernel), lr_mem 52 (by decide +kernel) (by decide +kernel), lr_mem 769 (by decide +kernel) (by decide +kernel), by decide +kernel⟩
theorem lr_cL_64 : lr_siteV R_law 64 lr_m_X_crash 1 := ⟨lr_mem 528 (by decide +kernel) (by decide +kernel), lr_mem 529 (by decide +kernel) (by decide +kernel), lr_mem 530 (by decide +kernel) (by decide +kernel), lr_mem 45 (by decide +kernel) (by decide +kernel), lr_mem 531 (by decide +kernel) (by decide +kernel), by decide +kernel⟩
theorem lr_cL_67 : lr_siteV R_law 67 lr_m_M_crash 1 := ⟨lr_mem 782 (by decide +kernel) (by decide +kernel), lr_mem 783 (by decide +kernel) (by decide +kernel), lr_mem 784 (by decide +kernel) (by decide +kernel), lr_mem 52 (by decide +kernel) (by decide +kernel), lr_mem 785 (by decide +kernel) (by decide +kernel), by decide +kernel⟩
theorem lr_cL_68 : lr_siteV R_law 68 lr_m_X_flight 0 := ⟨lr_mem 532 (by decide +kernel) (by decide +kernel), lr_mem 533 (by decide +kernel) (by decide +kernel), lr_mem 534 (by decide +kernel) (by decide +kernel), lr_mem 45 (by decide +kernel) (by decide +kernel), lr_mem 535 (by decide +kernel) (by decide +kernel), by decide +kernel⟩
theorem lr_cL_72 : lr_siteV R_law 72 lr_m_M_flight 0 := ⟨lr_mem 838 (by decide +kernel) (by decide +kernel), lr_mem 839 (by decide +kernel) (by decide +kernel), lr_mem 840 (by decide +kernel) (by decide +kernel), lr_mem 52 (by decide +kernel) (by decide +kernel), lr_mem 841 (by decide +kernel) (by decide +kernel), by decide +kernel⟩
theorem lr_cL_73 : lr_siteV R_law 73 lr_m_X_message 2 := ⟨lr_mem 536 (by decide +kernel) (by decide +kernel), lr_mem 537 (by decide +kernel) (by decide +kernel), lr_mem 538 (by decide +kernel) (by decide +kernel), lr_mem 45 (by decide +kernel) (by decide +kernel), lr_mem 539 (by decide +kernel) (by decide +kernel), by decide +kernel⟩
theorem lr_cL_76 : lr_siteV R_law 76 lr_m_M_message 2 := ⟨lr_mem 842 (by decide +kernel) (by decide +kernel), lr_mem 843 (by decide +kernel) (by decide +kernel), lr_mem 844 (by decide +kernel) (by decide +kernel), lr_mem 52 (by decide +kernel) (by decide +kernel), lr_mem 845 (by decide +kernel) (by decide +kernel), by decide +kernel⟩
theorem lr_cL_77 : lr_siteV R_law 77 lr_m_X_root 2 := ⟨lr_mem 544 (by decide +kernel) (by decide +kernel), lr_mem 545 (by decide +kernel) (by decide +kernel), lr_mem 546 (by decide +kernel) (by decide +kernel), lr_mem 45 (by decide +kernel) (by decide +kernel), lr_mem 547 (by decide +kernel) (by decide +kernel), by decide +kernel⟩
theorem lr_cL_80 : lr_siteV R_law 80 lr_m_M_root 2 := ⟨lr_mem 846 (by decide +kernel) (by decide +kernel), lr_mem 847 (by decide +kernel) (by decide +kernel), lr_mem 848 (by decide +kernel) (by decide +kernel), lr_mem 52 (by decide +kernel) (by decide +kernel), lr_mem 849 (by decide +kernel) (by decide +kernel), by decide +kernel⟩
theorem lr_cL_81 : lr_siteV R_law 81 lr_m_X_slot 3 := ⟨lr_mem 548 (by decide +kernel) (by decide +kernel), lr_mem 549 (by decide +kernel) (by decide +kernel), lr_mem 550 (by decide +kernel) (by decide +kernel), lr_mem 45 (by decide +kernel) (by decide +kernel), lr_mem 551 (by decide +kernel) (by decide +kernel), by decide +kernel⟩
theorem lr_cL_84 : lr_siteV R_law 84 lr_m_M_slot 3 := ⟨lr_mem 850 (by decide +kernel) (by decide +kernel), lr_mem 851 (by decide +kernel) (by decide +kernel), lr_mem 852 (by decide +kernel) (by decide +kernel), lr_mem 52 (by decide +kernel) (by decide +kernel), lr_mem 853 (by decide +kernel) (by decide +kernel), by decide +kernel⟩
theorem lr_cL_85 : lr_siteV R_law 85 lr_m_X_listing 3 := ⟨lr_mem 559 (by decide +kernel) (by decide +kernel), lr_mem 560 (by decide +kernel) (by decide +kernel), lr_mem 561 (by decide +kernel) (by decide +kernel), lr_mem 45 (by decide +kernel) (by decide +kernel), lr_mem 562 (by decide +kernel) (by decide +kernel), by decide +kernel⟩
theorem lr_cL_88 : lr_siteV R_law 88 lr_m_M_listing 3 := ⟨lr_mem 854 (by decide +kernel) (by decide +kernel), lr_mem 855 (by decide +kernel) (by decide +kernel), lr_mem 856 (by decide +kernel) (by decide +kernel), lr_mem 52 (by decide +kernel) (by decide +kernel), lr_mem 857 (by decide +kernel) (by decide +kernel), by decide +kernel⟩
theorem lr_cL_89 : lr_siteV R_law 89 lr_m_X_pins 1 := ⟨lr_mem 564 (by decide +kernel) (by decide +kernel), lr_mem 565 (by decide +kernel) (by decide +kernel), lr_mem 566 (by decide +kernel) (by decide +kernel), lr_mem 45 (by decide +kernel) (by decide +kernel), lr_mem 567 (by decide +kernel) (by decide +kernel), by decide +kernel⟩
theorem lr_cL_92 : lr_siteV R_law 92 lr_m_M_pins 1 := ⟨lr_mem 858 (by decide +kernel) (by decide +kernel), lr_mem 859 (by decide +kernel) (by decide +kernel), lr_mem 860 (by decide +kernel) (by decide +kernel), lr_mem 52 (by decide +kernel) (by decide +kernel), lr_mem 861 (by decide +kernel) (by decide +kernel), by decide +kernel⟩
theorem lr_cL_93 : lr_siteV R_law 93 lr_m_X_outcome 2 := ⟨lr_mem 568 (by decide +kernel) (by decide +kernel), lr_mem 569 (by decide +kernel) (by decide +kernel), lr_mem 570 (by decide +kernel) (by decide +kernel), lr_mem 45 (by decide +kernel) (by decide +kernel), lr_mem 571 (by decide +kernel) (by decide +kernel), by decide +kernel⟩
theorem lr_cL_96 : lr_siteV R_law 96 lr_m_M_outcome 2 := ⟨lr_mem 862 (by decide +kernel) (by decide +kernel), lr_mem 863 (by decide +kernel) (by decide +kernel), lr_mem 864 (by decide +kernel) (by decide +kernel), lr_mem 52 (by decide +kernel) (by decide +kernel), lr_mem 865 (by decide +kernel) (by decide +kernel), by decide +kernel⟩
/-! THE LAW'S BODY, over both worlds -/
theorem lr_and31 (x : Int32) : ∃ n, n < 32 ∧ x &&& 31 = nI n := by
  have hlt : x.toBitVec.toNat &&& 31 < 32 := Nat.and_lt_two_pow (n := 5) _ (by decide)
  refine ⟨x.toBitVec.toNat &&& 31, hlt, Int32.toBitVec_inj.mp ?_⟩
  rw [Int32.toBitVec_and]
  apply BitVec.eq_of_toNat_eq
  rw [BitVec.toNat_and]
  show _ = (BitVec.ofNat 32 (x.toBitVec.toNat &&& 31)).toNat
  rw [BitVec.toNat_ofNat, Nat.mod_eq_of_lt (by omega)]
  rfl
theorem lr_lm5 {L : Nat} (hL : L ≤ 320) {i : Nat} (hi : i ≤ 330) : nI L - 5 < nI i ↔ L < i + 5 := by
  by_cases h5 : 5 ≤ L
  · have e : nI L - 5 = nI (L - 5) := by
      have h1 : nI L = nI (L - 5) + nI 5 := by rw [nI_add, show L - 5 + 5 = L by omega]
      rw [h1]
      exact Int32.add_sub_cancel _ _
    rw [e, nI_ltI (by omega) (by omega)]
    omega
  · have h1 : nI L - 5 < nI i := by
      have h0 := nI_toInt (n := i) (by omega)
      rw [Int32.lt_iff_toInt_lt, h0]
      have h2 : (nI L - 5).toInt < 0 := by
        rcases (show L = 0 ∨ L = 1 ∨ L = 2 ∨ L = 3 ∨ L = 4 by omega) with rfl | rfl | rfl | rfl | rfl <;> decide
      omega
    exact ⟨fun _ => by omega, fun _ => h1⟩
abbrev lr_Z : Type := Program × Launch × Env × State × MethodId × List Frame × Method × Code × Nat × Nat × (Nat → Int32) × va_G × (Nat → ClassId) × Nat × Nat × Nat
def lr_ZC : lr_Z → Nat → (Nat → Int32) → Nat → Prop
  | (p, l, e, s, m, below, meth, c, b, L, xs, D, aC, q, cells, slots), L', xs', q' => p.tables.exec = Jvm.exec ∧ c.code = code ∧ meth.sig.returnType = ret ∧ c.maxLocals = 4 ∧ s.vm.findClass R_law = some m.cls ∧ (∀ w ∈ lr_tb, w.before #[Value.ref b] s = true) ∧ va_K D lr_cl (lr_tys aC) s ∧ va_X b L xs s s.heap ∧ b < s.heap.size ∧ meth.locks = false ∧ q = s.heap.size ∧ cells ≤ 600000 ∧ slots ≤ 7302250 ∧ L = L' ∧ xs = xs' ∧ q = q'
def lr_V2 : lr_Z → Nat → Nat → List Value → lr_S → lr_S → Prop
  | (p, l, e, s, m, below, meth, c, b, L, xs, D, aC, q, cells, slots), pc, i, st, tx, tm => ∀ (H : Heap) (locs : List Loc) (la : Array Slot), lr_W 0 20 D aC (lr_adx q) tx H → lr_W 20 60 D aC (lr_adm (q + 233)) tm H → va_S (fun a => q ≤ a) s.heap H locs → lv_has la 4 [(3, .int (nI i)), (2, .ref (q + 233)), (1, .ref q), (0, .ref b)] → W p l e room_1 s m #[Value.ref b] below meth c H locs cells slots (lw_Z below #[Value.ref b] s) (F0 m pc la st)
theorem lr_zmap (ad : Nat → Nat → Nat) (k i : Nat) : ∀ as : List Int32, (.inr (k, i) :: as.map .inl : List lr_V).map (lr_rv ad) = .ref (ad k i) :: as.map Value.int
  | [] => rfl
  | a :: as => by
    have h := lr_zmap ad k i as
    simp only [List.map_cons] at h ⊢
    rw [List.cons.injEq] at h
    rw [h.2]
    rfl
theorem lr_zok {lo hi k i : Nat} (h : lr_ok lo hi k i) (as : List Int32) : ∀ v ∈ (.inr (k, i) :: as.map .inl : List lr_V), lr_okv lo hi v := by
  intro v hv
  rcases List.mem_cons.mp hv with rfl | hv
  · exact h
  · obtain ⟨a, -, rfl⟩ := List.mem_map.mp hv
    trivial
section
variable {Z : lr_Z} {L q : Nat} {xs : Nat → Int32} {pc i : Nat} {st : List Value} {tx tm : lr_S}
theorem lr_z_arg (C : lr_ZC Z L xs q) {n : Int} {j : Nat} (d0 : decode code pc = .ok (.aload_n 0, 1)) (d1 : decode code (pc + 1) = .ok (.iload_n 3, 1)) (d2 : decode code (pc + 2) = .ok (.iconst n, 1)) (d3 : decode code (pc + 3) = .ok (.iadd, 1)) (d4 : decode code (pc + 4) = .ok (.iaload, 1)) (hn : Int32.ofInt n = nI j) (hj : i + j < L) (hL : L ≤ 320) (kk : lr_V2 Z (pc + 5) i (.int (xs (i + j)) :: st) tx tm) : lr_V2 Z pc i st tx tm := by
  obtain ⟨p, l, e, s, m, below, meth, c, b, L, xs, D, aC, q, cells, slots⟩ := Z
  obtain ⟨hx, hb, hr, hml, hown, hts, hK, hX, hbl, hlocks, hq, hcc, hss, rfl, rfl, rfl⟩ := C
  intro H locs la hWx hWm hS hl
  refine lv_aload_n hx hb d0 rfl (lv_at hl 3 rfl) ?_
  refine lv_iload_n hx hb d1 rfl (lv_at hl 0 rfl) ?_
  refine lv_iconst hx hb d2 hn ?_
  refine lv_iadd hx hb d3 ?_
  rw [nI_add]
  refine va_sld (A := fun a => q ≤ a) hx hb hX hbl (by rw [hq]; exact Nat.not_le.mpr hbl) hS (lr_nvp hj (by omega)) d4 ?_
  rw [lr_ncl (by omega)]
  exact kk H locs la hWx hWm hS hl
theorem lr_z_ax (C : lr_ZC Z L xs q) (d0 : decode code pc = .ok (.aload_n 1, 1)) (kk : lr_V2 Z (pc + 1) i (.ref q :: st) tx tm) : lr_V2 Z pc i st tx tm := by
  obtain ⟨p, l, e, s, m, below, meth, c, b, L, xs, D, aC, q, cells, slots⟩ := Z
  obtain ⟨hx, hb, hr, hml, hown, hts, hK, hX, hbl, hlocks, hq, hcc, hss, rfl, rfl, rfl⟩ := C
  intro H locs la hWx hWm hS hl
  exact lv_aload_n hx hb d0 rfl (lv_at hl 2 rfl) (kk H locs la hWx hWm hS hl)
theorem lr_z_am (C : lr_ZC Z L xs q) (d0 : decode code pc = .ok (.aload_n 2, 1)) (kk : lr_V2 Z (pc + 1) i (.ref (q + 233) :: st) tx tm) : lr_V2 Z pc i st tx tm := by
  obtain ⟨p, l, e, s, m, below, meth, c, b, L, xs, D, aC, q, cells, slots⟩ := Z
  obtain ⟨hx, hb, hr, hml, hown, hts, hK, hX, hbl, hlocks, hq, hcc, hss, rfl, rfl, rfl⟩ := C
  intro H locs la hWx hWm hS hl
  exact lv_aload_n hx hb d0 rfl (lv_at hl 1 rfl) (kk H locs la hWx hWm hS hl)
theorem lr_z_eq (C : lr_ZC Z L xs q) {r : Int32} {off : Int} {tgt : Nat} (d0 : decode code pc = .ok (.if_icmp .eq off, 3)) (ht : (pc : Int) + off = (tgt : Int)) (kk : lr_V2 Z tgt i st tx tm) : lr_V2 Z pc i (.int r :: .int r :: st) tx tm := by
  obtain ⟨p, l, e, s, m, below, meth, c, b, L, xs, D, aC, q, cells, slots⟩ := Z
  obtain ⟨hx, hb, hr, hml, hown, hts, hK, hX, hbl, hlocks, hq, hcc, hss, rfl, rfl, rfl⟩ := C
  intro H locs la hWx hWm hS hl
  exact lv_icmp_eq hx hb d0 ht (fun _ => kk H locs la hWx hWm hS hl) (fun h => absurd rfl h)
theorem lr_z_callx (C : lr_ZC Z L xs q) {idx n : Nat} {M : lr_M} {as : List Int32} {r : Int32} {tx' : lr_S} {stk : List Value} (hR : lr_RI 0 20 M (.inr (0, 0) :: as.map .inl) tx r tx') (hs : lr_siteV R_law idx M n) (hd : decode code pc = .ok (.invokevirtual idx, 3)) (hstk : stk = (as.map Value.int).reverse ++ .ref q :: st) (hn : as.length = n) (hq0 : M.1.cls = lr_R6) (hroom : M.2.2.2.2.1 + 1 ≤ 9 ∧ 8 + (M.2.2.1 + 11) + M.2.2.2.2.2 ≤ 322) (hsm : (st.map fun v => v.category).sum ≤ 8) (kk : lr_V2 Z (pc + 3) i (.int r :: st) tx' tm) : lr_V2 Z pc i stk tx tm := by
  obtain ⟨p, l, e, s, m, below, meth, c, b, L, xs, D, aC, q, cells, slots⟩ := Z
  obtain ⟨hx, hb, hr, hml, hown, hts, hK, hX, hbl, hlocks, hq, hcc, hss, rfl, rfl, rfl⟩ := C
  intro H locs la hWx hWm hS hl
  subst hstk
  obtain ⟨s1, s2, s3, s4, s5, s6⟩ := hs
  have h0 := hWx 0 0 ⟨by omega, by omega, by decide⟩
  obtain ⟨r0, hr0, cell, q1, q2, q3, -⟩ := h0
  have hcl := hK.1 6 (lr_R6, lr_F6, 5) rfl
  have hM := hR l D aC (lr_adx q) lr_inj_x (lr_zok ⟨by omega, by omega, by decide⟩ as)
  refine va_calli (A0 := fun a => q ≤ a) (H0 := s.heap) (A1 := lr_A 0 20 (lr_adx q)) (va_runV (rest := st) (As := as.map Value.int) (b := q) (C := M.1.cls) (n := n) (maxL := M.2.2.1) (ret := M.2.2.2.1) (bytes := M.2.1) ⟨hx, hb, hml, hown, hts⟩ hM ⟨callB_of n hts (lr_goodc s5) rfl rfl rfl (hts _ s4) (hts _ s1) s6 hroom, hts _ s2, hts _ s3⟩ ⟨lr_Pc_blind, ⟨cell, q1, by rw [q3]; rfl, by rw [q2, hq0]; exact hcl.2.1⟩, fun U hU hw => ⟨by rw [lr_zmap]; rfl, by rw [hU]; exact hWx, va_K.moved hw.alike hK⟩⟩ rfl (by rw [List.length_map]; exact hn) hl.1 rfl (lv_room hsm) hd ⟨hcc, hss⟩) hS (fun a _ h => (lr_A_x h).1) (fun a h => (lr_A_x h).1) (fun r1 _ u H1 locs1 hu hvm hr1 hB hz hk1 hS1 => ?_)
  subst hr1
  subst hu
  refine kk _ _ la hB (fun k j hk => (hWm k j hk).kept (hk1 _ (hWm k j hk).lt (fun h => ?_))) hS1 hl
  have h1 := (lr_A_x h).2
  have h1 : q + 233 + lr_ofm k < q + 233 := h1
  omega
theorem lr_z_callm (C : lr_ZC Z L xs q) {idx n : Nat} {M : lr_M} {as : List Int32} {r : Int32} {tm' : lr_S} {stk : List Value} (hR : lr_RI 20 60 M (.inr (20, 0) :: as.map .inl) tm r tm') (hs : lr_siteV R_law idx M n) (hd : decode code pc = .ok (.invokevirtual idx, 3)) (hstk : stk = (as.map Value.int).reverse ++ .ref (q + 233) :: st) (hn : as.length = n) (hq0 : M.1.cls = lr_R7) (hroom : M.2.2.2.2.1 + 1 ≤ 9 ∧ 8 + (M.2.2.1 + 11) + M.2.2.2.2.2 ≤ 322) (hsm : (st.map fun v => v.category).sum ≤ 8) (kk : lr_V2 Z (pc + 3) i (.int r :: st) tx tm') : lr_V2 Z pc i stk tx tm := by
  obtain ⟨p, l, e, s, m, below, meth, c, b, L, xs, D, aC, q, cells, slots⟩ := Z
  obtain ⟨hx, hb, hr, hml, hown, hts, hK, hX, hbl, hlocks, hq, hcc, hss, rfl, rfl, rfl⟩ := C
  intro H locs la hWx hWm hS hl
  subst hstk
  obtain ⟨s1, s2, s3, s4, s5, s6⟩ := hs
  have h0 := hWm 20 0 ⟨by omega, by omega, by decide⟩
  obtain ⟨r0, hr0, cell, q1, q2, q3, -⟩ := h0
  have hcl := hK.1 7 (lr_R7, lr_F7, 36) rfl
  have hM := hR l D aC (lr_adm (q + 233)) lr_inj_m (lr_zok ⟨by omega, by omega, by decide⟩ as)
  refine va_calli (A0 := fun a => q ≤ a) (H0 := s.heap) (A1 := lr_A 20 60 (lr_adm (q + 233))) (va_runV (rest := st) (As := as.map Value.int) (b := q + 233) (C := M.1.cls) (n := n) (maxL := M.2.2.1) (ret := M.2.2.2.1) (bytes := M.2.1) ⟨hx, hb, hml, hown, hts⟩ hM ⟨callB_of n hts (lr_goodc s5) rfl rfl rfl (hts _ s4) (hts _ s1) s6 hroom, hts _ s2, hts _ s3⟩ ⟨lr_Pc_blind, ⟨cell, q1, by rw [q3]; rfl, by rw [q2, hq0]; exact hcl.2.1⟩, fun U hU hw => ⟨by rw [lr_zmap]; rfl, by rw [hU]; exact hWm, va_K.moved hw.alike hK⟩⟩ rfl (by rw [List.length_map]; exact hn) hl.1 rfl (lv_room hsm) hd ⟨hcc, hss⟩) hS (fun a _ h => by have := (lr_A_m h).1; show q ≤ a; omega) (fun a h => by have := (lr_A_m h).1; show q ≤ a; omega) (fun r1 _ u H1 locs1 hu hvm hr1 hB hz hk1 hS1 => ?_)
  subst hr1
  subst hu
  refine kk _ _ la (fun k j hk => (hWx k j hk).kept (hk1 _ (hWx k j hk).lt (fun h => ?_))) hB hS1 hl
  have h1 := (lr_A_m h).1
  have h2 := (lr_A_x ⟨k, j, hk, rfl⟩ : q ≤ lr_adx q k j ∧ lr_adx q k j < q + 233).2
  have h1 : q + 233 ≤ lr_adx q k j := h1
  omega
theorem lr_z_head (C : lr_ZC Z L xs q) (hL : L ≤ 320) (hi : i ≤ 330) (ko : L < i + 5 → lr_V2 Z 757 i [] tx tm) (ki : i + 5 ≤ L → lr_V2 Z 32 i [.int (xs i &&& 31)] tx tm) : lr_V2 Z 18 i [] tx tm := by
  obtain ⟨p, l, e, s, m, below, meth, c, b, L, xs, D, aC, q, cells, slots⟩ := Z
  obtain ⟨hx, hb, hr, hml, hown, hts, hK, hX, hbl, hlocks, hq, hcc, hss, rfl, rfl, rfl⟩ := C
  intro H locs la hWx hWm hS hl
  refine lv_iload_n hx hb lr_d_L_18 rfl (lv_at hl 0 rfl) ?_
  refine lv_aload_n hx hb lr_d_L_19 rfl (lv_at hl 3 rfl) ?_
  refine va_slen (A := fun a => q ≤ a) hx hb hX hbl (by rw [hq]; exact Nat.not_le.mpr hbl) hS lr_d_L_20 ?_
  refine lv_iconst (v := 5) hx hb lr_d_L_21 rfl ?_
  refine lv_isub hx hb lr_d_L_22 ?_
  refine lv_icmp_gt (tgt := 757) hx hb lr_d_L_23 rfl (fun h => ?_) (fun h => ?_)
  · have h : nI L - 5 < nI i := h
    exact ko ((lr_lm5 hL hi).mp h) H locs la hWx hWm hS hl
  · have h : ¬ nI L - 5 < nI i := h
    have hin : i + 5 ≤ L := Nat.not_lt.mp (fun z => h ((lr_lm5 hL hi).mpr z))
    refine lv_aload_n hx hb lr_d_L_26 rfl (lv_at hl 3 rfl) ?_
    refine lv_iload_n hx hb lr_d_L_27 rfl (lv_at hl 0 rfl) ?_
    refine va_sld (A := fun a => q ≤ a) hx hb hX hbl (by rw [hq]; exact Nat.not_le.mpr hbl) hS (lr_nvp (by omega) (by omega)) lr_d_L_28 ?_
    rw [lr_ncl (by omega)]
    refine lv_bipush (v := 31) hx hb lr_d_L_29 rfl ?_
    refine lv_iand hx hb lr_d_L_31 ?_
    exact ki hin H locs la hWx hWm hS hl
theorem lr_z_in (C : lr_ZC Z L xs q) {n tgt : Nat} {off : Int} (h1 : decide (¬ (nI n).toInt < 0) = true) (h2 : decide (¬ 18 < (nI n).toInt) = true) (ho : (#[92, 125, 178, 231, 264, 317, 360, 383, 406, 429, 452, 475, 498, 511, 544, 577, 620, 663, 686] : Array Int)[((nI n).toInt - 0).toNat]? = some off) (ht : ((32 : Nat) : Int) + off = (tgt : Int)) (kk : lr_V2 Z tgt i [] tx tm) : lr_V2 Z 32 i [.int (nI n)] tx tm := by
  obtain ⟨p, l, e, s, m, below, meth, c, b, L, xs, D, aC, q, cells, slots⟩ := Z
  obtain ⟨hx, hb, hr, hml, hown, hts, hK, hX, hbl, hlocks, hq, hcc, hss, rfl, rfl, rfl⟩ := C
  intro H locs la hWx hWm hS hl
  exact lv_tableIn hx hb lr_d_L_32 (of_decide_eq_true h1) (of_decide_eq_true h2) ho ht (kk H locs la hWx hWm hS hl)
theorem lr_z_df (C : lr_ZC Z L xs q) {n : Nat} (h1 : 19 ≤ n) (h2 : n < 32) (kk : lr_V2 Z 751 i [] tx tm) : lr_V2 Z 32 i [.int (nI n)] tx tm := by
  obtain ⟨p, l, e, s, m, below, meth, c, b, L, xs, D, aC, q, cells, slots⟩ := Z
  obtain ⟨hx, hb, hr, hml, hown, hts, hK, hX, hbl, hlocks, hq, hcc, hss, rfl, rfl, rfl⟩ := C
  intro H locs la hWx hWm hS hl
  exact lv_tableOut (tgt := 751) hx hb lr_d_L_32 (Or.inr (by rw [nI_toInt (by omega)]; omega)) rfl (kk H locs la hWx hWm hS hl)
theorem lr_z_next (C : lr_ZC Z L xs q) (kk : lr_V2 Z 18 (i + 5) [] tx tm) : lr_V2 Z 751 i [] tx tm := by
  obtain ⟨p, l, e, s, m, below, meth, c, b, L, xs, D, aC, q, cells, slots⟩ := Z
  obtain ⟨hx, hb, hr, hml, hown, hts, hK, hX, hbl, hlocks, hq, hcc, hss, rfl, rfl, rfl⟩ := C
  intro H locs la hWx hWm hS hl
  refine lv_iinc (k := 0) (v := nI (i + 5)) (lv' := [(3, .int (nI (i + 5))), (2, .ref (q + 233)), (1, .ref q), (0, .ref b)]) hx hb lr_d_L_751 hl rfl (nI_add i 5) (by decide) rfl (fun la' hl' => ?_)
  exact lv_goto (tgt := 18) hx hb lr_d_L_754 rfl (kk H locs la' hWx hWm hS hl')
theorem lr_z_out (C : lr_ZC Z L xs q) : lr_V2 Z 757 i [] tx tm := by
  obtain ⟨p, l, e, s, m, below, meth, c, b, L, xs, D, aC, q, cells, slots⟩ := Z
  obtain ⟨hx, hb, hr, hml, hown, hts, hK, hX, hbl, hlocks, hq, hcc, hss, rfl, rfl, rfl⟩ := C
  intro H locs la hWx hWm hS hl
  refine lv_iconst (v := 1) hx hb lr_d_L_757 rfl ?_
  refine va_forget (fun z hz => by rw [← hq]; exact hS.2.2 z hz) ?_
  refine W.widen hcc hss ?_
  exact lw_ret hx hb hr hlocks lr_d_L_758
end
