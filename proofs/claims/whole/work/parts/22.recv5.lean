/-- TAKEN is sent, the root set before it -/
theorem lr_taken_out {c ns np cnt tt : Nat} {ow : Nat → Nat} {a b : lr_S} (R : lr_Rel c ns np cnt tt ow a b) (M : lr_Mr ns ow a b) {n s e k r : Nat} (hn : n < 4) (hs : s < 4) (hk : k < 8) (hr : r < 3) (f1 : a.1 3 32 1 = nI s) (f3 : a.1 3 32 3 = nI e) (hne : ¬ a.1 7 (8 * n + k) 0 = 0) : lr_Out c ns np tt ow ((lr_G_Network_send 1 (lr_rd (lr_wr a 11 n r (nI k)) 5 n 0) (lr_rd (lr_wr a 11 n r (nI k)) 3 32 1) (lr_rd (lr_wr a 11 n r (nI k)) 3 32 3) (lr_rd (lr_wr a 11 n r (nI k)) 3 32 4) 0 (lr_wr a 11 n r (nI k))).bind fun u => some (1, u)) ((lr_G_M_send 1 (nI n) (nI s) (lr_rd (lr_wr b 22 0 (3 * n + r) (nI k)) 40 0 3) (lr_rd (lr_wr b 22 0 (3 * n + r) (nI k)) 40 0 4) 0 (lr_wr b 22 0 (3 * n + r) (nI k))).bind fun u => some (1, u)) := by
  have h5 : lr_K5 a := by
    obtain ⟨h1, h2, h3, h4, h5, h6, h7, h7v, h8, h9, h10, h11, h12, h13, h14, h15, h16, h17, h18, h19, h20, p1, p2, p3, p4, p5, h22, h23⟩ := R
    exact h5
  have R' := lr_s_root R hn hr (v := nI k) (Or.inr ⟨k, hk, rfl, hne⟩)
  have x1 : lr_rd (lr_wr a 11 n r (nI k)) 5 n 0 = nI n := by simpa [lr_r, lr_w] using h5 n hn
  have x2 : lr_rd (lr_wr a 11 n r (nI k)) 3 32 1 = nI s := by simpa [lr_r, lr_w] using f1
  have x3 : lr_rd (lr_wr a 11 n r (nI k)) 3 32 3 = nI e := by simpa [lr_r, lr_w] using f3
  have x4 : lr_rd (lr_wr a 11 n r (nI k)) 3 32 4 = a.1 3 32 4 := by simp [lr_r, lr_w]
  have y3 : lr_rd (lr_wr b 22 0 (3 * n + r) (nI k)) 40 0 3 = nI e := by rw [← f3, ← M.1 3 (by decide)]; simp [lr_r, lr_w]
  have y4 : lr_rd (lr_wr b 22 0 (3 * n + r) (nI k)) 40 0 4 = a.1 3 32 4 := by rw [← M.1 4 (by decide)]; simp [lr_r, lr_w]
  rw [x1, x2, x3, x4, y3, y4]
  obtain ⟨cnt2, a2, b2, u1, u2, u3, -, -⟩ := lr_send R' (f0 := 1) (f1 := nI n) (f2 := nI s) (f3 := nI e) (f4 := a.1 3 32 4) (f5 := 0) ⟨1, n, s, by omega, hn, hs, rfl, rfl, rfl, fun z => by omega, fun z => by omega, fun z => by omega, fun z => by omega⟩
  rw [u1, u2]
  exact lr_o1 u3
theorem lr_recv_pass {c ns np cnt tt : Nat} {ow : Nat → Nat} {a b : lr_S} (R : lr_Rel c ns np cnt tt ow a b) (M : lr_Mr ns ow a b) {n s e i : Nat} (hn : n < 4) (hs : s < 4) (he : e < ns) (hi : i < 3) (f1 : a.1 3 32 1 = nI s) (f3 : a.1 3 32 3 = nI e) (f5 : a.1 3 32 5 = nI (4 * i + ow e)) : lr_Out c ns np tt ow (lr_G_Node_receivePass n 32 a) (lr_G_M_passComes (nI n) (nI s) b) := by
  obtain ⟨h1, h2, h3, h4, h5, h6, h7, h7v, h8, h9, h10, h11, h12, h13, h14, h15, h16, h17, h18, h19, h20, p1, p2, p3, p4, p5, h22, h23⟩ := id R
  have hoe := h22.2 e
  have hid := h5 n hn
  have htt : tt ≤ 768 := by have := h1.2.2; have := h22.1; omega
  have md : nI (4 * i + ow e) - nI (4 * i + ow e) / (4 : Int32) * (4 : Int32) = nI (ow e) := by rw [lr_mod4 (by omega), show (4 * i + ow e) % 4 = ow e by omega]
  have dv : nI (4 * i + ow e) / (4 : Int32) = nI i := by rw [lr_div4 (by omega), show (4 * i + ow e) / 4 = i by omega]
  have ix : (3 : Int32) * nI n + nI i = nI (3 * n + i) := by rw [lr_mul 3 (m := 3) rfl, nI_add]
  have m5 : b.1 40 0 5 = nI (4 * i + ow e) := by rw [M.1 5 (by decide), f5]
  unfold lr_G_M_passComes
  rw [lr_c3, lr_c4, lr_c5, lr_r b 40 0 5, m5, md, dv, ix, lr_r b 40 0 3, M.1 3 (by decide), f3, lr_ncl (m := 3 * n + i) (by omega)]
  have h12 : lr_in (nI (3 * n + i)) 12 = true := lr_nin (by omega) (by decide)
  simp only [h12, if_true]
  by_cases ho : ow e = n
  · rw [if_pos (by rw [ho])]
    unfold lr_G_Node_receivePass
    rw [lr_r a 3 32 3, f3]
    rcases lr_find_rel R hn he (w := 1) (Or.inl ⟨rfl, ho⟩) with ⟨e1, e2⟩ | ⟨k, hk, e1, e2, e3, e4⟩
    · rw [e1, e2, lr_bs ((-1 : Int32), a), lr_bs ((-1 : Int32), b), if_pos rfl, lr_x_leastEmptySlot, lr_bs (_, a), lr_r a 3 32 5, f5, md, lr_r a 5, hid, if_pos (by rw [ho]), if_neg (show ¬ (0 : Int32) ≤ -1 by decide)]
      exact lr_o0 R
    · rw [e1, e2, lr_bs (nI k, a), lr_bs (nI (8 * n + k), b), if_neg (lr_n1 (by omega)), if_pos (nI_pos' (n := 8 * n + k) (by omega)), lr_r a 3 32 5, f5, dv, if_pos (lr_nin hi (by decide)), if_pos (lr_nin hk (by decide)), lr_ncl (m := i) (by omega), lr_ncl (m := k) (by omega), lr_mod8 (q := 8 * n + k) (by omega), show (8 * n + k) % 8 = k by omega]
      have x0 : lr_rd (lr_wr a 11 n i (nI k)) 7 (8 * n + k) 0 = 1 := by simpa [lr_r, lr_w] using e3
      rw [x0, if_pos rfl, lr_bs (lr_wr b 22 0 (3 * n + i) (nI k))]
      exact lr_taken_out R M hn hs hk hi f1 f3 (by rw [e3]; decide)
  · rw [if_neg (lr_neq (by omega) (by omega) ho)]
    unfold lr_G_Node_receivePass
    rw [lr_r a 3 32 3, f3]
    rcases lr_find_rel R hn he (w := 2) (Or.inr ⟨rfl, ho⟩) with ⟨e1, e2⟩ | ⟨k, hk, e1, e2, e3, e4⟩
    · rw [e1, e2, lr_bs ((-1 : Int32), a), lr_bs ((-1 : Int32), b), if_pos rfl, if_pos (show (-1 : Int32) < 0 by decide)]
      have hes := lr_es_rel h8 hn
      have hxs := lr_x_leastEmptySlot a n
      have hms := lr_m_emptySlot b hn
      rw [hes] at hms
      cases hl : lr_lf (fun k => decide (a.1 7 (8 * n + k) 0 = 0)) 0 8 with
      | none =>
        rw [hl] at hxs hms
        rw [show lr_G_Node_leastEmptySlot n a = some (-1, a) from hxs, show lr_G_M_emptySlot (nI n) b = some (-1, b) from hms, lr_bs ((-1 : Int32), a), lr_bs ((-1 : Int32), b), lr_r a 3 32 5, f5, md, lr_r a 5, hid, if_neg (lr_neq (by omega) (by omega) ho), if_pos rfl, if_neg (show ¬ (0 : Int32) ≤ -1 by decide)]
        exact lr_o0 R
      | some k =>
        rw [hl] at hxs hms
        obtain ⟨-, hk, hk0, -⟩ := lr_lf_some 8 0 k hl
        have hk : k < 8 := by omega
        have hk0 : a.1 7 (8 * n + k) 0 = 0 := by simpa using hk0
        have hq : 8 * n + k < 32 := by omega
        rw [show lr_G_Node_leastEmptySlot n a = some (nI k, a) from hxs, show lr_G_M_emptySlot (nI n) b = some (nI (8 * n + k), b) from hms, lr_bs (nI k, a), lr_bs (nI (8 * n + k), b), lr_r a 3 32 5, f5, md, lr_r a 5, hid, if_neg (lr_neq (by omega) (by omega) ho), if_neg (lr_n1 (by omega)), if_pos (lr_nin hk (by decide)), lr_ncl (m := k) (by omega), lr_r a 3 32 3, f3, lr_x_hns, lr_bs, if_pos (nI_pos' (n := 8 * n + k) (by omega)), if_pos (lr_nin (m := 8 * n + k) hq (by decide)), lr_ncl (m := 8 * n + k) (by omega), lr_mod8 (q := 8 * n + k) (by omega), show (8 * n + k) % 8 = k by omega]
        -- the new surrogate on both sides, its expiry 0 for the moment
        have RS := lr_s_sur R hn hk hk0 he ho 0
        have hsx : lr_wr (lr_hs a (8 * n + k) (nI e) (nI (ow e))) 7 (8 * n + k) 9 0 = lr_hs a (8 * n + k) (nI e) (nI (ow e)) := by unfold lr_hs; rw [lr_wtw]
        rw [hsx] at RS
        generalize hA : lr_hs a (8 * n + k) (nI e) (nI (ow e)) = A at RS ⊢
        have A3 : ∀ j, A.1 3 32 j = a.1 3 32 j := fun j => by rw [← hA]; simp [lr_hs, lr_w]
        have A7 : A.1 7 (8 * n + k) 0 = 2 := by rw [← hA]; simp [lr_hs, lr_w]
        have A9 : A.1 7 (8 * n + k) 9 = 0 := by rw [← hA]; simp [lr_hs, lr_w]
        have A1 : A.1 1 0 0 = nI tt := by rw [← hA]; simpa [lr_hs, lr_w] using h1.1
        generalize hB : lr_wr (lr_wr (lr_wr b 24 0 (8 * n + k) 2) 25 0 (8 * n + k) (nI e)) 30 0 (8 * n + k) (nI (ow e)) = B at RS
        have MS : lr_Mr ns ow A (lr_wr B 33 0 (8 * n + k) 0) := by
          refine ⟨fun j hj => ?_, ?_⟩
          · rw [A3, ← M.1 j hj, ← hB]
            simp [lr_w]
          · exact lr_mv_c (fun j _ => A3 j) M.2
        obtain ⟨cnt2, a2, b2, nu, u1, u2, u3, u4⟩ := lr_bpr RS MS hn hs hk hi (by rw [A3]; exact f1) A7
        have x5 : lr_rd A 3 32 5 = nI (4 * i + ow e) := by rw [lr_r, A3, f5]
        rw [x5, dv, if_pos (lr_nin hi (by decide)), lr_ncl (m := i) (by omega)]
        have x0 : lr_rd (lr_wr A 11 n i (nI k)) 7 (8 * n + k) 0 = 2 := by simpa [lr_r, lr_w] using A7
        have x9 : (lr_wr A 11 n i (nI k)).1 7 (8 * n + k) 9 = 0 := by simpa [lr_w] using A9
        have xc : lr_rd (lr_wr A 11 n i (nI k)) 1 0 0 = nI tt := by simpa [lr_r, lr_w] using A1
        rw [x0, if_neg (show ¬ (2 : Int32) = 1 by decide), xc, lr_x_state, x9, if_neg (lr_nneg (m := tt) (by omega)), lr_bs (2, lr_wr A 11 n i (nI k)), if_neg (show ¬ (2 : Int32) = 1 by decide), if_neg (show ¬ (2 : Int32) = 0 by decide), u1, lr_bs a2]
        refine ⟨1, a2, lr_wr (lr_wr (lr_wr (lr_wr b2 31 0 (8 * n + k) nu) 35 0 (8 * n + k) (a.1 3 32 4)) 36 0 (8 * n + k) (nI s)) 22 0 (3 * n + i) (nI k), cnt2, rfl, ?_, Or.inr rfl, ?_⟩
        · have y1 : lr_rd (lr_wr b 24 0 (8 * n + k) 2) 40 0 3 = nI e := by rw [← f3, ← M.1 3 (by decide)]; simp [lr_r, lr_w]
          rw [y1, lr_bs, lr_bs, hB, lr_nb0]
          have y2 : lr_rd (lr_wr B 34 0 (8 * n + k) 0) 20 0 0 = nI tt := by rw [← hB]; simpa [lr_r, lr_w] using h1.2.1
          rw [y2, lr_bs]
          have eB : lr_wr (lr_wr (lr_wr B 33 0 (8 * n + k) 0) 34 0 (8 * n + k) 0) 33 0 (8 * n + k) (nI tt + 24) = lr_wr (lr_wr B 34 0 (8 * n + k) 0) 33 0 (8 * n + k) (nI tt + 24) := by rw [lr_wc B (show ¬ 33 = 34 by decide), lr_wtw]
          rw [eB] at u2
          rw [u2, lr_bs (nu, b2)]
          have y3 : lr_rd (lr_wr b2 31 0 (8 * n + k) nu) 40 0 4 = a.1 3 32 4 := by
            have : lr_rd (lr_wr b2 31 0 (8 * n + k) nu) 40 0 4 = b2.1 40 0 4 := by simp [lr_r, lr_w]
            rw [this, u3, ← A3, ← MS.1 4 (by decide)]
          rw [y3, lr_bs, lr_bs]
        · rw [A3] at u4
          exact u4
    · have hq : 8 * n + k < 32 := by omega
      obtain ⟨g0, g1, g2, g6, g7, g8, g9, g10, g11, g12⟩ := h8 (8 * n + k) hq
      have hne : ¬ a.1 7 (8 * n + k) 0 = 0 := by rw [e3]; decide
      rw [e1, e2, lr_bs (nI k, a), lr_bs (nI (8 * n + k), b), if_neg (lr_n1 (by omega)), if_neg (lr_nneg (m := 8 * n + k) (by omega)), lr_r a 3 32 5, f5, dv, if_pos (lr_nin hi (by decide)), if_pos (lr_nin hk (by decide)), lr_ncl (m := i) (by omega), lr_ncl (m := k) (by omega), if_pos (lr_nin (m := 8 * n + k) (N := 32) hq (by decide)), lr_ncl (m := 8 * n + k) (by omega), lr_mod8 (q := 8 * n + k) (by omega), show (8 * n + k) % 8 = k by omega]
      have x0 : lr_rd (lr_wr a 11 n i (nI k)) 7 (8 * n + k) 0 = 2 := by simpa [lr_r, lr_w] using e3
      have x9 : (lr_wr a 11 n i (nI k)).1 7 (8 * n + k) 9 = a.1 7 (8 * n + k) 9 := by simp [lr_w]
      have x10 : (lr_wr a 11 n i (nI k)).1 7 (8 * n + k) 10 = a.1 7 (8 * n + k) 10 := by simp [lr_w]
      have xc : lr_rd (lr_wr a 11 n i (nI k)) 1 0 0 = nI tt := by simpa [lr_r, lr_w] using h1.1
      rw [x0, if_neg (show ¬ (2 : Int32) = 1 by decide), xc, lr_x_state, x9, x10, lr_bs (_, lr_wr a 11 n i (nI k)), lr_r b 34, ← g10, lr_m_stale hq, h1.2.1, ← g9]
      have pend : lr_Out c ns np tt ow ((lr_G_Node_becomePending n (8 * n + k) 32 (lr_wr a 11 n i (nI k))).bind fun u11 => some (1, u11)) ((some (lr_wr (lr_wr b 34 0 (8 * n + k) (vp_nar .boolean 0)) 33 0 (8 * n + k) (lr_rd (lr_wr b 34 0 (8 * n + k) (vp_nar .boolean 0)) 20 0 0 + 24))).bind fun t32 => (lr_G_M_sendDirty (nI (8 * n + k)) t32).bind fun u34 => (some (lr_wr (lr_wr u34.2 31 0 (8 * n + k) u34.1) 35 0 (8 * n + k) (lr_rd (lr_wr u34.2 31 0 (8 * n + k) u34.1) 40 0 4))).bind fun t36 => (some (lr_wr (lr_wr t36 36 0 (8 * n + k) (nI s)) 22 0 (3 * n + i) (nI k))).bind fun t39 => some (1, t39)) := by
        obtain ⟨cnt2, a2, b2, nu, u1, u2, u3, u4⟩ := lr_bpr R M hn hs hk hi f1 e3
        have y2 : lr_rd (lr_wr b 34 0 (8 * n + k) 0) 20 0 0 = nI tt := by simpa [lr_r, lr_w] using h1.2.1
        have y3 : lr_rd (lr_wr b2 31 0 (8 * n + k) nu) 40 0 4 = a.1 3 32 4 := by
          have : lr_rd (lr_wr b2 31 0 (8 * n + k) nu) 40 0 4 = b2.1 40 0 4 := by simp [lr_r, lr_w]
          rw [this, u3, M.1 4 (by decide)]
        rw [u1, lr_nb0, y2, lr_bs a2, lr_bs, u2, lr_bs (nu, b2), y3, lr_bs, lr_bs]
        exact lr_o1 u4
      have owes : lr_Out c ns np tt ow ((lr_G_Slot_owe (8 * n + k) 32 (lr_wr a 11 n i (nI k))).bind fun u13 => some (1, u13)) ((some (lr_wr (lr_wr b 35 0 (8 * n + k) (lr_rd b 40 0 4)) 36 0 (8 * n + k) (nI s))).bind fun t27 => (some (lr_wr t27 22 0 (3 * n + i) (nI k))).bind fun t30 => some (1, t30)) := by
        unfold lr_G_Slot_owe
        have x1 : lr_rd (lr_wr a 11 n i (nI k)) 3 32 1 = nI s := by simpa [lr_r, lr_w] using f1
        have x4 : lr_rd (lr_wr (lr_wr a 11 n i (nI k)) 7 (8 * n + k) 11 (nI s)) 3 32 4 = a.1 3 32 4 := by simp [lr_r, lr_w]
        rw [x1, x4, lr_r b 40 0 4, M.1 4 (by decide), lr_bs, lr_bs, lr_bs, lr_bs]
        have Rr := lr_s_debt (lr_s_cred (lr_s_root R hn hi (v := nI k) (Or.inr ⟨k, hk, rfl, hne⟩)) hq (nI s) ⟨s, hs, rfl⟩) hq (a.1 3 32 4)
        rw [lr_wc b (show ¬ 22 = 36 by decide), lr_wc _ (show ¬ 22 = 35 by decide), lr_wc b (show ¬ 36 = 35 by decide)] at Rr
        exact lr_o1 Rr
      by_cases z : nI tt < a.1 7 (8 * n + k) 9
      · rw [if_pos z, if_pos z]
        by_cases w : a.1 7 (8 * n + k) 10 = 0
        · rw [if_pos w, if_pos w, if_neg (show ¬ (0 : Int32) = 1 by decide), if_pos rfl, lr_bs ((0 : Int32), b), if_pos rfl]
          exact owes
        · rw [if_neg w, if_neg w, if_pos rfl, lr_bs ((0 : Int32), b), if_pos rfl, lr_bs (lr_wr b 22 0 (3 * n + i) (nI k))]
          exact lr_taken_out R M hn hs hk hi f1 f3 hne
      · rw [if_neg z, if_neg z, if_neg (show ¬ (2 : Int32) = 1 by decide), if_neg (show ¬ (2 : Int32) = 0 by decide)]
        by_cases w : a.1 7 (8 * n + k) 10 = 0
        · rw [if_pos w, lr_bs ((1 : Int32), b), if_neg lr_1ne0]
          exact pend
        · rw [if_neg w, lr_bs ((1 : Int32), b), if_neg lr_1ne0, lr_m_stale hq, h1.2.1, ← g9, if_neg z, lr_bs ((1 : Int32), b), if_neg lr_1ne0]
          exact pend
