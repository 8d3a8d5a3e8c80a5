theorem lr_recv_reply {c ns np cnt tt : Nat} {ow : Nat → Nat} {a b : lr_S} (R : lr_Rel c ns np cnt tt ow a b) (M : lr_Mr ns ow a b) {n kd : Nat} (hn : n < 4) (hkd : kd = 7 ∨ kd = 8) (f0 : a.1 3 32 0 = nI kd) : lr_Out c ns np tt ow (lr_G_Node_receiveReply n 32 a) (lr_G_M_answerComes (nI n) (nI kd) b) := by
  obtain ⟨h1, h2, h3, h4, h5, h6, h7, h7v, h8, h9, h10, h11, h12, h13, h14, h15, h16, h17, h18, h19, h20, p1, p2, p3, p4, p5, h22, h23⟩ := id R
  obtain ⟨g0, g1, g3, g4, g5⟩ := h15 n hn
  unfold lr_G_Node_receiveReply lr_G_M_answerComes
  rw [lr_c4, lr_c5, if_pos (lr_nin hn (by decide)), lr_ncl (by omega), lr_r a 14 n 0, lr_r b 45, ← g0, lr_r a 14 n 1, lr_r b 46, ← g1, lr_r a 3 32 4, lr_r b 40 0 4, M.1 4 (by decide), lr_r a 3 32 0, f0]
  by_cases q : a.1 14 n 0 = 1
  · have hne : ¬ a.1 14 n 0 = 0 := by rw [q]; decide
    rw [if_pos q, if_pos q]
    by_cases q2 : a.1 14 n 1 = a.1 3 32 4
    · rw [if_pos q2, if_pos q2]
      rcases hkd with rfl | rfl
      · rw [if_pos (show nI 7 = 7 from rfl), if_pos (show nI 7 = 7 from rfl), lr_bs]
        have r1 : lr_rd (lr_wr a 14 n 0 2) 3 32 5 = a.1 3 32 5 := by simp [lr_r, lr_w]
        have r2 : lr_rd (lr_wr b 45 0 n 2) 40 0 5 = a.1 3 32 5 := by rw [← M.1 5 (by decide)]; simp [lr_r, lr_w]
        rw [r1, r2]
        exact lr_o1 (lr_s_rres (lr_s_rstate R hn (by decide) hne) hn _)
      · rw [if_neg (show ¬ nI 8 = 7 by decide), if_neg (show ¬ nI 8 = 7 by decide), lr_bs, lr_r (lr_wr b 45 0 n 3) 50 0 n, lr_wsame]
        exact lr_o1 (lr_s_rstate R hn (by decide) hne)
    · rw [if_neg q2, if_neg q2]
      exact lr_o0 R
  · rw [if_neg q, if_neg q]
    exact lr_o0 R
theorem lr_x_isFresh (a : lr_S) (q : Nat) (t : Int32) : lr_G_Slot_isFreshSurrogate q t a = some (if a.1 7 q 0 = 2 ∧ t < a.1 7 q 9 then 1 else 0, a) := by
  unfold lr_G_Slot_isFreshSurrogate
  rw [lr_r, lr_x_state, lr_bs]
  by_cases h : a.1 7 q 0 = 2
  · rw [if_pos h]
    by_cases g : t < a.1 7 q 9
    · rw [if_pos (show a.1 7 q 0 = 2 ∧ t < a.1 7 q 9 from ⟨h, g⟩), if_pos g]
      by_cases z : a.1 7 q 10 = 0
      · rw [if_pos z]; rfl
      · rw [if_neg z]; rfl
    · rw [if_neg (show ¬ (a.1 7 q 0 = 2 ∧ t < a.1 7 q 9) from fun z => g z.2), if_neg g]; rfl
  · rw [if_neg h, if_neg (fun z => h z.1)]
/-- LISTED and GONE: does it concern a surrogate -/
theorem lr_x_concerns {a : lr_S} {n k : Nat} (hk : k < 8) (h2 : a.1 7 (8 * n + k) 0 = 2) : lr_G_Node_concerns n 32 (nI k) a = some (if a.1 1 0 0 < a.1 7 (8 * n + k) 9 ∧ ¬ a.1 3 32 4 < a.1 7 (8 * n + k) 7 then 1 else 0, a) := by
  unfold lr_G_Node_concerns
  rw [if_neg (lr_n1 (by omega)), if_pos (lr_nin hk (by decide)), lr_ncl (by omega), lr_x_isFresh, lr_bs, lr_r a 1]
  by_cases g : a.1 1 0 0 < a.1 7 (8 * n + k) 9
  · rw [if_pos (show a.1 7 (8 * n + k) 0 = 2 ∧ a.1 1 0 0 < a.1 7 (8 * n + k) 9 from ⟨h2, g⟩), if_neg lr_1ne0, lr_r a 3, lr_r a 7]
    by_cases q : a.1 3 32 4 < a.1 7 (8 * n + k) 7
    · rw [if_pos q, if_neg (fun z => z.2 q)]
    · rw [if_neg q, if_pos ⟨g, q⟩]
  · rw [if_neg (show ¬ (a.1 7 (8 * n + k) 0 = 2 ∧ a.1 1 0 0 < a.1 7 (8 * n + k) 9) from fun z => g z.2), if_pos rfl, if_neg (fun z => g z.1)]
theorem lr_recv_gone {c ns np cnt tt : Nat} {ow : Nat → Nat} {a b : lr_S} (R : lr_Rel c ns np cnt tt ow a b) (M : lr_Mr ns ow a b) {n e : Nat} (hn : n < 4) (he : e < ns) (f3 : a.1 3 32 3 = nI e) (ho : ¬ ow e = n) : lr_Out c ns np tt ow (lr_G_Node_receiveGone n 32 a) (lr_G_M_listedComes (nI n) (nI 4) b) := by
  obtain ⟨h1, h2, h3, h4, h5, h6, h7, h7v, h8, h9, h10, h11, h12, h13, h14, h15, h16, h17, h18, h19, h20, p1, p2, p3, p4, p5, h22, h23⟩ := id R
  unfold lr_G_Node_receiveGone lr_G_M_listedComes
  rw [lr_c3, lr_c4, lr_c5, lr_r b 40 0 3, M.1 3 (by decide), f3, lr_r a 3 32 3, f3]
  rcases lr_find_rel R hn he (w := 2) (Or.inr ⟨rfl, ho⟩) with ⟨e1, e2⟩ | ⟨k, hk, e1, e2, e3, e4⟩
  · rw [e1, e2]
    exact lr_o0 R
  · obtain ⟨g0, g1, g2, g6, g7, g8, g9, g10, g11, g12⟩ := h8 (8 * n + k) (by omega)
    rw [e1, e2, lr_bs (nI k, a), lr_bs (nI (8 * n + k), b), lr_x_concerns hk e3, lr_bs, if_neg (lr_nneg (m := 8 * n + k) (by omega)), lr_m_stale (by omega), lr_bs, h1.2.1, ← h1.1, ← g9]
    by_cases q : a.1 1 0 0 < a.1 7 (8 * n + k) 9
    · rw [if_pos q, if_pos rfl, if_pos (lr_nin (N := 32) (by omega) (by decide)), lr_ncl (m := 8 * n + k) (by omega), lr_r b 31, lr_r b 40 0 4, M.1 4 (by decide), ← g7]
      by_cases q2 : a.1 3 32 4 < a.1 7 (8 * n + k) 7
      · rw [if_neg (show ¬ (a.1 1 0 0 < a.1 7 (8 * n + k) 9 ∧ ¬ a.1 3 32 4 < a.1 7 (8 * n + k) 7) from fun z => z.2 q2), if_pos rfl, if_neg (Int32.not_le.mpr q2)]
        exact lr_o0 R
      · rw [if_pos (show a.1 1 0 0 < a.1 7 (8 * n + k) 9 ∧ ¬ a.1 3 32 4 < a.1 7 (8 * n + k) 7 from ⟨q, q2⟩), if_neg lr_1ne0, if_pos (lr_nin hk (by decide)), lr_ncl (m := k) (by omega), if_pos (Int32.not_lt.mp q2), if_pos (show nI 4 = 4 from rfl), lr_r a 1, lr_r b 20, h1.2.1, h1.1]
        exact lr_o1 (lr_s_expiry R (by omega) _)
    · rw [if_neg (show ¬ (a.1 1 0 0 < a.1 7 (8 * n + k) 9 ∧ ¬ a.1 3 32 4 < a.1 7 (8 * n + k) 7) from fun z => q z.1), if_pos rfl, if_neg q, if_neg lr_1ne0]
      exact lr_o0 R
theorem lr_recv_listed {c ns np cnt tt : Nat} {ow : Nat → Nat} {a b : lr_S} (R : lr_Rel c ns np cnt tt ow a b) (M : lr_Mr ns ow a b) {n e : Nat} (hn : n < 4) (he : e < ns) (f3 : a.1 3 32 3 = nI e) (ho : ¬ ow e = n) : lr_Out c ns np tt ow (lr_G_Node_receiveListed n 32 a) (lr_G_M_listedComes (nI n) (nI 3) b) := by
  obtain ⟨h1, h2, h3, h4, h5, h6, h7, h7v, h8, h9, h10, h11, h12, h13, h14, h15, h16, h17, h18, h19, h20, p1, p2, p3, p4, p5, h22, h23⟩ := id R
  unfold lr_G_Node_receiveListed lr_G_M_listedComes
  rw [lr_c3, lr_c4, lr_c5, lr_r b 40 0 3, M.1 3 (by decide), f3, lr_r a 3 32 3, f3]
  rcases lr_find_rel R hn he (w := 2) (Or.inr ⟨rfl, ho⟩) with ⟨e1, e2⟩ | ⟨k, hk, e1, e2, e3, e4⟩
  · rw [e1, e2]
    exact lr_o0 R
  · have hq : 8 * n + k < 32 := by omega
    obtain ⟨g0, g1, g2, g6, g7, g8, g9, g10, g11, g12⟩ := h8 (8 * n + k) hq
    obtain ⟨s, hs, hcr⟩ := h23 (8 * n + k) hq
    rw [e1, e2, lr_bs (nI k, a), lr_bs (nI (8 * n + k), b), lr_x_concerns hk e3, lr_bs, if_neg (lr_nneg (m := 8 * n + k) (by omega)), lr_m_stale (by omega), lr_bs (_, b), h1.2.1, ← h1.1, ← g9]
    by_cases q : a.1 1 0 0 < a.1 7 (8 * n + k) 9
    · rw [if_pos q, if_pos rfl, if_pos (lr_nin (N := 32) (by omega) (by decide)), lr_ncl (m := 8 * n + k) (by omega), lr_r b 31, lr_r b 40 0 4, M.1 4 (by decide), ← g7]
      by_cases q2 : a.1 3 32 4 < a.1 7 (8 * n + k) 7
      · rw [if_neg (show ¬ (a.1 1 0 0 < a.1 7 (8 * n + k) 9 ∧ ¬ a.1 3 32 4 < a.1 7 (8 * n + k) 7) from fun z => z.2 q2), if_pos rfl, if_neg (Int32.not_le.mpr q2)]
        exact lr_o0 R
      · rw [if_pos (show a.1 1 0 0 < a.1 7 (8 * n + k) 9 ∧ ¬ a.1 3 32 4 < a.1 7 (8 * n + k) 7 from ⟨q, q2⟩), if_neg lr_1ne0, if_pos (lr_nin hk (by decide)), lr_ncl (m := k) (by omega), if_pos (Int32.not_lt.mp q2), if_neg (show ¬ nI 3 = 4 by decide), lr_r a 7 _ 9, lr_r a 3 32 5, lr_r b 40 0 5, M.1 5 (by decide), lr_r b 33, ← g9]
        -- the new expiry, the same on both sides
        have go : ∀ v : Int32, lr_Out c ns np tt ow ((some (lr_wr a 7 (8 * n + k) 9 v)).bind fun t7 => if lr_rd t7 7 (8 * n + k) 10 = 0 then (lr_G_Network_send 1 (lr_rd (lr_wr t7 7 (8 * n + k) 10 1) 5 n 0) (lr_rd (lr_wr t7 7 (8 * n + k) 10 1) 7 (8 * n + k) 11) (lr_rd (lr_wr t7 7 (8 * n + k) 10 1) 7 (8 * n + k) 1) (lr_rd (lr_wr t7 7 (8 * n + k) 10 1) 7 (8 * n + k) 12) 0 (lr_wr t7 7 (8 * n + k) 10 1)).bind fun u10 => some (1, u10) else some (1, t7)) (if lr_rd (lr_wr b 33 0 (8 * n + k) v) 34 0 (8 * n + k) = 0 then (lr_G_M_send 1 (nI n) (lr_rd (lr_wr (lr_wr b 33 0 (8 * n + k) v) 34 0 (8 * n + k) (vp_nar .boolean 1)) 36 0 (8 * n + k)) (lr_rd (lr_wr (lr_wr b 33 0 (8 * n + k) v) 34 0 (8 * n + k) (vp_nar .boolean 1)) 40 0 3) (lr_rd (lr_wr (lr_wr b 33 0 (8 * n + k) v) 34 0 (8 * n + k) (vp_nar .boolean 1)) 35 0 (8 * n + k)) 0 (lr_wr (lr_wr b 33 0 (8 * n + k) v) 34 0 (8 * n + k) (vp_nar .boolean 1))).bind fun u14 => some (1, u14) else some (1, lr_wr b 33 0 (8 * n + k) v)) := by
          intro v
          have R1 := lr_s_expiry R hq v
          have x1 : lr_rd (lr_wr a 7 (8 * n + k) 9 v) 7 (8 * n + k) 10 = a.1 7 (8 * n + k) 10 := by simp [lr_r, lr_w]
          have m1 : lr_rd (lr_wr b 33 0 (8 * n + k) v) 34 0 (8 * n + k) = a.1 7 (8 * n + k) 10 := by rw [g10]; simp [lr_r, lr_w]
          rw [lr_bs, x1, m1]
          by_cases z : a.1 7 (8 * n + k) 10 = 0
          · rw [if_pos z, if_pos z, lr_nb1]
            have R2 := lr_s_good R1 hq 1
            have y1 : lr_rd (lr_wr (lr_wr a 7 (8 * n + k) 9 v) 7 (8 * n + k) 10 1) 5 n 0 = nI n := by simpa [lr_r, lr_w] using h5 n hn
            have y2 : lr_rd (lr_wr (lr_wr a 7 (8 * n + k) 9 v) 7 (8 * n + k) 10 1) 7 (8 * n + k) 11 = nI s := by simpa [lr_r, lr_w] using hcr
            have y3 : lr_rd (lr_wr (lr_wr a 7 (8 * n + k) 9 v) 7 (8 * n + k) 10 1) 7 (8 * n + k) 1 = nI e := by simpa [lr_r, lr_w] using e4
            have y4 : lr_rd (lr_wr (lr_wr a 7 (8 * n + k) 9 v) 7 (8 * n + k) 10 1) 7 (8 * n + k) 12 = a.1 7 (8 * n + k) 12 := by simp [lr_r, lr_w]
            have w2 : lr_rd (lr_wr (lr_wr b 33 0 (8 * n + k) v) 34 0 (8 * n + k) 1) 36 0 (8 * n + k) = nI s := by rw [← hcr, g11]; simp [lr_r, lr_w]
            have w3 : lr_rd (lr_wr (lr_wr b 33 0 (8 * n + k) v) 34 0 (8 * n + k) 1) 40 0 3 = nI e := by rw [← f3, ← M.1 3 (by decide)]; simp [lr_r, lr_w]
            have w4 : lr_rd (lr_wr (lr_wr b 33 0 (8 * n + k) v) 34 0 (8 * n + k) 1) 35 0 (8 * n + k) = a.1 7 (8 * n + k) 12 := by rw [g12]; simp [lr_r, lr_w]
            rw [y1, y2, y3, y4, w2, w3, w4]
            obtain ⟨cnt2, a2, b2, u1, u2, u3, -, -⟩ := lr_send R2 (f0 := 1) (f1 := nI n) (f2 := nI s) (f3 := nI e) (f4 := a.1 7 (8 * n + k) 12) (f5 := 0) ⟨1, n, s, by omega, hn, hs, rfl, rfl, rfl, fun z => by omega, fun z => by omega, fun z => by omega, fun z => by omega⟩
            rw [u1, u2]
            exact lr_o1 u3
          · rw [if_neg z, if_neg z]
            exact lr_o1 R1
        by_cases q3 : a.1 3 32 5 + 24 ≤ a.1 7 (8 * n + k) 9
        · rw [if_neg (Int32.not_lt.mpr q3), if_pos q3, lr_bs (lr_wr (lr_wr b 33 0 (8 * n + k) (a.1 7 (8 * n + k) 9)) 34 0 (8 * n + k) (vp_nar .boolean 1))]
          exact go (a.1 7 (8 * n + k) 9)
        · rw [if_pos (Int32.not_le.mp q3), if_neg q3, lr_bs (lr_wr b 33 0 (8 * n + k) (a.1 3 32 5 + 24))]
          exact go (a.1 3 32 5 + 24)
    · rw [if_neg (show ¬ (a.1 1 0 0 < a.1 7 (8 * n + k) 9 ∧ ¬ a.1 3 32 4 < a.1 7 (8 * n + k) 7) from fun z => q z.1), if_pos rfl, if_neg q, if_neg lr_1ne0]
      exact lr_o0 R
