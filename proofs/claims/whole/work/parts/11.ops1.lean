theorem lr_out_ne {x : Int32} {N j : Nat} (h : lr_out x N) (hj : j < N) (hN : N < 2 ^ 31) : ¬ x = nI j := by
  rintro rfl
  rcases h with h | h
  · exact lr_nneg (by omega) h
  · exact nI_ge hj hN h
theorem lr_one {x v : Int32} {N j : Nat} (hv : v = nI j) (h : lr_out x N) (hj : j < N) (hN : N < 2 ^ 31) : ¬ x = v := by rw [hv]; exact lr_out_ne h hj hN
theorem lr_x_mpart_o {y : Int32} {a : lr_S} {i : Nat} (hy : lr_out y 6) : lr_G_Message_part i y a = some (-1, a) := by
  unfold lr_G_Message_part
  rw [if_neg (lr_one (v := 0) (j := 0) rfl hy (by decide) (by decide)), if_neg (lr_one (v := 1) (j := 1) rfl hy (by decide) (by decide)), if_neg (lr_one (v := 2) (j := 2) rfl hy (by decide) (by decide)), if_neg (lr_one (v := 3) (j := 3) rfl hy (by decide) (by decide)), if_neg (lr_one (v := 4) (j := 4) rfl hy (by decide) (by decide)), if_neg (lr_one (v := 5) (j := 5) rfl hy (by decide) (by decide))]
theorem lr_x_mpart_i {a : lr_S} {i w : Nat} (hw : w < 6) : lr_G_Message_part i (nI w) a = some (a.1 3 i w, a) := by
  rcases (show w = 0 ∨ w = 1 ∨ w = 2 ∨ w = 3 ∨ w = 4 ∨ w = 5 by omega) with rfl | rfl | rfl | rfl | rfl | rfl <;> rfl
theorem lr_x_rpart_o {y : Int32} {a : lr_S} {i : Nat} (hy : lr_out y 3) : lr_G_Request_part i y a = some (-1, a) := by
  unfold lr_G_Request_part
  rw [if_neg (lr_one (v := 0) (j := 0) rfl hy (by decide) (by decide)), if_neg (lr_one (v := 1) (j := 1) rfl hy (by decide) (by decide)), if_neg (lr_one (v := 2) (j := 2) rfl hy (by decide) (by decide))]
theorem lr_sim_flight : lr_Sim (lr_G_X_flight) (lr_G_M_flight) := by
  rintro c a b ⟨ns, np, cnt, tt, ow, R⟩ hc
  obtain ⟨h1, h2, h3, h4, h5, h6, h7, h7v, h8, h9, h10, h11, h12, h13, h14, h15, h16, h17, h18, h19, h20, p1, p2, p3, p4, p5, h22, h23⟩ := id R
  refine lr_same R hc (r := nI cnt) ?_ ?_
  · unfold lr_G_X_flight
    rw [lr_r, h2.1]
  · unfold lr_G_M_flight
    rw [lr_r, h2.2.1]
theorem lr_sim_message (x y : Int32) : lr_Sim (lr_G_X_message x y) (lr_G_M_message x y) := by
  rintro c a b ⟨ns, np, cnt, tt, ow, R⟩ hc
  obtain ⟨h1, h2, h3, h4, h5, h6, h7, h7v, h8, h9, h10, h11, h12, h13, h14, h15, h16, h17, h18, h19, h20, p1, p2, p3, p4, p5, h22, h23⟩ := id R
  have hc32 := h2.2.2
  unfold lr_G_X_message lr_G_M_message
  rcases lr_arg x (N := cnt) (by omega) with hx | ⟨p, hp, rfl⟩
  · rw [lr_x_hasPlace_o h2.1 hx, lr_r, lr_m_within_o h2.2.1 hx]
    exact lr_same R hc rfl rfl
  · have hp2 := h18.1 p (by omega)
    rw [lr_x_hasPlace_i h2.1 hp (by omega), lr_r, lr_m_within_i h2.2.1 hp (by omega), lr_bs, lr_bs, if_neg lr_1ne0, if_neg lr_1ne0, if_pos (lr_nin (by omega) (by decide)), lr_ncl (by omega), if_pos (show a.2 p < 49 by omega)]
    rcases lr_arg y (N := 6) (by decide) with hy | ⟨w, hw, rfl⟩
    · rw [lr_m_within_o (y := 6) (N := 6) rfl hy, lr_x_mpart_o hy]
      exact lr_same R hc rfl rfl
    · rw [lr_m_within_i (y := 6) (N := 6) rfl hw (by decide), lr_x_mpart_i hw, lr_bs, lr_bs, if_neg lr_1ne0, lr_mul 6 (m := 6) rfl, nI_add, if_pos (lr_nin (by omega) (by decide)), lr_ncl (by omega), lr_r, ← h19 p w hp hw]
      exact lr_same R hc rfl rfl
theorem lr_sim_root (x y : Int32) : lr_Sim (lr_G_X_root x y) (lr_G_M_root x y) := by
  rintro c a b ⟨ns, np, cnt, tt, ow, R⟩ hc
  obtain ⟨h1, h2, h3, h4, h5, h6, h7, h7v, h8, h9, h10, h11, h12, h13, h14, h15, h16, h17, h18, h19, h20, p1, p2, p3, p4, p5, h22, h23⟩ := id R
  unfold lr_G_X_root lr_G_M_root
  rcases lr_arg x (N := 4) (by decide) with hx | ⟨n, hn, rfl⟩
  · rw [lr_x_isNode_o hx, lr_m_within_o (y := 4) (N := 4) rfl hx]
    exact lr_same R hc rfl rfl
  · rw [lr_x_isNode_i hn, lr_m_within_i (y := 4) (N := 4) rfl hn (by decide), lr_bs, lr_bs, if_neg lr_1ne0, if_neg lr_1ne0]
    rcases lr_arg y (N := 3) (by decide) with hy | ⟨r, hr, rfl⟩
    · rw [lr_x_isRoot_o hy, lr_m_within_o (y := 3) (N := 3) rfl hy]
      exact lr_same R hc rfl rfl
    · rw [lr_x_isRoot_i hr, lr_m_within_i (y := 3) (N := 3) rfl hr (by decide), lr_bs, lr_bs, if_neg lr_1ne0, if_neg lr_1ne0, if_pos (lr_nin hn (by decide)), if_pos (lr_nin hr (by decide)), lr_mul 3 (m := 3) rfl, nI_add, if_pos (lr_nin (by omega) (by decide)), lr_ncl (by omega), lr_ncl (by omega), lr_ncl (by omega), lr_r, lr_r, ← h7 n r hn hr]
      exact lr_same R hc rfl rfl
theorem lr_sim_outcome (x y : Int32) : lr_Sim (lr_G_X_outcome x y) (lr_G_M_outcome x y) := by
  rintro c a b ⟨ns, np, cnt, tt, ow, R⟩ hc
  obtain ⟨h1, h2, h3, h4, h5, h6, h7, h7v, h8, h9, h10, h11, h12, h13, h14, h15, h16, h17, h18, h19, h20, p1, p2, p3, p4, p5, h22, h23⟩ := id R
  unfold lr_G_X_outcome lr_G_M_outcome
  rcases lr_arg x (N := 4) (by decide) with hx | ⟨n, hn, rfl⟩
  · rw [lr_x_isNode_o hx, lr_m_within_o (y := 4) (N := 4) rfl hx]
    exact lr_same R hc rfl rfl
  · have g := h15 n hn
    rw [lr_x_isNode_i hn, lr_m_within_i (y := 4) (N := 4) rfl hn (by decide), lr_bs, lr_bs, if_neg lr_1ne0, if_neg lr_1ne0, if_pos (lr_nin hn (by decide)), lr_ncl (by omega)]
    rcases lr_arg y (N := 3) (by decide) with hy | ⟨w, hw, rfl⟩
    · rw [lr_m_within_o (y := 3) (N := 3) rfl hy, lr_x_rpart_o hy]
      exact lr_same R hc rfl rfl
    · rw [lr_m_within_i (y := 3) (N := 3) rfl hw (by decide), lr_bs, if_neg lr_1ne0, if_pos (lr_nin hn (by decide))]
      rcases (show w = 0 ∨ w = 1 ∨ w = 2 by omega) with rfl | rfl | rfl
      · exact lr_same R hc (r := a.1 14 n 0) rfl (by rw [if_pos (by decide), lr_r, ← g.1])
      · exact lr_same R hc (r := a.1 14 n 1) rfl (by rw [if_neg (by decide), if_pos (by decide), lr_r, ← g.2.1, if_pos (lr_nin hn (by decide))])
      · exact lr_same R hc (r := a.1 14 n 5) rfl (by rw [if_neg (by decide), if_neg (by decide), lr_r, ← g.2.2.2.2, if_pos (lr_nin hn (by decide))])
theorem lr_sim_drop (x y : Int32) : lr_Sim (lr_G_X_drop x y) (lr_G_M_drop x y) := by
  rintro c a b ⟨ns, np, cnt, tt, ow, R⟩ hc
  obtain ⟨h1, h2, h3, h4, h5, h6, h7, h7v, h8, h9, h10, h11, h12, h13, h14, h15, h16, h17, h18, h19, h20, p1, p2, p3, p4, p5, h22, h23⟩ := id R
  unfold lr_G_X_drop lr_G_M_drop
  rcases lr_arg x (N := 4) (by decide) with hx | ⟨n, hn, rfl⟩
  · rw [lr_x_acts_o hx, lr_m_lives_o hx]
    exact lr_same R hc rfl rfl
  · rw [lr_x_acts_i hn, lr_m_lives_i hn, ← (h6 n hn).2, lr_bs, lr_bs]
    by_cases hz : a.1 5 n 9 = 0
    · rw [if_pos hz, if_neg lr_1ne0, if_neg lr_1ne0]
      rcases lr_arg y (N := 3) (by decide) with hy | ⟨r, hr, rfl⟩
      · rw [lr_x_isRoot_o hy, lr_m_within_o (y := 3) (N := 3) rfl hy]
        exact lr_same R hc rfl rfl
      · rw [lr_x_isRoot_i hr, lr_m_within_i (y := 3) (N := 3) rfl hr (by decide), lr_bs, lr_bs, if_neg lr_1ne0, if_neg lr_1ne0, if_pos (lr_nin hn (by decide)), if_pos (lr_nin hr (by decide)), lr_mul 3 (m := 3) rfl, nI_add, if_pos (lr_nin (by omega) (by decide)), lr_ncl (by omega), lr_ncl (by omega), lr_ncl (by omega)]
        exact lr_fin (lr_s_root R hn hr (Or.inl rfl)) hc rfl rfl
    · rw [if_neg hz, if_pos rfl, if_pos rfl]
      exact lr_same R hc rfl rfl
theorem lr_sim_crash (x : Int32) : lr_Sim (lr_G_X_crash x) (lr_G_M_crash x) := by
  rintro c a b ⟨ns, np, cnt, tt, ow, R⟩ hc
  obtain ⟨h1, h2, h3, h4, h5, h6, h7, h7v, h8, h9, h10, h11, h12, h13, h14, h15, h16, h17, h18, h19, h20, p1, p2, p3, p4, p5, h22, h23⟩ := id R
  unfold lr_G_X_crash lr_G_M_crash
  rcases lr_arg x (N := 4) (by decide) with hx | ⟨n, hn, rfl⟩
  · rw [lr_x_acts_o hx, lr_m_lives_o hx]
    exact lr_same R hc rfl rfl
  · rw [lr_x_acts_i hn, lr_m_lives_i hn, ← (h6 n hn).2, lr_bs, lr_bs]
    by_cases hz : a.1 5 n 9 = 0
    · rw [if_pos hz, if_neg lr_1ne0, if_neg lr_1ne0, if_pos (lr_nin hn (by decide)), lr_ncl (by omega)]
      exact lr_fin (lr_s_crash R hn 1) hc rfl (by first | rw [if_pos (lr_nin hn (by decide))]; rfl | rfl)
    · rw [if_neg hz, if_pos rfl, if_pos rfl]
      exact lr_same R hc rfl rfl
/-- what a root refers to -/
theorem lr_x_rootHolds0 {a : lr_S} {n r : Nat} (hr : r < 3) (w : Int32) (h : a.1 11 n r = -1) : lr_G_Node_rootHolds n (nI r) w a = some (if 0 = w then 1 else 0, a) := by
  unfold lr_G_Node_rootHolds
  rw [if_pos (lr_nin hr (by decide)), lr_ncl (by omega), lr_r, if_pos h]
  by_cases e : (0 : Int32) = w
  · rw [if_pos e, if_pos e]
  · rw [if_neg e, if_neg e]
theorem lr_x_rootHolds1 {a : lr_S} {n r k : Nat} (hr : r < 3) (hk : k < 8) (w : Int32) (h : a.1 11 n r = nI k) : lr_G_Node_rootHolds n (nI r) w a = some (if a.1 7 (8 * n + k) 0 = w then 1 else 0, a) := by
  unfold lr_G_Node_rootHolds
  rw [if_pos (lr_nin hr (by decide)), lr_ncl (by omega), lr_r, h, if_neg (lr_n1 (by omega)), if_pos (lr_nin hk (by decide)), lr_ncl (by omega), lr_r]
  by_cases e : a.1 7 (8 * n + k) 0 = w
  · rw [if_pos e, if_pos e]
  · rw [if_neg e, if_neg e]
theorem lr_m_at_out {x y : Int32} {b : lr_S} (h : lr_out x 4 ∨ lr_out y 3) (hx : lr_out x 4 ∨ ∃ n, n < 4 ∧ x = nI n) : lr_G_M_at x y b = some (-1, b) := by
  unfold lr_G_M_at
  rcases hx with hx | ⟨n, hn, rfl⟩
  · rw [lr_m_lives_o hx, lr_bs, if_pos rfl]
  · rcases h with h | h
    · rw [lr_m_lives_o h, lr_bs, if_pos rfl]
    · rw [lr_m_lives_i hn, lr_bs]
      by_cases hz : b.1 21 0 n = 0
      · rw [if_pos hz, if_neg lr_1ne0, lr_m_within_o (y := 3) (N := 3) rfl h, lr_bs, if_pos rfl]
      · rw [if_neg hz, if_pos rfl]
theorem lr_m_at_dead {y : Int32} {b : lr_S} {n : Nat} (hn : n < 4) (h : ¬ b.1 21 0 n = 0) : lr_G_M_at (nI n) y b = some (-1, b) := by
  unfold lr_G_M_at
  rw [lr_m_lives_i hn, lr_bs, if_neg h, if_pos rfl]
theorem lr_m_at0 {b : lr_S} {n r : Nat} (hn : n < 4) (hr : r < 3) (hd : b.1 21 0 n = 0) (h : b.1 22 0 (3 * n + r) = -1) : lr_G_M_at (nI n) (nI r) b = some (-1, b) := by
  unfold lr_G_M_at
  rw [lr_m_lives_i hn, lr_bs, if_pos hd, if_neg lr_1ne0, lr_m_within_i (y := 3) (N := 3) rfl hr (by decide), lr_bs, if_neg lr_1ne0, lr_mul 3 (m := 3) rfl, nI_add, if_pos (lr_nin (by omega) (by decide)), lr_ncl (by omega), lr_r, h, if_neg (by decide)]
theorem lr_m_at1 {b : lr_S} {n r k : Nat} (hn : n < 4) (hr : r < 3) (hk : k < 8) (hd : b.1 21 0 n = 0) (h : b.1 22 0 (3 * n + r) = nI k) : lr_G_M_at (nI n) (nI r) b = some (nI (8 * n + k), b) := by
  unfold lr_G_M_at
  rw [lr_m_lives_i hn, lr_bs, if_pos hd, if_neg lr_1ne0, lr_m_within_i (y := 3) (N := 3) rfl hr (by decide), lr_bs, if_neg lr_1ne0, lr_mul 3 (m := 3) rfl, nI_add, if_pos (lr_nin (by omega) (by decide)), lr_ncl (by omega), lr_r, h, if_pos (nI_pos' (by omega)), lr_mul 8 (m := 8) rfl, nI_add]
