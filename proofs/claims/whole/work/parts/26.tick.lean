/-- one node's surrogates at a tick -/
theorem lr_due {c ns np tt : Nat} {ow : Nat → Nat} {n : Nat} (hn : n < 4) : ∀ (r k f g : Nat) (cnt : Nat) (a b : lr_S), k + r = 8 → r < f → r < g → lr_Rel c ns np cnt tt ow a b → ∃ cnt2 a2 b2, lr_L_Node_sendWhatIsDue_10 n f (nI k) a = some (nI 8, a2) ∧ lr_L_M_renew_5 (nI n) g (nI (8 * n + k)) b = some (nI (8 * n + 8), b2) ∧ lr_Rel c ns np cnt2 tt ow a2 b2
  | 0, k, f, g, cnt, a, b, e, hf, hg, R => by
    obtain ⟨f, rfl⟩ : ∃ z, f = z + 1 := ⟨f - 1, by omega⟩
    obtain ⟨g, rfl⟩ : ∃ z, g = z + 1 := ⟨g - 1, by omega⟩
    obtain rfl : k = 8 := by omega
    refine ⟨cnt, a, b, ?_, ?_, R⟩
    · unfold lr_L_Node_sendWhatIsDue_10
      rw [if_pos (lr_yle (x := 8) (m := 8) rfl (by omega) (by decide))]
    · unfold lr_L_M_renew_5
      rw [lr_mul 8 (m := 8) rfl, show nI (8 * n) + 8 = nI (8 * n + 8) from nI_add _ 8, if_pos (lr_yle rfl (by omega) (by omega))]
  | r + 1, k, f, g, cnt, a, b, e, hf, hg, R => by
    obtain ⟨f, rfl⟩ : ∃ z, f = z + 1 := ⟨f - 1, by omega⟩
    obtain ⟨g, rfl⟩ : ∃ z, g = z + 1 := ⟨g - 1, by omega⟩
    obtain ⟨h1, h2, h3, h4, h5, h6, h7, h7v, h8, h9, h10, h11, h12, h13, h14, h15, h16, h17, h18, h19, h20, p1, p2, p3, p4, p5, h22, h23⟩ := id R
    have hk : k < 8 := by omega
    have hq : 8 * n + k < 32 := by omega
    obtain ⟨g0, g1, g2, g6, g7', g8, g9, g10, g11, g12⟩ := h8 (8 * n + k) hq
    have go := fun (cn : Nat) (A B : lr_S) (RA : lr_Rel c ns np cn tt ow A B) => lr_due hn r (k + 1) f g cn A B (by omega) (by omega) (by omega) RA
    unfold lr_L_Node_sendWhatIsDue_10 lr_L_M_renew_5
    rw [if_neg (lr_nle (x := 8) (m := 8) rfl (by omega) (by decide)), if_pos (lr_nin hk (by decide)), lr_ncl (m := k) (by omega), lr_x_isFresh, lr_bs (_, a), lr_r a 1, h1.1, lr_mul 8 (m := 8) rfl, show nI (8 * n) + 8 = nI (8 * n + 8) from nI_add _ 8, if_neg (lr_nle (x := nI (8 * n + 8)) rfl (by omega) (by omega)), if_pos (lr_nin hq (by decide)), lr_ncl (m := 8 * n + k) (by omega), lr_r b 24, ← g0, lr_m_stale hq, lr_bs (_, b), h1.2.1, ← g9, nI_1, nI_1, show 8 * n + k + 1 = 8 * n + (k + 1) by omega]
    by_cases q1 : a.1 7 (8 * n + k) 0 = 2
    rotate_left
    · rw [if_neg (show ¬ (a.1 7 (8 * n + k) 0 = 2 ∧ nI tt < a.1 7 (8 * n + k) 9) from fun z => q1 z.1), if_pos rfl, if_neg q1]
      exact go cnt a b R
    by_cases q2 : nI tt < a.1 7 (8 * n + k) 9
    rotate_left
    · rw [if_neg (show ¬ (a.1 7 (8 * n + k) 0 = 2 ∧ nI tt < a.1 7 (8 * n + k) 9) from fun z => q2 z.2), if_pos rfl, if_pos q1, if_neg q2, if_neg lr_1ne0]
      exact go cnt a b R
    rw [if_pos (show a.1 7 (8 * n + k) 0 = 2 ∧ nI tt < a.1 7 (8 * n + k) 9 from ⟨q1, q2⟩), if_neg lr_1ne0, if_pos q1, if_pos q2, if_pos rfl, lr_r a 7, lr_r b 20 0 0, lr_r b 32, show ((0 : Int32), b).2.1 20 0 0 = nI tt from h1.2.1, show ((0 : Int32), b).2.1 32 0 (8 * n + k) = a.1 7 (8 * n + k) 8 from g8.symm]
    by_cases q3 : nI tt - a.1 7 (8 * n + k) 8 < 6
    · rw [if_pos q3, if_pos q3]
      exact go cnt a b R
    · obtain ⟨cnt2, a2, b2, u1, u2, u3, u4, u5, u6, u7, u8⟩ := lr_sd R hn hk q1
      rw [if_neg q3, if_neg q3, u1, u2, lr_bs a2, lr_bs (_, b2)]
      have e20 : b2.1 20 0 0 = b2.1 32 0 (8 * n + k) := by
        have h1' := u3.1
        rw [u7]
        exact h1'.2.1
      rw [lr_r b2 32, lr_r b2 20, e20, lr_wsame]
      have := go cnt2 a2 b2 u3
      by_cases q4 : a2.1 5 n 8 ≤ 0
      · rw [if_pos q4]
        exact this
      · rw [if_neg q4]
        exact this
theorem lr_node_tick {c ns np cnt tt : Nat} {ow : Nat → Nat} {a b : lr_S} (R : lr_Rel c ns np cnt tt ow a b) {n : Nat} (hn : n < 4) (hz : a.1 5 n 9 = 0) : ∃ cnt2 a2 b2, lr_G_Node_sendWhatIsDue n a = some a2 ∧ lr_G_M_renew (nI n) b = some b2 ∧ lr_Rel c ns np cnt2 tt ow a2 b2 := by
  obtain ⟨cnt2, a2, b2, u1, u2, u3⟩ := lr_due hn 8 0 600 600 cnt a b (by omega) (by omega) (by omega) R
  obtain ⟨h1, h2, h3, h4, h5, h6, h7, h7v, h8, h9, h10, h11, h12, h13, h14, h15, h16, h17, h18, h19, h20, p1, p2, p3, p4, p5, h22, h23⟩ := id u3
  obtain ⟨j0, j1, j3, j4, j5⟩ := h15 n hn
  unfold lr_G_Node_sendWhatIsDue lr_G_M_renew
  rw [lr_r a 5, if_pos hz, show lr_L_Node_sendWhatIsDue_10 n 600 (0 : Int32) a = _ from u1, lr_bs (nI 8, a2), lr_mul 8 (m := 8) rfl, show lr_L_M_renew_5 (nI n) 600 (nI (8 * n)) b = _ from u2, lr_bs (_, b2), if_pos (lr_nin hn (by decide)), lr_ncl (m := n) (by omega), lr_r a2 14 n 0, lr_r b2 45, ← j0, lr_r a2 1, h1.1, lr_r b2 20, h1.2.1, lr_r a2 14 n 4, lr_r b2 49, ← j4]
  by_cases w : a2.1 14 n 0 = 1
  rotate_left
  · rw [if_neg w, if_neg w]
    exact ⟨cnt2, a2, b2, rfl, rfl, u3⟩
  rw [if_pos w, if_pos w]
  by_cases q3 : nI tt - a2.1 14 n 4 < 3
  · rw [if_pos q3, if_pos q3]
    exact ⟨cnt2, a2, b2, rfl, rfl, u3⟩
  rw [if_neg q3, if_neg q3]
  obtain ⟨m, hm, em, gm⟩ := h16 n hn
  have wne : ¬ a2.1 14 n 0 = 0 := by rw [w]; decide
  obtain ⟨m1, k, hk, ek, eb, eh⟩ := gm wne
  have hh := eh w
  have hq : 8 * n + k < 32 := by omega
  obtain ⟨g0, g1, g2, g6, g7', g8, g9, g10, g11, g12⟩ := h8 (8 * n + k) hq
  unfold lr_G_Node_repeatRequest
  rw [lr_r a2 14 n 2, show ((nI 8, a2) : Int32 × lr_S).2.1 14 n 2 = nI k from ek, if_pos (lr_nin hk (by decide)), lr_ncl (m := k) (by omega), lr_x_isFresh, lr_bs (_, a2), lr_r b2 47, eb, lr_m_stale hq, lr_bs (_, b2), lr_r a2 1, h1.1, h1.2.1, ← g9]
  by_cases q2 : nI tt < a2.1 7 (8 * n + k) 9
  · obtain ⟨cnt3, a3, b3, v1, v2, v3, -, -⟩ := lr_sr u3 hn w
    rw [if_pos (show a2.1 7 (8 * n + k) 0 = 2 ∧ nI tt < a2.1 7 (8 * n + k) 9 from ⟨hh, q2⟩), if_neg lr_1ne0, if_pos q2, if_pos rfl, v1, v2]
    exact ⟨cnt3, a3, b3, rfl, rfl, v3⟩
  · rw [if_neg (show ¬ (a2.1 7 (8 * n + k) 0 = 2 ∧ nI tt < a2.1 7 (8 * n + k) 9) from fun z => q2 z.2), if_pos rfl, if_neg q2, if_neg lr_1ne0]
    exact ⟨cnt2, _, _, rfl, rfl, lr_s_rstate u3 hn (v := 3) (by decide) wne⟩
theorem lr_nodes_tick {c ns np tt : Nat} {ow : Nat → Nat} (z1 z2 y1 y2 : Int32) : ∀ (r n f g : Nat) (cnt : Nat) (a b : lr_S), n + r = 4 → r < f → r < g → lr_Rel c ns np cnt tt ow a b → ∃ cnt2 a2 b2, lr_L_X_tick_35 z1 z2 f (nI n) a = some (nI 4, a2) ∧ lr_L_M_tick_32 y1 y2 g (nI n) b = some (nI 4, b2) ∧ lr_Rel c ns np cnt2 tt ow a2 b2
  | 0, n, f, g, cnt, a, b, e, hf, hg, R => by
    obtain ⟨f, rfl⟩ : ∃ z, f = z + 1 := ⟨f - 1, by omega⟩
    obtain ⟨g, rfl⟩ : ∃ z, g = z + 1 := ⟨g - 1, by omega⟩
    obtain rfl : n = 4 := by omega
    refine ⟨cnt, a, b, ?_, ?_, R⟩
    · unfold lr_L_X_tick_35
      rw [if_pos (lr_yle (x := 4) (m := 4) rfl (by omega) (by decide))]
    · unfold lr_L_M_tick_32
      rw [if_pos (lr_yle (x := 4) (m := 4) rfl (by omega) (by decide))]
  | r + 1, n, f, g, cnt, a, b, e, hf, hg, R => by
    obtain ⟨f, rfl⟩ : ∃ z, f = z + 1 := ⟨f - 1, by omega⟩
    obtain ⟨g, rfl⟩ : ∃ z, g = z + 1 := ⟨g - 1, by omega⟩
    have hn : n < 4 := by omega
    have h6 : lr_K6 a b := by
      obtain ⟨h1, h2, h3, h4, h5, h6, h7, h7v, h8, h9, h10, h11, h12, h13, h14, h15, h16, h17, h18, h19, h20, p1, p2, p3, p4, p5, h22, h23⟩ := R
      exact h6
    unfold lr_L_X_tick_35 lr_L_M_tick_32
    rw [if_neg (lr_nle (x := 4) (m := 4) rfl (by omega) (by decide)), if_pos (lr_nin hn (by decide)), lr_ncl (m := n) (by omega), if_neg (lr_nle (x := 4) (m := 4) rfl (by omega) (by decide)), if_pos (lr_nin hn (by decide)), lr_r b 21, ← (h6 n hn).2, nI_1]
    by_cases hz : a.1 5 n 9 = 0
    · obtain ⟨cnt2, a2, b2, u1, u2, u3⟩ := lr_node_tick R hn hz
      rw [if_pos hz, u1, u2, lr_bs a2, lr_bs b2]
      exact lr_nodes_tick z1 z2 y1 y2 r (n + 1) f g cnt2 a2 b2 (by omega) (by omega) (by omega) u3
    · have : lr_G_Node_sendWhatIsDue n a = some a := by
        unfold lr_G_Node_sendWhatIsDue
        rw [lr_r a 5, if_neg hz]
      rw [if_neg hz, this, lr_bs a]
      exact lr_nodes_tick z1 z2 y1 y2 r (n + 1) f g cnt a b (by omega) (by omega) (by omega) R
theorem lr_ticks {c ns np : Nat} {ow : Nat → Nat} {N : Nat} (hN : N ≤ 12) : ∀ (r j f g tt cnt : Nat) (a b : lr_S), j + r = N → r < f → r < g → tt + r ≤ 12 * c → lr_Rel c ns np cnt tt ow a b → ∃ cnt2 tt2 a2 b2, lr_L_X_tick_15 (nI N) f (nI j) a = some (nI N, a2) ∧ lr_L_M_tick_15 (nI N) g (nI j) b = some (nI N, b2) ∧ lr_Rel c ns np cnt2 tt2 ow a2 b2
  | 0, j, f, g, tt, cnt, a, b, e, hf, hg, ht, R => by
    obtain ⟨f, rfl⟩ : ∃ z, f = z + 1 := ⟨f - 1, by omega⟩
    obtain ⟨g, rfl⟩ : ∃ z, g = z + 1 := ⟨g - 1, by omega⟩
    obtain rfl : j = N := by omega
    refine ⟨cnt, tt, a, b, ?_, ?_, R⟩
    · unfold lr_L_X_tick_15
      rw [if_pos (lr_yle (x := nI j) rfl (by omega) (by omega))]
    · unfold lr_L_M_tick_15
      rw [if_pos (lr_yle (x := nI j) rfl (by omega) (by omega))]
  | r + 1, j, f, g, tt, cnt, a, b, e, hf, hg, ht, R => by
    obtain ⟨f, rfl⟩ : ∃ z, f = z + 1 := ⟨f - 1, by omega⟩
    obtain ⟨g, rfl⟩ : ∃ z, g = z + 1 := ⟨g - 1, by omega⟩
    have h1 := R.1
    have R1 := lr_s_clock R (by omega)
    obtain ⟨cnt2, a2, b2, u1, u2, u3⟩ := lr_nodes_tick (nI N) (nI j) (nI N) (nI j) 4 0 600 600 cnt _ _ (by omega) (by omega) (by omega) R1
    unfold lr_L_X_tick_15 lr_L_M_tick_15
    rw [if_neg (lr_nle (x := nI N) rfl (by omega) (by omega)), if_neg (lr_nle (x := nI N) rfl (by omega) (by omega)), lr_r a 1, h1.1, lr_r b 20, h1.2.1, nI_1, show lr_L_X_tick_35 (nI N) (nI j) 600 (0 : Int32) (lr_wr a 1 0 0 (nI (tt + 1))) = _ from u1, lr_bs (_, a2), show lr_L_M_tick_32 (nI N) (nI j) 600 (0 : Int32) (lr_wr b 20 0 0 (nI (tt + 1))) = _ from u2, lr_bs (_, b2), nI_1]
    exact lr_ticks hN r (j + 1) f g (tt + 1) cnt2 a2 b2 (by omega) (by omega) (by omega) (by omega) u3
theorem lr_sim_tick (x : Int32) : lr_Sim (lr_G_X_tick x) (lr_G_M_tick x) := by
  rintro c a b ⟨ns, np, cnt, tt, ow, R⟩ hc
  have h1 := R.1
  unfold lr_G_X_tick lr_G_M_tick
  by_cases q1 : x < 1
  · rw [if_pos q1, if_pos q1]
    exact lr_same R hc rfl rfl
  rw [if_neg q1, if_neg q1]
  by_cases q2 : x ≤ 12
  rotate_left
  · rw [if_neg q2, if_neg q2]
    exact lr_same R hc rfl rfl
  rw [if_pos q2, if_pos q2]
  have q0 : ¬ x < 0 := fun z => q1 (Int32.lt_trans z (by decide))
  obtain ⟨N, hN, rfl⟩ := nI_of2 (M := 12) (n := 12) (by decide) q0 q2
  obtain ⟨cnt2, tt2, a2, b2, u1, u2, u3⟩ := lr_ticks (N := N) hN N 0 600 600 tt cnt a b (by omega) (by omega) (by omega) (by have := h1.2.2; omega) (lr_up R hc)
  rw [show lr_L_X_tick_15 (nI N) 600 (0 : Int32) a = _ from u1, show lr_L_M_tick_15 (nI N) 600 (0 : Int32) b = _ from u2]
  exact ⟨1, a2, b2, rfl, rfl, ns, np, cnt2, tt2, ow, u3⟩
