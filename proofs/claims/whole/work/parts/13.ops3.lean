theorem lr_pins_eq {c ns np cnt tt : Nat} {ow : Nat → Nat} {a b : lr_S} (R : lr_Rel c ns np cnt tt ow a b) {n : Nat} (hn : n < 4) : lr_ct (lr_xl a n) 6 = lr_ct (lr_ml2 b n) np := by
  obtain ⟨h1, h2, h3, h4, h5, h6, h7, h7v, h8, h9, h10, h11, h12, h13, h14, h15, h16, h17, h18, h19, h20, p1, p2, p3, p4, p5, h22, h23⟩ := id R
  have hck : b.1 20 0 0 = a.1 1 0 0 := by rw [h1.1, h1.2.1]
  have hnp : np ≤ 64 := by have := h4.2.2; have := h22.1; omega
  apply Nat.le_antisymm
  · have key : ∀ i, ∃ j, i < 6 → lr_xl a n i = true → (j < np ∧ lr_ml2 b n j = true) ∧ a.1 13 (6 * n + i) 0 = nI j := by
      intro i
      by_cases hi : i < 6 ∧ lr_xl a n i = true
      · obtain ⟨j, k, g1, g2, g3, g4, g5, g6, g7⟩ := p1 n i hn hi.1 (by simpa [lr_xl] using hi.2)
        refine ⟨j, fun _ _ => ⟨⟨g1, ?_⟩, g3⟩⟩
        simp only [lr_ml2, decide_eq_true_eq]
        refine ⟨?_, g5, ?_⟩
        · rw [g7, lr_div8 (by omega), show (8 * n + k) / 8 = n by omega]
        · rw [hck, ← g4]
          simpa [lr_xl] using hi.2
      · exact ⟨0, fun h3 h4 => absurd ⟨h3, h4⟩ hi⟩
    refine lr_ct_inj (fun i => Classical.choose (key i)) (fun i hi hp => (Classical.choose_spec (key i) hi hp).1) (fun i j hi hj hpi hpj e => ?_)
    have e1 := (Classical.choose_spec (key i) hi hpi).2
    have e2 := (Classical.choose_spec (key j) hj hpj).2
    exact p3 n i j hn hi hj (by simpa [lr_xl] using hpi) (by simpa [lr_xl] using hpj) (by rw [e1, e2]; exact congrArg nI e)
  · have key : ∀ j, ∃ i, j < np → lr_ml2 b n j = true → (i < 6 ∧ lr_xl a n i = true) ∧ a.1 13 (6 * n + i) 0 = nI j := by
      intro j
      by_cases hj : j < np ∧ lr_ml2 b n j = true
      · obtain ⟨n2, k, g1, g2, g3⟩ := p4 j hj.1
        have hm := hj.2
        simp only [lr_ml2, decide_eq_true_eq] at hm
        obtain ⟨m1, m2, m3⟩ := hm
        rw [g3, lr_div8 (by omega), nI_eq (by omega) (by omega)] at m1
        have e : n2 = n := by omega
        subst e
        rw [hck] at m3
        obtain ⟨i, q1, q2, q3⟩ := p2 j n2 k hj.1 g1 g2 g3 m2 m3
        exact ⟨i, fun _ _ => ⟨⟨q1, by simpa [lr_xl] using q2⟩, q3⟩⟩
      · exact ⟨0, fun h3 h4 => absurd ⟨h3, h4⟩ hj⟩
    refine lr_ct_inj (fun i => Classical.choose (key i)) (fun i hi hp => (Classical.choose_spec (key i) hi hp).1) (fun i j hi hj hpi hpj e => ?_)
    have e1 := (Classical.choose_spec (key i) hi hpi).2
    have e2 := (Classical.choose_spec (key j) hj hpj).2
    have e : Classical.choose (key i) = Classical.choose (key j) := e
    rw [e, e2] at e1
    exact ((nI_eq (by omega) (by omega)).mp e1).symm
theorem lr_sim_pins (x : Int32) : lr_Sim (lr_G_X_pins x) (lr_G_M_pins x) := by
  rintro c a b ⟨ns, np, cnt, tt, ow, R⟩ hc
  obtain ⟨h1, h2, h3, h4, h5, h6, h7, h7v, h8, h9, h10, h11, h12, h13, h14, h15, h16, h17, h18, h19, h20, p1, p2, p3, p4, p5, h22, h23⟩ := id R
  unfold lr_G_X_pins lr_G_M_pins
  rcases lr_arg x (N := 4) (by decide) with hx | ⟨n, hn, rfl⟩
  · rw [lr_x_isNode_o hx, lr_m_within_o (y := 4) (N := 4) rfl hx]
    exact lr_same R hc rfl rfl
  · rw [lr_x_isNode_i hn, lr_m_within_i (y := 4) (N := 4) rfl hn (by decide), lr_bs, lr_bs, if_neg lr_1ne0, if_neg lr_1ne0, if_pos (lr_nin hn (by decide)), lr_ncl (by omega), lr_x_livePins, lr_m_pinsOf b n h4.2.1 (by have := h4.2.2; have := h22.1; omega), lr_pins_eq R hn]
    exact lr_same R hc rfl rfl
/-- what a root refers to: nothing, or a slot that is not empty -/
theorem lr_x_link_no {a : lr_S} {n r : Nat} {y z : Int32} (hn : n < 4) (hz : a.1 5 n 9 = 0) (hr : r < 3) (h : lr_G_Node_rootHolds n (nI r) 1 a = some (0, a)) : lr_G_X_link (nI n) (nI r) y z a = some (0, a) := by
  unfold lr_G_X_link
  rw [lr_x_acts_i hn, if_pos hz, lr_bs, if_neg lr_1ne0, lr_x_isRoot_i hr, lr_bs, if_neg lr_1ne0]
  rcases lr_arg y (N := 2) (by decide) with hy | ⟨f, hf, rfl⟩
  · rw [lr_x_isField_o hy]
    rfl
  · rw [lr_x_isField_i hf, lr_bs, if_neg lr_1ne0]
    by_cases e : z = -1
    · rw [if_pos e, if_pos (lr_nin hn (by decide)), lr_ncl (by omega), h]
      rfl
    · rw [if_neg e]
      rcases lr_arg z (N := 3) (by decide) with hz2 | ⟨s, hs, rfl⟩
      · rw [lr_x_isRoot_o hz2]
        rfl
      · rw [lr_x_isRoot_i hs, lr_bs, if_neg lr_1ne0, if_pos (lr_nin hn (by decide)), lr_ncl (by omega), h]
        rfl
theorem lr_sim_link (x y z w : Int32) : lr_Sim (lr_G_X_link x y z w) (lr_G_M_link x y z w) := by
  rintro c a b ⟨ns, np, cnt, tt, ow, R⟩ hc
  obtain ⟨h1, h2, h3, h4, h5, h6, h7, h7v, h8, h9, h10, h11, h12, h13, h14, h15, h16, h17, h18, h19, h20, p1, p2, p3, p4, p5, h22, h23⟩ := id R
  rcases lr_arg x (N := 4) (by decide) with hx | ⟨n, hn, rfl⟩
  · unfold lr_G_X_link lr_G_M_link
    rw [lr_x_acts_o hx, lr_m_at_out (Or.inl hx) (Or.inl hx)]
    exact lr_same R hc rfl rfl
  by_cases hz : a.1 5 n 9 = 0
  rotate_left
  · unfold lr_G_X_link lr_G_M_link
    rw [lr_x_acts_i hn, if_neg hz, lr_m_at_dead hn (by rw [← (h6 n hn).2]; exact hz)]
    exact lr_same R hc rfl rfl
  have hd : b.1 21 0 n = 0 := by rw [← (h6 n hn).2]; exact hz
  rcases lr_arg y (N := 3) (by decide) with hy | ⟨r, hr, rfl⟩
  · unfold lr_G_X_link lr_G_M_link
    rw [lr_x_acts_i hn, if_pos hz, lr_bs, if_neg lr_1ne0, lr_x_isRoot_o hy, lr_m_at_out (Or.inr hy) (Or.inr ⟨n, hn, rfl⟩)]
    exact lr_same R hc rfl rfl
  have g7 := h7 n r hn hr
  rcases h7v n r hn hr with e | ⟨k, hk, e, ek⟩
  · refine lr_same R hc (r := 0) (lr_x_link_no hn hz hr (by rw [lr_x_rootHolds0 hr 1 e]; rfl)) ?_
    unfold lr_G_M_link
    rw [lr_m_at0 hn hr hd (by rw [← g7]; exact e)]
    rfl
  obtain ⟨g0, -⟩ := h8 (8 * n + k) (by omega)
  by_cases ho : a.1 7 (8 * n + k) 0 = 1
  rotate_left
  · refine lr_same R hc (r := 0) (lr_x_link_no hn hz hr (by rw [lr_x_rootHolds1 hr hk 1 e, if_neg ho])) ?_
    unfold lr_G_M_link
    rw [lr_m_at1 hn hr hk hd (by rw [← g7]; exact e), lr_bs, if_neg (lr_nneg (by omega)), if_pos (lr_nin (by omega) (by decide)), lr_ncl (by omega), lr_r, ← g0, if_neg ho]
  have hm := lr_m_at1 hn hr hk hd (show b.1 22 0 (3 * n + r) = nI k by rw [← g7]; exact e)
  have hh : lr_G_Node_rootHolds n (nI r) 1 a = some (1, a) := by rw [lr_x_rootHolds1 hr hk 1 e, if_pos ho]
  unfold lr_G_X_link lr_G_M_link
  rw [lr_x_acts_i hn, if_pos hz, lr_bs, if_neg lr_1ne0, lr_x_isRoot_i hr, lr_bs, if_neg lr_1ne0, hm, lr_bs, if_neg (lr_nneg (by omega)), if_pos (lr_nin (N := 32) (by omega) (by decide)), lr_ncl (m := 8 * n + k) (by omega), lr_r b 24, ← g0, if_pos ho]
  rcases lr_arg z (N := 2) (by decide) with hz2 | ⟨f, hf, rfl⟩
  · rw [lr_x_isField_o hz2, lr_m_within_o (y := 2) (N := 2) rfl hz2]
    exact lr_same R hc rfl rfl
  rw [lr_x_isField_i hf, lr_m_within_i (y := 2) (N := 2) rfl hf (by decide), lr_bs, lr_bs, if_neg lr_1ne0, if_neg lr_1ne0]
  rw [if_pos (lr_nin hn (by decide)), lr_ncl (m := n) (by omega), lr_mul 2 (m := 2) rfl, nI_add]
  by_cases ew : w = -1
  · rw [if_pos ew, if_pos ew, hh, lr_bs, if_neg lr_1ne0, if_pos (lr_nin hr (by decide)), lr_ncl (m := r) (by omega), lr_r, e, if_pos (lr_nin hk (by decide)), if_pos (lr_nin hf (by decide)), lr_bs, if_pos (lr_nin (by omega) (by decide)), lr_ncl (m := k) (by omega), lr_ncl (m := f) (by omega), lr_ncl (by omega)]
    exact lr_fin (lr_s_field R hn hk hf (Or.inl rfl)) hc rfl rfl
  · rw [if_neg ew, if_neg ew]
    rcases lr_arg w (N := 3) (by decide) with hw | ⟨s, hs, rfl⟩
    · rw [lr_x_isRoot_o hw, lr_m_within_o (y := 3) (N := 3) rfl hw]
      exact lr_same R hc rfl rfl
    · rw [lr_x_isRoot_i hs, lr_m_within_i (y := 3) (N := 3) rfl hs (by decide), lr_bs, lr_bs, if_neg lr_1ne0, if_neg lr_1ne0, hh, lr_bs, if_neg lr_1ne0, if_pos (lr_nin hr (by decide)), lr_ncl (m := r) (by omega), lr_r a 11 n r, e, if_pos (lr_nin hk (by decide)), if_pos (lr_nin hs (by decide)), if_pos (lr_nin hf (by decide)), lr_bs, lr_mul 3 (m := 3) rfl, nI_add, if_pos (lr_nin (N := 12) (by omega) (by decide)), if_pos (lr_nin (N := 64) (by omega) (by decide)), lr_bs, lr_ncl (m := k) (by omega), lr_ncl (m := f) (by omega), lr_ncl (m := s) (by omega), lr_ncl (m := 3 * n + s) (by omega), lr_ncl (m := 2 * (8 * n + k) + f) (by omega), lr_r b 22, ← h7 n s hn hs]
      exact lr_fin (lr_s_field R hn hk hf (h7v n s hn hs)) hc (by rw [if_pos (lr_nin hn (by decide))]; rfl) rfl
theorem lr_wc (t : lr_S) {k i j k2 i2 j2 : Nat} (h : ¬ k = k2) (v v2 : Int32) : lr_wr (lr_wr t k i j v) k2 i2 j2 v2 = lr_wr (lr_wr t k2 i2 j2 v2) k i j v := by
  unfold lr_wr
  congr 1
  funext x y z
  by_cases h1 : x = k ∧ y = i ∧ z = j
  · by_cases h2 : x = k2 ∧ y = i2 ∧ z = j2
    · exact absurd (h1.1.symm.trans h2.1) h
    · simp [h1, h2]
      intro e
      exact absurd e h
  · by_cases h2 : x = k2 ∧ y = i2 ∧ z = j2
    · simp [h1, h2]
      intro e
      exact absurd e.symm h
    · simp [h1, h2]
theorem lr_x_fetch_no {a : lr_S} {n r : Nat} {y z : Int32} (hn : n < 4) (hz : a.1 5 n 9 = 0) (hr : r < 3) (h : lr_G_Node_rootHolds n (nI r) 1 a = some (0, a)) : lr_G_X_fetch (nI n) (nI r) y z a = some (0, a) := by
  unfold lr_G_X_fetch
  rw [lr_x_acts_i hn, if_pos hz, lr_bs, if_neg lr_1ne0, lr_x_isRoot_i hr, lr_bs, if_neg lr_1ne0]
  rcases lr_arg y (N := 2) (by decide) with hy | ⟨f, hf, rfl⟩
  · rw [lr_x_isField_o hy]
    rfl
  · rw [lr_x_isField_i hf, lr_bs, if_neg lr_1ne0]
    rcases lr_arg z (N := 3) (by decide) with hz2 | ⟨s, hs, rfl⟩
    · rw [lr_x_isRoot_o hz2]
      rfl
    · rw [lr_x_isRoot_i hs, lr_bs, if_neg lr_1ne0, if_pos (lr_nin hn (by decide)), lr_ncl (by omega), h]
      rfl
theorem lr_sim_fetch (x y z w : Int32) : lr_Sim (lr_G_X_fetch x y z w) (lr_G_M_fetch x y z w) := by
  rintro c a b ⟨ns, np, cnt, tt, ow, R⟩ hc
  obtain ⟨h1, h2, h3, h4, h5, h6, h7, h7v, h8, h9, h10, h11, h12, h13, h14, h15, h16, h17, h18, h19, h20, p1, p2, p3, p4, p5, h22, h23⟩ := id R
  rcases lr_arg x (N := 4) (by decide) with hx | ⟨n, hn, rfl⟩
  · unfold lr_G_X_fetch lr_G_M_fetch
    rw [lr_x_acts_o hx, lr_m_at_out (Or.inl hx) (Or.inl hx)]
    exact lr_same R hc rfl rfl
  by_cases hz : a.1 5 n 9 = 0
  rotate_left
  · unfold lr_G_X_fetch lr_G_M_fetch
    rw [lr_x_acts_i hn, if_neg hz, lr_m_at_dead hn (by rw [← (h6 n hn).2]; exact hz)]
    exact lr_same R hc rfl rfl
  have hd : b.1 21 0 n = 0 := by rw [← (h6 n hn).2]; exact hz
  rcases lr_arg y (N := 3) (by decide) with hy | ⟨r, hr, rfl⟩
  · unfold lr_G_X_fetch lr_G_M_fetch
    rw [lr_x_acts_i hn, if_pos hz, lr_bs, if_neg lr_1ne0, lr_x_isRoot_o hy, lr_m_at_out (Or.inr hy) (Or.inr ⟨n, hn, rfl⟩)]
    exact lr_same R hc rfl rfl
  have g7 := h7 n r hn hr
  rcases h7v n r hn hr with e | ⟨k, hk, e, ek⟩
  · refine lr_same R hc (r := 0) (lr_x_fetch_no hn hz hr (by rw [lr_x_rootHolds0 hr 1 e]; rfl)) ?_
    unfold lr_G_M_fetch
    rw [lr_m_at0 hn hr hd (by rw [← g7]; exact e)]
    rfl
  obtain ⟨g0, -⟩ := h8 (8 * n + k) (by omega)
  by_cases ho : a.1 7 (8 * n + k) 0 = 1
  rotate_left
  · refine lr_same R hc (r := 0) (lr_x_fetch_no hn hz hr (by rw [lr_x_rootHolds1 hr hk 1 e, if_neg ho])) ?_
    unfold lr_G_M_fetch
    rw [lr_m_at1 hn hr hk hd (by rw [← g7]; exact e), lr_bs, if_neg (lr_nneg (by omega)), if_pos (lr_nin (by omega) (by decide)), lr_ncl (by omega), lr_r, ← g0, if_neg ho]
  have hm := lr_m_at1 hn hr hk hd (show b.1 22 0 (3 * n + r) = nI k by rw [← g7]; exact e)
  have hh : lr_G_Node_rootHolds n (nI r) 1 a = some (1, a) := by rw [lr_x_rootHolds1 hr hk 1 e, if_pos ho]
  unfold lr_G_X_fetch lr_G_M_fetch
  rw [lr_x_acts_i hn, if_pos hz, lr_bs, if_neg lr_1ne0, lr_x_isRoot_i hr, lr_bs, if_neg lr_1ne0, hm, lr_bs, if_neg (lr_nneg (by omega)), if_pos (lr_nin (N := 32) (by omega) (by decide)), lr_ncl (m := 8 * n + k) (by omega), lr_r b 24, ← g0, if_pos ho]
  rcases lr_arg z (N := 2) (by decide) with hz2 | ⟨f, hf, rfl⟩
  · rw [lr_x_isField_o hz2, lr_m_within_o (y := 2) (N := 2) rfl hz2]
    exact lr_same R hc rfl rfl
  rw [lr_x_isField_i hf, lr_m_within_i (y := 2) (N := 2) rfl hf (by decide), lr_bs, lr_bs, if_neg lr_1ne0, if_neg lr_1ne0]
  rcases lr_arg w (N := 3) (by decide) with hw | ⟨s, hs, rfl⟩
  · rw [lr_x_isRoot_o hw, lr_m_within_o (y := 3) (N := 3) rfl hw]
    exact lr_same R hc rfl rfl
  rw [lr_x_isRoot_i hs, lr_m_within_i (y := 3) (N := 3) rfl hs (by decide), lr_bs, lr_bs, if_neg lr_1ne0, if_neg lr_1ne0, if_pos (lr_nin hn (by decide)), lr_ncl (m := n) (by omega), hh, lr_bs, if_neg lr_1ne0, if_pos (lr_nin hr (by decide)), lr_ncl (m := r) (by omega), lr_r a 11 n r, e, if_pos (lr_nin hk (by decide)), if_pos (lr_nin hf (by decide)), if_pos (lr_nin hs (by decide)), lr_bs, lr_mul 2 (m := 2) rfl, nI_add, lr_mul 3 (m := 3) rfl, nI_add, if_pos (lr_nin (N := 64) (by omega) (by decide)), if_pos (lr_nin (N := 12) (by omega) (by decide)), lr_bs, lr_ncl (m := k) (by omega), lr_ncl (m := f) (by omega), lr_ncl (m := s) (by omega), lr_ncl (m := 3 * n + s) (by omega), lr_ncl (m := 2 * (8 * n + k) + f) (by omega), lr_r b 27, ← h10 (8 * n + k) f (by omega) hf]
  exact lr_fin (lr_s_root R hn hs (h11 n k f hn hk hf ho)) hc rfl rfl
