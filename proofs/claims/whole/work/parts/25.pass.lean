/-- a pass goes out: the pin, the message, the next id -/
theorem lr_pass_go {c ns np cnt tt : Nat} {ow : Nat → Nat} {a b : lr_S} (R : lr_Rel c ns np cnt tt ow a b) (hnc : np < c) {n r k d i e : Nat} {ox : Int32} (hn : n < 4) (hr : r < 3) (hk : k < 8) (hd : d < 4) (hi : i < 3) (hroot : a.1 11 n r = nI k) (he : e < ns) (se : a.1 7 (8 * n + k) 1 = nI e) (hpin : ¬ lr_ct (lr_xl a n) 6 = 6) (hox : ox = nI (ow e)) (hxo : a.1 7 (8 * n + k) 0 = 1 ∧ ow e = n ∨ ¬ a.1 7 (8 * n + k) 0 = 1 ∧ a.1 7 (8 * n + k) 6 = nI (ow e)) :
    ∃ cnt2 a2 b2, lr_G_Node_sendPass n (nI r) (nI d) (nI i) (nI np) (lr_wr a 0 0 4 (nI (np + 1))) = some a2 ∧ lr_G_M_send 0 (nI n) (nI d) (nI e) (nI np) ((4 : Int32) * nI i + ox) (lr_wr (lr_wr b 41 0 np (nI (8 * n + k))) 42 0 np (nI tt)) = some b2 ∧ b2.1 20 0 24 = nI np ∧ lr_Rel c ns (np + 1) cnt2 tt ow a2 (lr_wr b2 20 0 24 (nI (np + 1))) := by
  obtain ⟨h1, h2, h3, h4, h5, h6, h7, h7v, h8, h9, h10, h11, h12, h13, h14, h15, h16, h17, h18, h19, h20, p1, p2, p3, p4, p5, h22, h23⟩ := id R
  have hx := lr_x_pdl (lr_wr a 0 0 4 (nI (np + 1))) n (nI k) (nI np) 6 0 600 (by omega) (by omega)
  have ea : ∀ j, (lr_wr a 0 0 4 (nI (np + 1))).1 13 j 2 = a.1 13 j 2 := fun j => by simp [lr_w]
  have ec : (lr_wr a 0 0 4 (nI (np + 1))).1 1 0 0 = nI tt := by simpa [lr_w] using h1.1
  have e4 : (4 : Int32) * nI i + ox = nI (4 * i + ow e) := by rw [hox, lr_mul 4 (m := 4) rfl, nI_add]
  cases hl : lr_lf (fun i => decide ((lr_wr a 0 0 4 (nI (np + 1))).1 13 (6 * n + i) 2 ≤ (lr_wr a 0 0 4 (nI (np + 1))).1 1 0 0)) 0 6 with
  | none =>
    exfalso
    have hno := lr_lf_none 6 0 hl
    refine hpin (lr_ct_all 6 (fun j hj => ?_))
    have := hno j (Nat.zero_le _) (by omega)
    rw [ea, ec] at this
    simp only [lr_xl, decide_eq_true_eq, h1.1]
    simpa using this
  | some t =>
    rw [hl] at hx
    obtain ⟨-, ht, ht0, -⟩ := lr_lf_some 6 0 t hl
    have ht : t < 6 := by omega
    have ht0 : a.1 13 (6 * n + t) 2 ≤ a.1 1 0 0 := by
      have : (lr_wr a 0 0 4 (nI (np + 1))).1 13 (6 * n + t) 2 ≤ (lr_wr a 0 0 4 (nI (np + 1))).1 1 0 0 := by simpa using ht0
      rw [ea, ec] at this
      rw [h1.1]
      exact this
    rw [ec] at hx
    have R1 := lr_s_pinadd R hn ht hk ht0 hnc
    have hmv : lr_mv ns ow (lr_f6 0 (nI n) (nI d) (nI e) (nI np) (nI (4 * i + ow e))) := ⟨0, n, d, by omega, hn, hd, rfl, rfl, rfl, fun _ => ⟨e, i, he, hi, rfl, rfl⟩, fun z => by omega, fun z => by omega, fun z => by omega⟩
    obtain ⟨cnt2, a2, b2, u1, u2, u3, u4, u5⟩ := lr_send R1 hmv
    have hcnt : (lr_wr (lr_wr b 41 0 np (nI (8 * n + k))) 42 0 np (nI tt)).1 20 0 19 = nI cnt := by simpa [lr_w] using h2.2.1
    obtain ⟨b3, w1, w2, w3⟩ := lr_m_send_24 hcnt h2.2.2 0 (nI n) (nI d) (nI e) (nI np) (nI (4 * i + ow e)) (nI (np + 1))
    have eb : b2 = lr_wr b3 20 0 24 (nI (np + 1)) := Option.some.inj (u2.symm.trans w2)
    refine ⟨cnt2, a2, b3, ?_, by rw [e4]; exact w1, ?_, by rw [← eb]; exact u3⟩
    · unfold lr_G_Node_sendPass lr_G_Node_pinDown
      have r1 : lr_rd (lr_wr a 0 0 4 (nI (np + 1))) 11 n r = nI k := by simpa [lr_r, lr_w] using hroot
      rw [if_pos (lr_nin hr (by decide)), lr_ncl (m := r) (by omega), r1, if_pos (lr_nin hk (by decide)), lr_ncl (m := k) (by omega), show lr_L_Node_pinDown_2 n (nI k) (nI np) 600 (0 : Int32) (lr_wr a 0 0 4 (nI (np + 1))) = _ from hx, lr_bs, show Sum.elim (fun v10 => some v10) (fun v10 : Int32 × lr_S => some v10.2) (Sum.inl (lr_wr (lr_wr (lr_wr (lr_wr a 0 0 4 (nI (np + 1))) 13 (6 * n + t) 0 (nI np)) 13 (6 * n + t) 1 (nI k)) 13 (6 * n + t) 2 (nI tt + 24)) : lr_S ⊕ (Int32 × lr_S)) = some (lr_wr (lr_wr (lr_wr (lr_wr a 0 0 4 (nI (np + 1))) 13 (6 * n + t) 0 (nI np)) 13 (6 * n + t) 1 (nI k)) 13 (6 * n + t) 2 (nI tt + 24)) from rfl, lr_bs]
      generalize hA : lr_wr (lr_wr (lr_wr (lr_wr a 0 0 4 (nI (np + 1))) 13 (6 * n + t) 0 (nI np)) 13 (6 * n + t) 1 (nI k)) 13 (6 * n + t) 2 (nI tt + 24) = A at u1
      have A5 : lr_rd A 5 n 0 = nI n := by rw [← hA]; simpa [lr_r, lr_w] using h5 n hn
      have A7 : ∀ j, lr_rd A 7 (8 * n + k) j = a.1 7 (8 * n + k) j := fun j => by rw [← hA]; simp [lr_r, lr_w]
      rw [A7 0, A7 1, A7 6, A5, se]
      rcases hxo with ⟨o1, o2⟩ | ⟨o1, o2⟩
      · rw [if_pos o1, show (4 : Int32) * nI i + nI n = nI (4 * i + ow e) by rw [o2, lr_mul 4 (m := 4) rfl, nI_add], show lr_G_Network_send (0 : Int32) (nI n) (nI d) (nI e) (nI np) (nI (4 * i + ow e)) A = some a2 from u1]
        rfl
      · rw [if_neg o1, o2, show (4 : Int32) * nI i + nI (ow e) = nI (4 * i + ow e) by rw [lr_mul 4 (m := 4) rfl, nI_add], show lr_G_Network_send (0 : Int32) (nI n) (nI d) (nI e) (nI np) (nI (4 * i + ow e)) A = some a2 from u1]
        rfl
    · rw [w3]
      simpa [lr_w] using h4.2.1
theorem lr_sim_pass (x y z w : Int32) : lr_Sim (lr_G_X_pass x y z w) (lr_G_M_pass x y z w) := by
  rintro c a b ⟨ns, np, cnt, tt, ow, R⟩ hc
  obtain ⟨h1, h2, h3, h4, h5, h6, h7, h7v, h8, h9, h10, h11, h12, h13, h14, h15, h16, h17, h18, h19, h20, p1, p2, p3, p4, p5, h22, h23⟩ := id R
  have hnp : np ≤ 64 := by have := h4.2.2; have := h22.1; omega
  rcases lr_arg x (N := 4) (by decide) with hx | ⟨n, hn, rfl⟩
  · unfold lr_G_X_pass lr_G_M_pass
    rw [lr_x_acts_o hx, lr_m_at_out (Or.inl hx) (Or.inl hx)]
    exact lr_same R hc rfl rfl
  by_cases hz : a.1 5 n 9 = 0
  rotate_left
  · unfold lr_G_X_pass lr_G_M_pass
    rw [lr_x_acts_i hn, if_neg hz, lr_m_at_dead hn (by rw [← (h6 n hn).2]; exact hz)]
    exact lr_same R hc rfl rfl
  have hd0 : b.1 21 0 n = 0 := by rw [← (h6 n hn).2]; exact hz
  rcases lr_arg y (N := 3) (by decide) with hy | ⟨r, hr, rfl⟩
  · unfold lr_G_X_pass lr_G_M_pass
    rw [lr_x_acts_i hn, if_pos hz, lr_bs, if_neg lr_1ne0, lr_x_isRoot_o hy, lr_m_at_out (Or.inr hy) (Or.inr ⟨n, hn, rfl⟩)]
    exact lr_same R hc rfl rfl
  have g7 := h7 n r hn hr
  rcases h7v n r hn hr with e | ⟨k, hk, e, ek⟩
  · refine lr_same R hc (r := -1) ?_ ?_
    · unfold lr_G_X_pass
      rw [lr_x_acts_i hn, if_pos hz, lr_bs, if_neg lr_1ne0, lr_x_isRoot_i hr, lr_bs, if_neg lr_1ne0]
      rcases lr_arg z (N := 4) (by decide) with hz2 | ⟨d, hd, rfl⟩
      · rw [lr_x_isNode_o hz2]; rfl
      rw [lr_x_isNode_i hd, lr_bs, if_neg lr_1ne0]
      rcases lr_arg w (N := 3) (by decide) with hw | ⟨i, hi, rfl⟩
      · rw [lr_x_isRoot_o hw]; rfl
      rw [lr_x_isRoot_i hi, lr_bs, if_neg lr_1ne0]
      by_cases en : nI d = nI n
      · rw [if_pos en]
      · rw [if_neg en, if_pos (lr_nin hn (by decide)), lr_ncl (by omega), lr_x_rootHolds0 hr 0 e]
        rfl
    · unfold lr_G_M_pass
      rw [lr_m_at0 hn hr hd0 (by rw [← g7]; exact e)]
      rfl
  have hq : 8 * n + k < 32 := by omega
  obtain ⟨g0, g1, g2, g6, g7', g8, g9, g10, g11, g12⟩ := h8 (8 * n + k) hq
  have hat := lr_m_at1 hn hr hk hd0 (show b.1 22 0 (3 * n + r) = nI k by rw [← g7]; exact e)
  unfold lr_G_X_pass lr_G_M_pass
  rw [lr_x_acts_i hn, if_pos hz, lr_bs, if_neg lr_1ne0, lr_x_isRoot_i hr, lr_bs, if_neg lr_1ne0, hat, lr_bs (nI (8 * n + k), b), if_neg (lr_nneg (m := 8 * n + k) (by omega))]
  rcases lr_arg z (N := 4) (by decide) with hz2 | ⟨d, hd, rfl⟩
  · rw [lr_x_isNode_o hz2, lr_m_within_o (y := 4) (N := 4) rfl hz2]
    exact lr_same R hc rfl rfl
  rw [lr_x_isNode_i hd, lr_m_within_i (y := 4) (N := 4) rfl hd (by decide), lr_bs (1, a), lr_bs (1, b), if_neg lr_1ne0, if_neg lr_1ne0]
  rcases lr_arg w (N := 3) (by decide) with hw | ⟨i, hi, rfl⟩
  · rw [lr_x_isRoot_o hw, lr_bs (0, a), if_pos rfl]
    by_cases en : nI d = nI n
    · rw [if_pos en]
      exact lr_same R hc rfl rfl
    · rw [if_neg en, lr_m_within_o (y := 3) (N := 3) rfl hw]
      exact lr_same R hc rfl rfl
  rw [lr_x_isRoot_i hi, lr_bs (1, a), if_neg lr_1ne0]
  by_cases en : nI d = nI n
  · rw [if_pos en, if_pos en]
    exact lr_same R hc rfl rfl
  rw [if_neg en, if_neg en, lr_m_within_i (y := 3) (N := 3) rfl hi (by decide), lr_bs (1, b), if_neg lr_1ne0, if_pos (lr_nin hn (by decide)), lr_ncl (m := n) (by omega), lr_x_rootHolds1 hr hk 0 e, if_neg ek, lr_bs (0, a), if_pos rfl, lr_x_livePins, lr_bs (_, a), lr_m_pinsOf b n h4.2.1 (by omega), lr_bs (_, b), ← lr_pins_eq R hn]
  have hct := lr_ct_le (lr_xl a n) 6
  by_cases q6 : lr_ct (lr_xl a n) 6 = 6
  · rw [q6, if_pos (show nI 6 = 6 from rfl), if_neg (show ¬ nI 6 < 6 by decide)]
    exact lr_same R hc rfl rfl
  have q6' : nI (lr_ct (lr_xl a n) 6) < 6 := (nI_ltI (b := 6) (by omega) (by decide)).mpr (by omega)
  rw [if_neg (show ¬ nI (lr_ct (lr_xl a n) 6) = 6 from lr_neq (m := 6) (by omega) (by decide) q6), if_pos q6', lr_x_rootHolds1 hr hk 2 e, lr_bs (_, a), if_pos (lr_nin (m := 8 * n + k) (N := 32) hq (by decide)), lr_ncl (m := 8 * n + k) (by omega), lr_r b 24, ← g0]
  have hup := lr_up R hc
  have hnc : np < c + 1 := by have := h4.2.2; omega
  rcases h9 (8 * n + k) hq with hh | hh | hh
  · exact absurd hh ek
  · -- an object
    obtain ⟨s, hs, se, os⟩ := (h14 n k hn hk).1 hh
    have n12 : ¬ a.1 7 (8 * n + k) 0 = 2 := by rw [hh]; decide
    obtain ⟨cnt2, a2, b2, u1, u2, u3, u4⟩ := lr_pass_go hup hnc (d := d) (i := i) (ox := nI n) hn hr hk hd hi e hs se q6 (by rw [os]) (Or.inl ⟨hh, os⟩)
    rw [if_neg n12, if_pos rfl, if_neg n12, if_pos hh, lr_r a 0, h4.1, nI_1, u1, lr_bs a2, lr_r b 20 0 24, h4.2.1, if_pos (lr_nin (m := np) (by omega) (by decide)), lr_ncl (m := np) (by omega)]
    have r1 : lr_rd (lr_wr b 41 0 np (nI (8 * n + k))) 20 0 24 = nI np := by simpa [lr_r, lr_w] using h4.2.1
    have r2 : lr_rd (lr_wr b 41 0 np (nI (8 * n + k))) 20 0 0 = nI tt := by simpa [lr_r, lr_w] using h1.2.1
    rw [r1, r2, if_pos (lr_nin (m := np) (by omega) (by decide)), lr_ncl (m := np) (by omega), lr_bs]
    have r3 : lr_rd (lr_wr (lr_wr b 41 0 np (nI (8 * n + k))) 42 0 np (nI tt)) 25 0 (8 * n + k) = nI s := by rw [← se, g1]; simp [lr_r, lr_w]
    have r4 : lr_rd (lr_wr (lr_wr b 41 0 np (nI (8 * n + k))) 42 0 np (nI tt)) 20 0 24 = nI np := by simpa [lr_r, lr_w] using h4.2.1
    rw [r3, r4, u2, lr_bs b2, lr_r b2 20, u3, nI_1, show lr_rd (lr_wr b2 20 0 24 (nI (np + 1))) 20 0 24 = nI (np + 1) by simp [lr_r, lr_w], nI_pred]
    exact ⟨nI np, a2, _, rfl, rfl, ns, np + 1, cnt2, tt, ow, u4⟩
  · -- a surrogate
    obtain ⟨s, hs, se, os, oe⟩ := (h14 n k hn hk).2 hh
    have n21 : ¬ a.1 7 (8 * n + k) 0 = 1 := by rw [hh]; decide
    rw [if_pos hh, if_neg lr_1ne0, if_pos hh, lr_x_rootIsGood hr hk e hh, lr_bs (_, a), lr_r b 34, ← g10, lr_m_stale hq, h1.2.1, ← h1.1, ← g9]
    by_cases q1 : a.1 7 (8 * n + k) 10 = 0
    · rw [if_neg (show ¬ (¬ a.1 7 (8 * n + k) 10 = 0 ∧ a.1 1 0 0 < a.1 7 (8 * n + k) 9) from fun q => q.1 q1), if_pos rfl, if_pos q1]
      exact lr_same R hc rfl rfl
    by_cases q2 : a.1 1 0 0 < a.1 7 (8 * n + k) 9
    rotate_left
    · rw [if_neg (show ¬ (¬ a.1 7 (8 * n + k) 10 = 0 ∧ a.1 1 0 0 < a.1 7 (8 * n + k) 9) from fun q => q2 q.2), if_pos rfl, if_neg q1, if_neg q2, lr_bs ((1 : Int32), b), if_neg lr_1ne0]
      exact lr_same R hc rfl rfl
    obtain ⟨cnt2, a2, b2, u1, u2, u3, u4⟩ := lr_pass_go hup hnc (d := d) (i := i) (ox := nI (ow s)) hn hr hk hd hi e hs se q6 rfl (Or.inr ⟨n21, oe⟩)
    have r0 : lr_rd b 30 0 (8 * n + k) = nI (ow s) := by rw [lr_r, ← g6]; exact oe
    have r00 : lr_rd b 24 0 (8 * n + k) = 2 := by rw [lr_r, ← g0]; exact hh
    rw [if_pos (show ¬ a.1 7 (8 * n + k) 10 = 0 ∧ a.1 1 0 0 < a.1 7 (8 * n + k) 9 from ⟨q1, q2⟩), if_neg lr_1ne0, if_neg q1, if_pos q2, lr_bs ((0 : Int32), b), if_pos rfl, lr_r a 0, h4.1, nI_1, u1, lr_bs a2, show lr_rd ((0 : Int32), b).2 24 0 (8 * n + k) = 2 from r00, if_neg (show ¬ (2 : Int32) = 1 by decide), lr_r b 20 0 24, h4.2.1, if_pos (lr_nin (m := np) (by omega) (by decide)), lr_ncl (m := np) (by omega)]
    have r1 : lr_rd (lr_wr b 41 0 np (nI (8 * n + k))) 20 0 24 = nI np := by simpa [lr_r, lr_w] using h4.2.1
    have r2 : lr_rd (lr_wr b 41 0 np (nI (8 * n + k))) 20 0 0 = nI tt := by simpa [lr_r, lr_w] using h1.2.1
    rw [r1, r2, if_pos (lr_nin (m := np) (by omega) (by decide)), lr_ncl (m := np) (by omega), lr_bs]
    have r3 : lr_rd (lr_wr (lr_wr b 41 0 np (nI (8 * n + k))) 42 0 np (nI tt)) 25 0 (8 * n + k) = nI s := by rw [← se, g1]; simp [lr_r, lr_w]
    have r4 : lr_rd (lr_wr (lr_wr b 41 0 np (nI (8 * n + k))) 42 0 np (nI tt)) 20 0 24 = nI np := by simpa [lr_r, lr_w] using h4.2.1
    rw [r3, r4, show lr_rd ((0 : Int32), b).2 30 0 (8 * n + k) = nI (ow s) from r0, u2, lr_bs b2, lr_r b2 20, u3, nI_1, show lr_rd (lr_wr b2 20 0 24 (nI (np + 1))) 20 0 24 = nI (np + 1) by simp [lr_r, lr_w], nI_pred]
    exact ⟨nI np, a2, _, rfl, rfl, ns, np + 1, cnt2, tt, ow, u4⟩
