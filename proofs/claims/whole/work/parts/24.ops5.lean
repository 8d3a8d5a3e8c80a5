/-- the node's call is sent -/
theorem lr_sr {c ns np cnt tt : Nat} {ow : Nat → Nat} {a b : lr_S} (R : lr_Rel c ns np cnt tt ow a b) {n : Nat} (hn : n < 4) (hw : a.1 14 n 0 = 1) : ∃ cnt2 a2 b2, lr_G_Node_sendRequest n a = some a2 ∧ lr_G_M_sendCall (nI n) b = some b2 ∧ lr_Rel c ns np cnt2 tt ow a2 b2 ∧ a2.1 14 n 1 = a.1 14 n 1 ∧ b2.1 46 0 n = a.1 14 n 1 := by
  obtain ⟨h1, h2, h3, h4, h5, h6, h7, h7v, h8, h9, h10, h11, h12, h13, h14, h15, h16, h17, h18, h19, h20, p1, p2, p3, p4, p5, h22, h23⟩ := id R
  obtain ⟨m, hm, em, gm⟩ := h16 n hn
  obtain ⟨m1, k, hk, ek, eb, eh⟩ := gm (by rw [hw]; decide)
  have hh := eh hw
  have hq : 8 * n + k < 32 := by omega
  have hcc := h22.1
  obtain ⟨g0, g1, g2, g6, g7, g8, g9, g10, g11, g12⟩ := h8 (8 * n + k) hq
  obtain ⟨j0, j1, j3, j4, j5⟩ := h15 n hn
  obtain ⟨e, he, se, one, oe⟩ := (h14 n k hn hk).2 hh
  have R1 := lr_s_rsent R hn (nI tt)
  have hmv : lr_mv ns ow (lr_f6 6 (nI n) (nI (ow e)) (nI e) (nI m) (a.1 14 n 3)) := ⟨6, n, ow e, by omega, hn, h22.2 e, rfl, rfl, rfl, fun z => by omega, fun z => by omega, fun _ => ⟨e, m, he, rfl, rfl, m1, by omega, rfl⟩, fun z => by omega⟩
  obtain ⟨cnt2, a2, b2, u1, u2, u3, u4, u5⟩ := lr_send R1 hmv
  refine ⟨cnt2, a2, b2, ?_, ?_, u3, ?_, ?_⟩
  · unfold lr_G_Node_sendRequest
    rw [lr_r a 14 n 2, ek, if_pos (lr_nin hk (by decide)), lr_ncl (by omega), lr_r a 1, h1.1]
    have r1 : lr_rd (lr_wr a 14 n 4 (nI tt)) 5 n 0 = nI n := by simpa [lr_r, lr_w] using h5 n hn
    have r2 : lr_rd (lr_wr a 14 n 4 (nI tt)) 7 (8 * n + k) 6 = nI (ow e) := by simpa [lr_r, lr_w] using oe
    have r3 : lr_rd (lr_wr a 14 n 4 (nI tt)) 7 (8 * n + k) 1 = nI e := by simpa [lr_r, lr_w] using se
    have r4 : lr_rd (lr_wr a 14 n 4 (nI tt)) 14 n 1 = nI m := by simpa [lr_r, lr_w] using em
    have r5 : lr_rd (lr_wr a 14 n 4 (nI tt)) 14 n 3 = a.1 14 n 3 := by simp [lr_r, lr_w]
    rw [r1, r2, r3, r4, r5, show lr_G_Network_send (6 : Int32) (nI n) (nI (ow e)) (nI e) (nI m) (a.1 14 n 3) _ = some a2 from u1]
    rfl
  · unfold lr_G_M_sendCall
    rw [if_pos (lr_nin hn (by decide)), lr_ncl (m := n) (by omega), lr_r b 47, eb, if_pos (lr_nin hq (by decide)), lr_ncl (m := 8 * n + k) (by omega), lr_r b 20, h1.2.1]
    have r2 : lr_rd (lr_wr b 49 0 n (nI tt)) 30 0 (8 * n + k) = nI (ow e) := by rw [← oe, g6]; simp [lr_r, lr_w]
    have r3 : lr_rd (lr_wr b 49 0 n (nI tt)) 25 0 (8 * n + k) = nI e := by rw [← se, g1]; simp [lr_r, lr_w]
    have r4 : lr_rd (lr_wr b 49 0 n (nI tt)) 46 0 n = nI m := by rw [← em, j1]; simp [lr_r, lr_w]
    have r5 : lr_rd (lr_wr b 49 0 n (nI tt)) 48 0 n = a.1 14 n 3 := by rw [j3]; simp [lr_r, lr_w]
    rw [r2, r3, r4, r5, show lr_G_M_send (6 : Int32) (nI n) (nI (ow e)) (nI e) (nI m) (a.1 14 n 3) _ = some b2 from u2]
    rfl
  · rw [u4.1 14 n 1 (by decide) (by decide)]
    simp [lr_w]
  · rw [u5 46 0 n (by decide) (fun q => absurd q.1 (by decide)), j1]
    simp [lr_w]
/-- is what a root refers to a good surrogate -/
theorem lr_x_rootIsGood {a : lr_S} {n r k : Nat} (hr : r < 3) (hk : k < 8) (h : a.1 11 n r = nI k) (h2 : a.1 7 (8 * n + k) 0 = 2) : lr_G_Node_rootIsGood n (nI r) a = some (if ¬ a.1 7 (8 * n + k) 10 = 0 ∧ a.1 1 0 0 < a.1 7 (8 * n + k) 9 then 1 else 0, a) := by
  unfold lr_G_Node_rootIsGood
  rw [if_pos (lr_nin hr (by decide)), lr_ncl (by omega), lr_r a 11, h, if_neg (lr_n1 (by omega)), if_pos (lr_nin hk (by decide)), lr_ncl (by omega), lr_r a 7, if_pos h2, lr_x_state, lr_bs, lr_r a 1]
  by_cases g : a.1 1 0 0 < a.1 7 (8 * n + k) 9
  · by_cases z : a.1 7 (8 * n + k) 10 = 0
    · rw [if_pos g, if_pos z, if_neg (show ¬ (¬ a.1 7 (8 * n + k) 10 = 0 ∧ a.1 1 0 0 < a.1 7 (8 * n + k) 9) from fun q => q.1 z)]; rfl
    · rw [if_pos g, if_neg z, if_pos (show ¬ a.1 7 (8 * n + k) 10 = 0 ∧ a.1 1 0 0 < a.1 7 (8 * n + k) 9 from ⟨z, g⟩)]; rfl
  · rw [if_neg g, if_neg (show ¬ (¬ a.1 7 (8 * n + k) 10 = 0 ∧ a.1 1 0 0 < a.1 7 (8 * n + k) 9) from fun q => g q.2)]; rfl
theorem lr_sim_call (x y z : Int32) : lr_Sim (lr_G_X_call x y z) (lr_G_M_call x y z) := by
  rintro c a b ⟨ns, np, cnt, tt, ow, R⟩ hc
  obtain ⟨h1, h2, h3, h4, h5, h6, h7, h7v, h8, h9, h10, h11, h12, h13, h14, h15, h16, h17, h18, h19, h20, p1, p2, p3, p4, p5, h22, h23⟩ := id R
  rcases lr_arg x (N := 4) (by decide) with hx | ⟨n, hn, rfl⟩
  · unfold lr_G_X_call lr_G_M_call
    rw [lr_x_acts_o hx, lr_m_at_out (Or.inl hx) (Or.inl hx)]
    exact lr_same R hc rfl rfl
  by_cases hz : a.1 5 n 9 = 0
  rotate_left
  · unfold lr_G_X_call lr_G_M_call
    rw [lr_x_acts_i hn, if_neg hz, lr_m_at_dead hn (by rw [← (h6 n hn).2]; exact hz)]
    exact lr_same R hc rfl rfl
  have hd : b.1 21 0 n = 0 := by rw [← (h6 n hn).2]; exact hz
  rcases lr_arg y (N := 3) (by decide) with hy | ⟨r, hr, rfl⟩
  · unfold lr_G_X_call lr_G_M_call
    rw [lr_x_acts_i hn, if_pos hz, lr_bs, if_neg lr_1ne0, lr_x_isRoot_o hy, lr_m_at_out (Or.inr hy) (Or.inr ⟨n, hn, rfl⟩)]
    exact lr_same R hc rfl rfl
  have g7 := h7 n r hn hr
  obtain ⟨j0, j1, j3, j4, j5⟩ := h15 n hn
  have ex : lr_G_X_call (nI n) (nI r) z a = (if a.1 14 n 0 = 1 then some (-1, a) else (lr_G_Node_rootHolds n (nI r) 2 a).bind fun u9 => if u9.1 = 0 then some (-1, u9.2) else (lr_G_Node_rootIsGood n (nI r) u9.2).bind fun u12 => if u12.1 = 0 then some (-2, u12.2) else (lr_G_Node_startRequest n (lr_rd u12.2 11 n r) z u12.2).bind fun u16 => some (lr_rd u16 14 n 1, u16)) := by
    have hin : lr_in (nI r) 3 = true := lr_nin hr (by decide)
    unfold lr_G_X_call
    rw [lr_x_acts_i hn, if_pos hz, lr_bs, if_neg lr_1ne0, lr_x_isRoot_i hr, lr_bs, if_neg lr_1ne0, if_pos (lr_nin hn (by decide)), lr_ncl (m := n) (by omega), lr_ncl (m := r) (by omega), lr_r]
    simp only [hin, if_true]
  rcases h7v n r hn hr with e | ⟨k, hk, e, ek⟩
  · refine lr_same R hc (r := -1) ?_ ?_
    · rw [ex, lr_x_rootHolds0 hr 2 e]
      by_cases w : a.1 14 n 0 = 1
      · rw [if_pos w]
      · rw [if_neg w]; rfl
    · unfold lr_G_M_call
      rw [lr_m_at0 hn hr hd (by rw [← g7]; exact e)]
      rfl
  have hq : 8 * n + k < 32 := by omega
  obtain ⟨g0, g1, g2, g6, g7', g8, g9, g10, g11, g12⟩ := h8 (8 * n + k) hq
  have hat := lr_m_at1 hn hr hk hd (show b.1 22 0 (3 * n + r) = nI k by rw [← g7]; exact e)
  by_cases w : a.1 14 n 0 = 1
  · refine lr_same R hc (r := -1) (by rw [ex, if_pos w]) ?_
    unfold lr_G_M_call
    rw [hat, lr_bs, if_neg (lr_nneg (m := 8 * n + k) (by omega)), if_pos (lr_nin hn (by decide)), lr_ncl (by omega), lr_r b 45, ← j0, if_pos w]
  by_cases hh : a.1 7 (8 * n + k) 0 = 2
  rotate_left
  · refine lr_same R hc (r := -1) (by rw [ex, if_neg w, lr_x_rootHolds1 hr hk 2 e, if_neg hh]; rfl) ?_
    unfold lr_G_M_call
    rw [hat, lr_bs, if_neg (lr_nneg (m := 8 * n + k) (by omega)), if_pos (lr_nin hn (by decide)), lr_ncl (m := n) (by omega), lr_r b 45, ← j0, if_neg w, if_pos (lr_nin hq (by decide)), lr_ncl (m := 8 * n + k) (by omega), lr_r b 24, ← g0, if_neg hh]
  have em : lr_G_M_call (nI n) (nI r) z b = (if a.1 7 (8 * n + k) 10 = 0 then some (-2, b) else (lr_G_M_stale (nI (8 * n + k)) b).bind fun u9 => if u9.1 = 0 then (some (lr_wr (lr_wr u9.2 45 0 n 1) 46 0 n (lr_rd (lr_wr u9.2 45 0 n 1) 46 0 n + 1))).bind fun t12 => (lr_G_M_sendCall (nI n) (lr_wr (lr_wr t12 47 0 n (nI (8 * n + k))) 48 0 n z)).bind fun u14 => some (lr_rd u14 46 0 n, u14) else some (-2, u9.2)) := by
    unfold lr_G_M_call
    rw [hat, lr_bs (nI (8 * n + k), b), if_neg (lr_nneg (m := 8 * n + k) (by omega)), if_pos (lr_nin hn (by decide)), lr_ncl (m := n) (by omega), lr_r b 45, ← j0, if_neg w, if_pos (lr_nin hq (by decide)), lr_ncl (m := 8 * n + k) (by omega), lr_r b 24, ← g0, if_pos hh, lr_r b 34, ← g10]
  rw [em, ex, if_neg w, lr_x_rootHolds1 hr hk 2 e, if_pos hh, lr_bs (1, a), if_neg lr_1ne0, lr_x_rootIsGood hr hk e hh, lr_bs (_, a), lr_m_stale hq, h1.2.1, ← h1.1, ← g9]
  by_cases q1 : a.1 7 (8 * n + k) 10 = 0
  · rw [if_neg (show ¬ (¬ a.1 7 (8 * n + k) 10 = 0 ∧ a.1 1 0 0 < a.1 7 (8 * n + k) 9) from fun q => q.1 q1), if_pos rfl, if_pos q1]
    exact lr_same R hc rfl rfl
  by_cases q2 : a.1 1 0 0 < a.1 7 (8 * n + k) 9
  rotate_left
  · rw [if_neg (show ¬ (¬ a.1 7 (8 * n + k) 10 = 0 ∧ a.1 1 0 0 < a.1 7 (8 * n + k) 9) from fun q => q2 q.2), if_pos rfl, if_neg q1, if_neg q2, lr_bs ((1 : Int32), b), if_neg lr_1ne0]
    exact lr_same R hc rfl rfl
  rw [if_pos (show ¬ a.1 7 (8 * n + k) 10 = 0 ∧ a.1 1 0 0 < a.1 7 (8 * n + k) 9 from ⟨q1, q2⟩), if_neg lr_1ne0, if_neg q1, if_pos q2, lr_bs ((0 : Int32), b), if_pos rfl]
  obtain ⟨m, hm, emn, -⟩ := h16 n hn
  have R1 := lr_s_call (lr_up R hc) hn hk (m := m) (by omega) z hh
  have e1 : lr_rd (lr_wr a 14 n 0 1) 14 n 1 + 1 = nI (m + 1) := by
    have : lr_rd (lr_wr a 14 n 0 1) 14 n 1 = nI m := by simpa [lr_r, lr_w] using emn
    rw [this, nI_1]
  have e2 : lr_rd (lr_wr b 45 0 n 1) 46 0 n + 1 = nI (m + 1) := by
    have : lr_rd (lr_wr b 45 0 n 1) 46 0 n = nI m := by rw [← emn, j1]; simp [lr_r, lr_w]
    rw [this, nI_1]
  obtain ⟨cnt2, a2, b2, u1, u2, u3, u4, u5⟩ := lr_sr R1 hn (by simp [lr_w])
  unfold lr_G_Node_startRequest
  rw [lr_r a 11 n r, e, e1, e2, lr_bs, lr_bs, u1, u2]
  refine ⟨a2.1 14 n 1, a2, b2, rfl, ?_, ns, np, cnt2, tt, ow, u3⟩
  rw [lr_bs, lr_r b2, u4, u5]
/-- a pin is made in the first place where one ended -/
theorem lr_x_pdl (a : lr_S) (n : Nat) (s i0 : Int32) : ∀ (c k f : Nat), k + c = 6 → c < f → lr_L_Node_pinDown_2 n s i0 f (nI k) a = some (match lr_lf (fun i => decide (a.1 13 (6 * n + i) 2 ≤ a.1 1 0 0)) k c with
    | some i => .inl (lr_wr (lr_wr (lr_wr a 13 (6 * n + i) 0 i0) 13 (6 * n + i) 1 s) 13 (6 * n + i) 2 (a.1 1 0 0 + 24))
    | none => .inr (nI 6, a))
  | 0, k, f, h, hf => by
    obtain ⟨f, rfl⟩ : ∃ g, f = g + 1 := ⟨f - 1, by omega⟩
    unfold lr_L_Node_pinDown_2
    obtain rfl : k = 6 := by omega
    rw [if_pos (lr_yle (x := 6) (m := 6) rfl (by omega) (by decide))]
    rfl
  | c + 1, k, f, h, hf => by
    obtain ⟨f, rfl⟩ : ∃ g, f = g + 1 := ⟨f - 1, by omega⟩
    unfold lr_L_Node_pinDown_2
    have ih := lr_x_pdl a n s i0 c (k + 1) f (by omega) (by omega)
    rw [if_neg (lr_nle (x := 6) (m := 6) rfl (by omega) (by decide)), if_pos (lr_nin (by omega) (by decide)), lr_ncl (by omega), lr_x_isLive, lr_bs (_, a), nI_1]
    unfold lr_lf
    by_cases hz : a.1 13 (6 * n + k) 2 ≤ a.1 1 0 0
    · rw [if_pos hz, if_pos rfl, if_pos (by simpa using hz), lr_bs]
      have : lr_rd (lr_wr (lr_wr ((0 : Int32), a).2 13 (6 * n + k) 0 i0) 13 (6 * n + k) 1 s) 1 0 0 = a.1 1 0 0 := by simp [lr_r, lr_w]
      rw [this]
    · rw [if_neg hz, if_neg lr_1ne0, if_neg (by simpa using hz)]
      exact ih
theorem lr_ct_all {p : Nat → Bool} : ∀ n, (∀ i, i < n → p i = true) → lr_ct p n = n
  | 0, _ => rfl
  | n + 1, h => by
    unfold lr_ct
    rw [lr_ct_all n (fun i hi => h i (by omega)), if_pos (h n (by omega))]
theorem lr_wc2 (t : lr_S) {k i j k2 i2 j2 : Nat} (h : ¬ (k = k2 ∧ i = i2 ∧ j = j2)) (v v2 : Int32) : lr_wr (lr_wr t k i j v) k2 i2 j2 v2 = lr_wr (lr_wr t k2 i2 j2 v2) k i j v := by
  unfold lr_wr
  congr 1
  funext x y z
  by_cases h1 : x = k ∧ y = i ∧ z = j
  · by_cases h2 : x = k2 ∧ y = i2 ∧ z = j2
    · exact absurd ⟨h1.1.symm.trans h2.1, h1.2.1.symm.trans h2.2.1, h1.2.2.symm.trans h2.2.2⟩ h
    · rw [if_neg h2, if_pos h1]
      exact if_pos h1
  · by_cases h2 : x = k2 ∧ y = i2 ∧ z = j2
    · rw [if_pos h2, if_neg h1]
      exact (if_pos h2).symm
    · rw [if_neg h2, if_neg h1]
      exact (if_neg h1).trans (if_neg h2).symm
theorem lr_m_send_24 {b : lr_S} {cnt : Nat} (h : b.1 20 0 19 = nI cnt) (hc : cnt ≤ 32) (f0 f1 f2 f3 f4 f5 : Int32) (v : Int32) : ∃ b2, lr_G_M_send f0 f1 f2 f3 f4 f5 b = some b2 ∧ lr_G_M_send f0 f1 f2 f3 f4 f5 (lr_wr b 20 0 24 v) = some (lr_wr b2 20 0 24 v) ∧ b2.1 20 0 24 = b.1 20 0 24 := by
  have h' : (lr_wr b 20 0 24 v).1 20 0 19 = nI cnt := by
    rw [lr_w, if_neg (fun q => absurd q.2.2 (by decide))]
    exact h
  by_cases e : cnt < 32
  · refine ⟨_, lr_m_send h e _ _ _ _ _ _, ?_, lr_sm_ne _ _ _ _ _ _ _ _ (fun q => absurd q.1 (by decide)) (fun q => absurd q.2.2 (by decide))⟩
    rw [lr_m_send h' e]
    unfold lr_sm
    rw [lr_wc b (show ¬ 20 = 38 by decide), lr_wc _ (show ¬ 20 = 38 by decide), lr_wc _ (show ¬ 20 = 38 by decide), lr_wc _ (show ¬ 20 = 38 by decide), lr_wc _ (show ¬ 20 = 38 by decide), lr_wc _ (show ¬ 20 = 38 by decide), lr_wc2 _ (fun q => absurd q.2.2 (by decide))]
  · obtain rfl : cnt = 32 := by omega
    exact ⟨b, lr_m_send32 h _ _ _ _ _ _, lr_m_send32 h' _ _ _ _ _ _, rfl⟩
