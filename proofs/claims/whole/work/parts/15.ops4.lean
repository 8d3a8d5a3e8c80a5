theorem lr_es_rel {a b : lr_S} (h8 : lr_K8 a b) {n : Nat} (hn : n < 4) : lr_lf (fun k => decide (b.1 24 0 k = 0)) (8 * n) 8 = (lr_lf (fun k => decide (a.1 7 (8 * n + k) 0 = 0)) 0 8).map (fun k => 8 * n + k) := by
  refine lr_lf_shift (8 * n) 8 0 (fun j _ hj => ?_)
  rw [(h8 (8 * n + j) (by omega)).1]
theorem lr_m_make_go {b : lr_S} {n r k ns : Nat} (hn : n < 4) (hr : r < 3) (hk : k < 8) (hd : b.1 21 0 n = 0) (hm : b.1 20 0 17 = nI ns) (he : lr_lf (fun k => decide (b.1 24 0 k = 0)) (8 * n) 8 = some (8 * n + k)) : lr_G_M_make (nI n) (nI r) b = some (nI ns, lr_wr (lr_wr (lr_hm b (8 * n + k) (nI ns)) 22 0 (3 * n + r) (nI k)) 20 0 17 (nI (ns + 1))) := by
  have q2 : (2 : Int32) * nI (8 * n + k) = nI (2 * (8 * n + k)) := lr_mul 2 rfl
  have q21 : (2 : Int32) * nI (8 * n + k) + 1 = nI (2 * (8 * n + k) + 1) := by rw [q2, nI_1]
  have q40 : (4 : Int32) * nI (8 * n + k) + 0 = nI (4 * (8 * n + k)) := by rw [lr_mul 4 (m := 4) rfl, lr_i0, nI_add]; rfl
  have q41 : (4 : Int32) * nI (8 * n + k) + 1 = nI (4 * (8 * n + k) + 1) := by rw [lr_mul 4 (m := 4) rfl, nI_1]
  have q42 : (4 : Int32) * nI (8 * n + k) + 2 = nI (4 * (8 * n + k) + 2) := by rw [lr_mul 4 (m := 4) rfl]; exact nI_add _ 2
  have q43 : (4 : Int32) * nI (8 * n + k) + 3 = nI (4 * (8 * n + k) + 3) := by rw [lr_mul 4 (m := 4) rfl]; exact nI_add _ 3
  have q3 : (3 : Int32) * nI n + nI r = nI (3 * n + r) := by rw [lr_mul 3 (m := 3) rfl, nI_add]
  have hE : lr_G_M_emptySlot (nI n) b = some (nI (8 * n + k), b) := by rw [lr_m_emptySlot b hn, he]; rfl
  unfold lr_G_M_make
  rw [lr_m_lives_i hn, if_pos hd, lr_bs, if_neg lr_1ne0, lr_m_within_i (y := 3) (N := 3) rfl hr (by decide), lr_bs, if_neg lr_1ne0, hE, lr_bs]
  rw [q21, q2, q40, q41, q42, q43, q3, if_pos (nI_pos' (by omega)), if_pos (lr_nin (N := 32) (by omega) (by decide)), lr_bs, if_pos (lr_nin (N := 64) (by omega) (by decide)), lr_bs, if_pos (lr_nin (N := 64) (by omega) (by decide)), if_pos (lr_nin (N := 128) (by omega) (by decide)), lr_bs, if_pos (lr_nin (N := 128) (by omega) (by decide)), lr_bs, if_pos (lr_nin (N := 128) (by omega) (by decide)), lr_bs, if_pos (lr_nin (N := 128) (by omega) (by decide)), lr_bs, if_pos (lr_nin (N := 12) (by omega) (by decide)), lr_bs]
  rw [lr_ncl (m := 8 * n + k) (by omega), lr_ncl (m := 2 * (8 * n + k)) (by omega), lr_ncl (m := 2 * (8 * n + k) + 1) (by omega), lr_ncl (m := 4 * (8 * n + k)) (by omega), lr_ncl (m := 4 * (8 * n + k) + 1) (by omega), lr_ncl (m := 4 * (8 * n + k) + 2) (by omega), lr_ncl (m := 4 * (8 * n + k) + 3) (by omega), lr_ncl (m := 3 * n + r) (by omega), lr_mod8 (by omega), show (8 * n + k) % 8 = k by omega]
  have e0 : lr_rd (lr_wr b 24 0 (8 * n + k) 1) 20 0 17 = nI ns := by
    simp only [lr_r, lr_w]
    simpa using hm
  rw [e0]
  have e1 : ∀ v, lr_rd (lr_wr (lr_hm b (8 * n + k) (nI ns)) 22 0 (3 * n + r) v) 20 0 17 = nI ns := by
    intro v
    simp only [lr_r, lr_hm, lr_w]
    simpa using hm
  have e2 := e1 (nI k)
  unfold lr_hm at e2
  rw [e2, nI_1]
  have e3 : ∀ t : lr_S, lr_rd (lr_wr t 20 0 17 (nI (ns + 1))) 20 0 17 = nI (ns + 1) := fun t => by simp [lr_r, lr_w]
  rw [e3, nI_pred]
  rfl
theorem lr_sim_make (x y : Int32) : lr_Sim (lr_G_X_make x y) (lr_G_M_make x y) := by
  rintro c a b ⟨ns, np, cnt, tt, ow, R⟩ hc
  obtain ⟨h1, h2, h3, h4, h5, h6, h7, h7v, h8, h9, h10, h11, h12, h13, h14, h15, h16, h17, h18, h19, h20, p1, p2, p3, p4, p5, h22, h23⟩ := id R
  rcases lr_arg x (N := 4) (by decide) with hx | ⟨n, hn, rfl⟩
  · unfold lr_G_X_make lr_G_M_make
    rw [lr_x_acts_o hx, lr_m_lives_o hx]
    exact lr_same R hc rfl rfl
  by_cases hz : a.1 5 n 9 = 0
  rotate_left
  · unfold lr_G_X_make lr_G_M_make
    rw [lr_x_acts_i hn, lr_m_lives_i hn, ← (h6 n hn).2, if_neg hz]
    exact lr_same R hc rfl rfl
  have hd : b.1 21 0 n = 0 := by rw [← (h6 n hn).2]; exact hz
  rcases lr_arg y (N := 3) (by decide) with hy | ⟨r, hr, rfl⟩
  · unfold lr_G_X_make lr_G_M_make
    rw [lr_x_acts_i hn, lr_m_lives_i hn, if_pos hz, if_pos hd, lr_bs, lr_bs, if_neg lr_1ne0, if_neg lr_1ne0, lr_x_isRoot_o hy, lr_m_within_o (y := 3) (N := 3) rfl hy]
    exact lr_same R hc rfl rfl
  have hes := lr_es_rel h8 hn
  have hxs := lr_x_leastEmptySlot a n
  cases hl : lr_lf (fun k => decide (a.1 7 (8 * n + k) 0 = 0)) 0 8 with
  | none =>
    rw [hl] at hes hxs
    refine lr_same R hc (r := -1) ?_ ?_
    · unfold lr_G_X_make
      rw [lr_x_acts_i hn, if_pos hz, lr_bs, if_neg lr_1ne0, lr_x_isRoot_i hr, lr_bs, if_neg lr_1ne0, if_pos (lr_nin hn (by decide)), lr_ncl (by omega), hxs]
      rfl
    · unfold lr_G_M_make
      rw [lr_m_lives_i hn, if_pos hd, lr_bs, if_neg lr_1ne0, lr_m_within_i (y := 3) (N := 3) rfl hr (by decide), lr_bs, if_neg lr_1ne0, lr_m_emptySlot b hn, hes]
      rfl
  | some k =>
    rw [hl] at hes hxs
    obtain ⟨-, hk, hk0, -⟩ := lr_lf_some 8 0 k hl
    have hk : k < 8 := by omega
    have hk0 : a.1 7 (8 * n + k) 0 = 0 := by simpa using hk0
    have hx1 : lr_G_X_make (nI n) (nI r) a = some (nI ns, lr_wr (lr_ho (lr_wr a 0 0 3 (nI (ns + 1))) (8 * n + k) (nI ns)) 11 n r (nI k)) := by
      unfold lr_G_X_make
      rw [lr_x_acts_i hn, if_pos hz, lr_bs, if_neg lr_1ne0, lr_x_isRoot_i hr, lr_bs, if_neg lr_1ne0, if_pos (lr_nin hn (by decide)), lr_ncl (by omega), show lr_G_Node_leastEmptySlot n a = some (nI k, a) from hxs, lr_bs]
      rw [if_neg (lr_n1 (by omega)), if_pos (lr_nin hk (by decide)), lr_ncl (m := k) (by omega), lr_r, h3.1, nI_1, lr_x_hno, lr_bs, if_pos (lr_nin hr (by decide)), lr_ncl (m := r) (by omega)]
    refine ⟨nI ns, _, _, hx1, lr_m_make_go hn hr hk hd h3.2.1 hes, ns + 1, np, cnt, tt, lr_ow ow ns n, ?_⟩
    rw [lr_wc _ (by decide)]
    refine lr_s_root (lr_s_new (lr_up R hc) hn hk hk0 (by have := h3.2.2; omega)) hn hr (Or.inr ⟨k, hk, rfl, ?_⟩)
    simp [lr_ho, lr_w]
