theorem lr_x_state (a : lr_S) (q : Nat) (t : Int32) : lr_G_Slot_state q t a = some (if t < a.1 7 q 9 then (if a.1 7 q 10 = 0 then 0 else 1) else 2, a) := by
  unfold lr_G_Slot_state
  rw [lr_r, lr_r]
  by_cases h : t < a.1 7 q 9
  · rw [if_pos h, if_pos h]
    by_cases g : a.1 7 q 10 = 0
    · rw [if_pos g, if_pos g]
    · rw [if_neg g, if_neg g]
  · rw [if_neg h, if_neg h]
theorem lr_m_stale {b : lr_S} {q : Nat} (hq : q < 32) : lr_G_M_stale (nI q) b = some (if b.1 20 0 0 < b.1 33 0 q then 0 else 1, b) := by
  unfold lr_G_M_stale
  rw [if_pos (lr_nin hq (by decide)), lr_ncl (by omega), lr_r, lr_r]
  by_cases h : b.1 20 0 0 < b.1 33 0 q
  · rw [if_pos h, if_pos h]
  · rw [if_neg h, if_neg h]
theorem lr_x_spart_o {y t : Int32} {a : lr_S} {q : Nat} (hy : lr_out y 5) : lr_G_Slot_part q y t a = some (-1, a) := by
  unfold lr_G_Slot_part
  rw [if_neg (lr_one (v := 0) (j := 0) rfl hy (by decide) (by decide)), if_neg (lr_one (v := 1) (j := 1) rfl hy (by decide) (by decide)), if_neg (lr_one (v := 2) (j := 2) rfl hy (by decide) (by decide)), if_neg (lr_one (v := 3) (j := 3) rfl hy (by decide) (by decide)), if_neg (lr_one (v := 4) (j := 4) rfl hy (by decide) (by decide))]
  by_cases h : lr_rd a 7 q 0 = 0
  · rw [if_pos h]
  · rw [if_neg h]
    by_cases g : lr_rd a 7 q 0 = 1
    · rw [if_pos g]
    · rw [if_neg g, if_neg (lr_one (v := 1) (j := 1) rfl hy (by decide) (by decide)), if_neg (lr_one (v := 2) (j := 2) rfl hy (by decide) (by decide)), if_neg (lr_one (v := 3) (j := 3) rfl hy (by decide) (by decide)), if_neg (lr_one (v := 4) (j := 4) rfl hy (by decide) (by decide))]
/-- what a slot shows, by number -/
def lr_sv (a : lr_S) (q w : Nat) : Int32 := if w = 0 then a.1 7 q 0 else if a.1 7 q 0 = 0 then -1 else if w = 1 then a.1 7 q 1 else if a.1 7 q 0 = 1 then (if w = 2 then a.1 7 q 2 else a.1 8 q (w - 3)) else if w = 2 then (if a.1 1 0 0 < a.1 7 q 9 then (if a.1 7 q 10 = 0 then 0 else 1) else 2) else if w = 3 then a.1 7 q 9 else a.1 7 q 6
theorem lr_x_spart_i {a : lr_S} {q w : Nat} (hw : w < 5) : lr_G_Slot_part q (nI w) (a.1 1 0 0) a = some (lr_sv a q w, a) := by
  unfold lr_G_Slot_part lr_sv
  simp only [lr_r, lr_x_state, lr_bs]
  rcases (show w = 0 ∨ w = 1 ∨ w = 2 ∨ w = 3 ∨ w = 4 by omega) with rfl | rfl | rfl | rfl | rfl <;> by_cases h : a.1 7 q 0 = 0 <;> by_cases g : a.1 7 q 0 = 1 <;> simp only [h, g, if_true, if_false] <;> rfl
theorem lr_m_slot_i {b : lr_S} {n k w : Nat} (hn : n < 4) (hk : k < 8) (hw : w < 5) : lr_G_M_slot (nI n) (nI k) (nI w) b = some (if w = 0 then b.1 24 0 (8 * n + k) else if b.1 24 0 (8 * n + k) = 0 then -1 else if w = 1 then b.1 25 0 (8 * n + k) else if b.1 24 0 (8 * n + k) = 1 then (if w = 2 then b.1 26 0 (8 * n + k) else b.1 27 0 (2 * (8 * n + k) + (w - 3))) else if w = 2 then (if b.1 20 0 0 < b.1 33 0 (8 * n + k) then (if b.1 34 0 (8 * n + k) = 0 then 0 else 1) else 2) else if w = 3 then b.1 33 0 (8 * n + k) else b.1 30 0 (8 * n + k), b) := by
  unfold lr_G_M_slot
  rw [lr_m_within_i (y := 4) (N := 4) rfl hn (by decide), lr_bs, if_neg lr_1ne0, lr_m_within_i (y := 8) (N := 8) rfl hk (by decide), lr_bs, if_neg lr_1ne0, lr_m_within_i (y := 5) (N := 5) rfl hw (by decide), lr_bs, if_neg lr_1ne0, lr_mul 8 (m := 8) rfl, nI_add, if_pos (lr_nin (N := 32) (by omega) (by decide)), lr_ncl (by omega), lr_m_stale (by omega), lr_bs, lr_mul 2 (m := 2) rfl]
  simp only [lr_r]
  have q32 : lr_in (nI (8 * n + k)) 32 = true := lr_nin (by omega) (by decide)
  rcases (show w = 0 ∨ w = 1 ∨ w = 2 ∨ w = 3 ∨ w = 4 by omega) with rfl | rfl | rfl | rfl | rfl
  · rfl
  · by_cases h : b.1 24 0 (8 * n + k) = 0 <;> by_cases g : b.1 24 0 (8 * n + k) = 1 <;> simp only [h, g, q32, if_true, if_false] <;> rfl
  · by_cases h : b.1 24 0 (8 * n + k) = 0 <;> by_cases g : b.1 24 0 (8 * n + k) = 1 <;> by_cases e : b.1 20 0 0 < b.1 33 0 (8 * n + k) <;> by_cases e2 : b.1 34 0 (8 * n + k) = 0 <;> simp only [h, g, e, e2, q32, if_true, if_false] <;> rfl
  · rw [show nI (2 * (8 * n + k)) + nI 3 - 3 = nI (2 * (8 * n + k) + (3 - 3)) by rw [nI_add]; exact pk_sub (b := 3) (by omega), lr_ncl (by omega)]
    have q : lr_in (nI (2 * (8 * n + k) + (3 - 3))) 64 = true := lr_nin (by omega) (by decide)
    by_cases h : b.1 24 0 (8 * n + k) = 0 <;> by_cases g : b.1 24 0 (8 * n + k) = 1 <;> simp only [h, g, q, q32, if_true, if_false] <;> rfl
  · rw [show nI (2 * (8 * n + k)) + nI 4 - 3 = nI (2 * (8 * n + k) + (4 - 3)) by rw [nI_add]; exact (pk_sub (a := 2 * (8 * n + k) + 4) (b := 3) (by omega)).trans (congrArg nI (by omega)), lr_ncl (by omega)]
    have q : lr_in (nI (2 * (8 * n + k) + (4 - 3))) 64 = true := lr_nin (by omega) (by decide)
    by_cases h : b.1 24 0 (8 * n + k) = 0 <;> by_cases g : b.1 24 0 (8 * n + k) = 1 <;> simp only [h, g, q, q32, if_true, if_false] <;> rfl
theorem lr_sim_slot (x y z : Int32) : lr_Sim (lr_G_X_slot x y z) (lr_G_M_slot x y z) := by
  rintro c a b ⟨ns, np, cnt, tt, ow, R⟩ hc
  obtain ⟨h1, h2, h3, h4, h5, h6, h7, h7v, h8, h9, h10, h11, h12, h13, h14, h15, h16, h17, h18, h19, h20, p1, p2, p3, p4, p5, h22, h23⟩ := id R
  rcases lr_arg x (N := 4) (by decide) with hx | ⟨n, hn, rfl⟩
  · unfold lr_G_X_slot lr_G_M_slot
    rw [lr_x_isNode_o hx, lr_m_within_o (y := 4) (N := 4) rfl hx]
    exact lr_same R hc rfl rfl
  · rcases lr_arg y (N := 8) (by decide) with hy | ⟨k, hk, rfl⟩
    · unfold lr_G_X_slot lr_G_M_slot
      rw [lr_x_isNode_i hn, lr_m_within_i (y := 4) (N := 4) rfl hn (by decide), lr_bs, lr_bs, if_neg lr_1ne0, if_neg lr_1ne0, lr_x_isSlot_o hy, lr_m_within_o (y := 8) (N := 8) rfl hy]
      exact lr_same R hc rfl rfl
    · have ex : lr_G_X_slot (nI n) (nI k) z a = (lr_G_Slot_part (8 * n + k) z (a.1 1 0 0) a).bind fun u9 => some (u9.1, u9.2) := by
        unfold lr_G_X_slot
        rw [lr_x_isNode_i hn, lr_bs, if_neg lr_1ne0, lr_x_isSlot_i hk, lr_bs, if_neg lr_1ne0, if_pos (lr_nin hn (by decide)), if_pos (lr_nin hk (by decide)), lr_ncl (by omega), lr_ncl (by omega), lr_r]
      rcases lr_arg z (N := 5) (by decide) with hz | ⟨w, hw, rfl⟩
      · refine lr_same R hc (r := -1) (by rw [ex, lr_x_spart_o hz]; rfl) ?_
        unfold lr_G_M_slot
        rw [lr_m_within_i (y := 4) (N := 4) rfl hn (by decide), lr_bs, if_neg lr_1ne0, lr_m_within_i (y := 8) (N := 8) rfl hk (by decide), lr_bs, if_neg lr_1ne0, lr_m_within_o (y := 5) (N := 5) rfl hz]
        rfl
      · refine lr_same R hc (r := lr_sv a (8 * n + k) w) (by rw [ex, lr_x_spart_i hw]; rfl) ?_
        obtain ⟨g0, g1, g2, g6, g7, g8, g9, g10, g11, g12⟩ := h8 (8 * n + k) (by omega)
        rw [lr_m_slot_i hn hk hw, ← g0, ← g1, ← g2, ← g6, ← g9, ← g10, h1.2.1, ← h1.1]
        unfold lr_sv
        by_cases e : w < 3
        · rcases (show w = 0 ∨ w = 1 ∨ w = 2 by omega) with rfl | rfl | rfl <;> rfl
        · rw [← h10 (8 * n + k) (w - 3) (by omega) (by omega)]
theorem lr_sim_listing (x y z : Int32) : lr_Sim (lr_G_X_listing x y z) (lr_G_M_listing x y z) := by
  rintro c a b ⟨ns, np, cnt, tt, ow, R⟩ hc
  obtain ⟨h1, h2, h3, h4, h5, h6, h7, h7v, h8, h9, h10, h11, h12, h13, h14, h15, h16, h17, h18, h19, h20, p1, p2, p3, p4, p5, h22, h23⟩ := id R
  unfold lr_G_X_listing lr_G_M_listing
  rcases lr_arg x (N := 4) (by decide) with hx | ⟨n, hn, rfl⟩
  · rw [lr_x_isNode_o hx, lr_m_within_o (y := 4) (N := 4) rfl hx]
    exact lr_same R hc rfl rfl
  rw [lr_x_isNode_i hn, lr_m_within_i (y := 4) (N := 4) rfl hn (by decide), lr_bs, lr_bs, if_neg lr_1ne0, if_neg lr_1ne0]
  rcases lr_arg y (N := 8) (by decide) with hy | ⟨k, hk, rfl⟩
  · rw [lr_x_isSlot_o hy, lr_m_within_o (y := 8) (N := 8) rfl hy]
    exact lr_same R hc rfl rfl
  rw [lr_x_isSlot_i hk, lr_m_within_i (y := 8) (N := 8) rfl hk (by decide), lr_bs, lr_bs, if_neg lr_1ne0, if_neg lr_1ne0]
  rcases lr_arg z (N := 4) (by decide) with hz | ⟨d, hd, rfl⟩
  · rw [lr_x_isNode_o hz, lr_m_within_o (y := 4) (N := 4) rfl hz]
    exact lr_same R hc rfl rfl
  rw [lr_x_isNode_i hd, lr_m_within_i (y := 4) (N := 4) rfl hd (by decide), lr_bs, lr_bs, if_neg lr_1ne0, if_neg lr_1ne0]
  by_cases e : nI d = nI n
  · rw [if_pos e, if_pos e]
    exact lr_same R hc rfl rfl
  rw [if_neg e, if_neg e, if_pos (lr_nin hn (by decide)), if_pos (lr_nin hk (by decide)), if_pos (lr_nin hd (by decide)), lr_mul 8 (m := 8) rfl, nI_add, if_pos (lr_nin (N := 32) (by omega) (by decide)), lr_mul 32 (m := 32) rfl, lr_mul 4 (m := 4) rfl, nI_add, nI_add, if_pos (lr_nin (N := 128) (by omega) (by decide)), lr_ncl (m := n) (by omega), lr_ncl (m := k) (by omega), lr_ncl (m := d) (by omega), lr_ncl (m := 8 * n + k) (by omega), lr_ncl (m := 32 * n + 4 * k + d) (by omega)]
  dsimp only
  rw [lr_r a 7, lr_r a 10, lr_r a 1, lr_r b 24, lr_r b 29, lr_r b 20]
  obtain ⟨g0, -⟩ := h8 (8 * n + k) (by omega)
  rw [← g0]
  by_cases f : a.1 7 (8 * n + k) 0 = 1
  · rw [if_pos f, if_pos f]
    have g := h13 (8 * n + k) d (by omega) hd
    rw [show 4 * (8 * n + k) + d = 32 * n + 4 * k + d by omega] at g
    rw [h1.1, h1.2.1]
    have hb1 := h1.2.2
    have hb2 := h22.1
    rcases g with g | ⟨x, y, hx, hy, gx, gy⟩
    · rw [← g]
      by_cases s : (0 : Int32) < a.1 10 (8 * n + k) d - nI tt
      · rw [if_pos s, if_neg (Int32.not_le.mpr s)]
        exact lr_same R hc rfl rfl
      · rw [if_neg s, if_pos (Int32.not_lt.mp s)]
        exact lr_same R hc rfl rfl
    · rw [gx, gy]
      have q1 : nI x - nI tt ≤ 0 := by
        rw [Int32.le_iff_toInt_le, pk_sub_toInt (by omega) (by omega)]
        show (x : Int) - tt ≤ 0
        omega
      have q2 : nI y - nI tt ≤ 0 := by
        rw [Int32.le_iff_toInt_le, pk_sub_toInt (by omega) (by omega)]
        show (y : Int) - tt ≤ 0
        omega
      rw [if_neg (Int32.not_lt.mpr q1), if_pos q2]
      exact lr_same R hc rfl rfl
  · rw [if_neg f, if_neg f]
    exact lr_same R hc rfl rfl
