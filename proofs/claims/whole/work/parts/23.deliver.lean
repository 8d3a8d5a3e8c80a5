theorem lr_wrap {c ns np tt : Nat} {ow : Nat → Nat} {gx gm : Option (Int32 × lr_S)} (h : lr_Out c ns np tt ow gx gm) : lr_Out c ns np tt ow (gx.bind fun u => if u.1 = 0 ∨ u.1 = 1 then some (u.1, u.2) else none) (gm.bind fun u => if u.1 = 0 ∨ u.1 = 1 then some (u.1, u.2) else none) := by
  obtain ⟨r, a2, b2, cnt2, g1, g2, g3, g4⟩ := h
  refine ⟨r, a2, b2, cnt2, ?_, ?_, g3, g4⟩
  · rw [g1, lr_bs]
    exact if_pos g3
  · rw [g2, lr_bs]
    exact if_pos g3
theorem lr_recv {c ns np cnt tt : Nat} {ow : Nat → Nat} {a b : lr_S} (R : lr_Rel c ns np cnt tt ow a b) (M : lr_Mr ns ow a b) {kd s d : Nat} (hkd : kd ≤ 8) (hs : s < 4) (hd : d < 4) (f0 : a.1 3 32 0 = nI kd) (f1 : a.1 3 32 1 = nI s) (g7 : kd = 0 → ∃ e i, e < ns ∧ i < 3 ∧ a.1 3 32 3 = nI e ∧ a.1 3 32 5 = nI (4 * i + ow e)) (g8 : (kd = 2 ∨ kd = 5) → ∃ e, e < ns ∧ a.1 3 32 3 = nI e ∧ d = ow e ∧ ¬ s = ow e) (g9 : kd = 6 → ∃ e m, e < ns ∧ a.1 3 32 3 = nI e ∧ d = ow e ∧ 1 ≤ m ∧ m < 1000 ∧ a.1 3 32 4 = nI m) (g10 : (kd = 3 ∨ kd = 4) → ∃ e, e < ns ∧ a.1 3 32 3 = nI e ∧ ¬ d = ow e) (hz : a.1 5 d 9 = 0) : lr_Out c ns np tt ow (lr_G_Node_receive d 32 a) (lr_G_M_comes (nI kd) (nI d) (nI s) b) := by
  unfold lr_G_Node_receive lr_G_M_comes
  rw [lr_r a 5, if_pos hz, lr_r a 3 32 0, f0]
  have T : ∀ p q : Nat, p < 10 → q < 10 → ¬ p = q → (nI p = nI q) = False := fun p q hp hq h => eq_false (lr_neq (by omega) (by omega) h)
  rcases (show kd = 0 ∨ kd = 1 ∨ kd = 2 ∨ kd = 3 ∨ kd = 4 ∨ kd = 5 ∨ kd = 6 ∨ kd = 7 ∨ kd = 8 by omega) with rfl | rfl | rfl | rfl | rfl | rfl | rfl | rfl | rfl
  · obtain ⟨e, i, q1, q2, q3, q4⟩ := g7 rfl
    rw [if_pos (show nI 0 = 0 from rfl), if_pos (show nI 0 = 0 from rfl)]
    exact lr_wrap (lr_recv_pass R M hd hs q1 q2 f1 q3 q4)
  · simp only [show (nI 1 = (0 : Int32)) = False from T 1 0 (by decide) (by decide) (by decide), show (nI 1 = (1 : Int32)) = True from eq_true rfl, if_true, if_false]
    exact lr_wrap (lr_recv_taken R M hd)
  · obtain ⟨e, q1, q2, q3, q4⟩ := g8 (Or.inl rfl)
    simp only [show (nI 2 = (0 : Int32)) = False from T 2 0 (by decide) (by decide) (by decide), show (nI 2 = (1 : Int32)) = False from T 2 1 (by decide) (by decide) (by decide), show (nI 2 = (2 : Int32)) = True from eq_true rfl, if_true, if_false]
    exact lr_wrap (lr_recv_dirty R M hd hs q1 f1 q2 q3.symm q4)
  · obtain ⟨e, q1, q2, q3⟩ := g10 (Or.inl rfl)
    simp only [show (nI 3 = (0 : Int32)) = False from T 3 0 (by decide) (by decide) (by decide), show (nI 3 = (1 : Int32)) = False from T 3 1 (by decide) (by decide) (by decide), show (nI 3 = (2 : Int32)) = False from T 3 2 (by decide) (by decide) (by decide), show (nI 3 = (3 : Int32)) = True from eq_true rfl, if_true, if_false]
    exact lr_wrap (lr_recv_listed R M hd q1 q2 (fun z => q3 z.symm))
  · obtain ⟨e, q1, q2, q3⟩ := g10 (Or.inr rfl)
    simp only [show (nI 4 = (0 : Int32)) = False from T 4 0 (by decide) (by decide) (by decide), show (nI 4 = (1 : Int32)) = False from T 4 1 (by decide) (by decide) (by decide), show (nI 4 = (2 : Int32)) = False from T 4 2 (by decide) (by decide) (by decide), show (nI 4 = (3 : Int32)) = False from T 4 3 (by decide) (by decide) (by decide), show (nI 4 = (4 : Int32)) = True from eq_true rfl, if_true, if_false]
    exact lr_wrap (lr_recv_gone R M hd q1 q2 (fun z => q3 z.symm))
  · obtain ⟨e, q1, q2, q3, q4⟩ := g8 (Or.inr rfl)
    simp only [show (nI 5 = (0 : Int32)) = False from T 5 0 (by decide) (by decide) (by decide), show (nI 5 = (1 : Int32)) = False from T 5 1 (by decide) (by decide) (by decide), show (nI 5 = (2 : Int32)) = False from T 5 2 (by decide) (by decide) (by decide), show (nI 5 = (3 : Int32)) = False from T 5 3 (by decide) (by decide) (by decide), show (nI 5 = (4 : Int32)) = False from T 5 4 (by decide) (by decide) (by decide), show (nI 5 = (5 : Int32)) = True from eq_true rfl, if_true, if_false]
    exact lr_wrap (lr_recv_clean R M hd hs q1 f1 q2 q3.symm)
  · obtain ⟨e, m, q1, q2, q3, q4, q5, q6⟩ := g9 rfl
    simp only [show (nI 6 = (0 : Int32)) = False from T 6 0 (by decide) (by decide) (by decide), show (nI 6 = (1 : Int32)) = False from T 6 1 (by decide) (by decide) (by decide), show (nI 6 = (2 : Int32)) = False from T 6 2 (by decide) (by decide) (by decide), show (nI 6 = (3 : Int32)) = False from T 6 3 (by decide) (by decide) (by decide), show (nI 6 = (4 : Int32)) = False from T 6 4 (by decide) (by decide) (by decide), show (nI 6 = (5 : Int32)) = False from T 6 5 (by decide) (by decide) (by decide), show (nI 6 = (6 : Int32)) = True from eq_true rfl, if_true, if_false]
    exact lr_wrap (lr_recv_call R M hd hs q1 f1 q2 q3.symm q4 q5 q6)
  · simp only [show (nI 7 = (0 : Int32)) = False from T 7 0 (by decide) (by decide) (by decide), show (nI 7 = (1 : Int32)) = False from T 7 1 (by decide) (by decide) (by decide), show (nI 7 = (2 : Int32)) = False from T 7 2 (by decide) (by decide) (by decide), show (nI 7 = (3 : Int32)) = False from T 7 3 (by decide) (by decide) (by decide), show (nI 7 = (4 : Int32)) = False from T 7 4 (by decide) (by decide) (by decide), show (nI 7 = (5 : Int32)) = False from T 7 5 (by decide) (by decide) (by decide), show (nI 7 = (6 : Int32)) = False from T 7 6 (by decide) (by decide) (by decide), show (nI 7 = (7 : Int32)) = True from eq_true rfl, if_true, if_false]
    exact lr_wrap (lr_recv_reply R M hd (Or.inl rfl) f0)
  · simp only [show (nI 8 = (0 : Int32)) = False from T 8 0 (by decide) (by decide) (by decide), show (nI 8 = (1 : Int32)) = False from T 8 1 (by decide) (by decide) (by decide), show (nI 8 = (2 : Int32)) = False from T 8 2 (by decide) (by decide) (by decide), show (nI 8 = (3 : Int32)) = False from T 8 3 (by decide) (by decide) (by decide), show (nI 8 = (4 : Int32)) = False from T 8 4 (by decide) (by decide) (by decide), show (nI 8 = (5 : Int32)) = False from T 8 5 (by decide) (by decide) (by decide), show (nI 8 = (6 : Int32)) = False from T 8 6 (by decide) (by decide) (by decide), show (nI 8 = (7 : Int32)) = False from T 8 7 (by decide) (by decide) (by decide), show (nI 8 = (8 : Int32)) = True from eq_true rfl, if_true, if_false]
    exact lr_wrap (lr_recv_reply R M hd (Or.inr rfl) f0)
/-- what the reference reads of the message before it is taken out -/
def lr_gt (b : lr_S) (p : Nat) : lr_S := lr_wr (lr_wr (lr_wr (lr_wr (lr_wr (lr_wr b 40 0 0 (b.1 38 0 (6 * p))) 40 0 1 (b.1 38 0 (6 * p + 1))) 40 0 2 (b.1 38 0 (6 * p + 2))) 40 0 3 (b.1 38 0 (6 * p + 3))) 40 0 4 (b.1 38 0 (6 * p + 4))) 40 0 5 (b.1 38 0 (6 * p + 5))
theorem lr_m_deliver_go {b : lr_S} {p cnt : Nat} (h : b.1 20 0 19 = nI cnt) (hc : cnt ≤ 32) (hp : p < cnt) : lr_G_M_deliver (nI p) b = (if lr_in ((lr_tm (lr_gt b p) p cnt).1 40 0 2) 4 = true then (if (lr_tm (lr_gt b p) p cnt).1 21 0 ((lr_tm (lr_gt b p) p cnt).1 40 0 2).toNatClampNeg = 0 then ((lr_G_M_comes ((lr_tm (lr_gt b p) p cnt).1 40 0 0) ((lr_tm (lr_gt b p) p cnt).1 40 0 2) ((lr_tm (lr_gt b p) p cnt).1 40 0 1) (lr_tm (lr_gt b p) p cnt)).bind fun u26 => if u26.1 = 0 then some (0, u26.2) else some (1, u26.2)) else some (0, lr_tm (lr_gt b p) p cnt)) else none) := by
  have q0 : (6 : Int32) * nI p + 0 = nI (6 * p) := by rw [lr_mul 6 (m := 6) rfl, lr_i0, nI_add]; rfl
  unfold lr_G_M_deliver
  rw [lr_r b 20, h, lr_m_within_i rfl hp (by omega), lr_bs (1, b), if_neg lr_1ne0, lr_c0, lr_c1, lr_c2, lr_c3, lr_c4, lr_c5, q0, lr_six 1 1 rfl, lr_six 2 2 rfl, lr_six 3 3 rfl, lr_six 4 4 rfl, lr_six 5 5 rfl, if_pos (lr_nin (m := 6 * p) (by omega) (by decide)), lr_ncl (m := 6 * p) (by omega), lr_ncl (m := 6 * p + 1) (by omega), lr_ncl (m := 6 * p + 2) (by omega), lr_ncl (m := 6 * p + 3) (by omega), lr_ncl (m := 6 * p + 4) (by omega), lr_ncl (m := 6 * p + 5) (by omega), lr_bs]
  have rd : ∀ (t : lr_S) (z y : Nat) (v : Int32), lr_rd (lr_wr t 40 0 z v) 38 0 y = t.1 38 0 y := fun t z y v => by
    rw [lr_r, lr_w, if_neg (fun e => absurd e.1 (by decide))]
  have rr : ∀ (t : lr_S) (z y : Nat) (v : Int32), (lr_wr t 40 0 z v).1 38 0 y = t.1 38 0 y := fun t z y v => by
    rw [lr_w, if_neg (fun e => absurd e.1 (by decide))]
  rw [if_pos (lr_nin (m := 6 * p + 1) (by omega) (by decide)), lr_bs, if_pos (lr_nin (m := 6 * p + 2) (by omega) (by decide)), lr_bs, if_pos (lr_nin (m := 6 * p + 3) (by omega) (by decide)), lr_bs, if_pos (lr_nin (m := 6 * p + 4) (by omega) (by decide)), lr_bs, if_pos (lr_nin (m := 6 * p + 5) (by omega) (by decide)), lr_bs]
  rw [rd _ _ (6 * p + 5), rd _ _ (6 * p + 4), rd _ _ (6 * p + 3), rd _ _ (6 * p + 2), rd _ _ (6 * p + 1), rr _ _ (6 * p + 5), rr _ _ (6 * p + 5), rr _ _ (6 * p + 5), rr _ _ (6 * p + 5), rr _ _ (6 * p + 4), rr _ _ (6 * p + 4), rr _ _ (6 * p + 4), rr _ _ (6 * p + 3), rr _ _ (6 * p + 3), rr _ _ (6 * p + 2)]
  have e : lr_wr (lr_wr (lr_wr (lr_wr (lr_wr (lr_wr b 40 0 0 (lr_rd b 38 0 (6 * p))) 40 0 1 (b.1 38 0 (6 * p + 1))) 40 0 2 (b.1 38 0 (6 * p + 2))) 40 0 3 (b.1 38 0 (6 * p + 3))) 40 0 4 (b.1 38 0 (6 * p + 4))) 40 0 5 (b.1 38 0 (6 * p + 5)) = lr_gt b p := rfl
  rw [show ((1 : Int32), b).2 = b from rfl, e]
  have hg : (lr_gt b p).1 20 0 19 = nI cnt := by
    unfold lr_gt
    simpa [lr_w] using h
  rw [lr_m_takeOut hg hc hp, lr_bs]
  rfl
theorem lr_sim_deliver (x : Int32) : lr_Sim (lr_G_X_deliver x) (lr_G_M_deliver x) := by
  rintro c a b ⟨ns, np, cnt, tt, ow, R⟩ hc
  obtain ⟨h1, h2, h3, h4, h5, h6, h7, h7v, h8, h9, h10, h11, h12, h13, h14, h15, h16, h17, h18, h19, h20, p1, p2, p3, p4, p5, h22, h23⟩ := id R
  have hc32 := h2.2.2
  rcases lr_arg x (N := cnt) (by omega) with hx | ⟨p, hp, rfl⟩
  · unfold lr_G_X_deliver lr_G_M_deliver
    rw [lr_x_hasPlace_o h2.1 hx, lr_r, lr_m_within_o h2.2.1 hx]
    exact lr_same R hc rfl rfl
  · have hpp := h18.1 p (by omega)
    -- the message is read, then taken out
    have Ra : lr_Rel c ns np cnt tt ow (lr_row a 32 (a.1 3 (a.2 p) 0) (a.1 3 (a.2 p) 1) (a.1 3 (a.2 p) 2) (a.1 3 (a.2 p) 3) (a.1 3 (a.2 p) 4) (a.1 3 (a.2 p) 5)) (lr_gt b p) := by
      unfold lr_row lr_gt
      exact lr_s_got (lr_s_got (lr_s_got (lr_s_got (lr_s_got (lr_s_got (lr_s_taken (lr_s_taken (lr_s_taken (lr_s_taken (lr_s_taken (lr_s_taken R)))))))))))
    generalize hA : lr_row a 32 (a.1 3 (a.2 p) 0) (a.1 3 (a.2 p) 1) (a.1 3 (a.2 p) 2) (a.1 3 (a.2 p) 3) (a.1 3 (a.2 p) 4) (a.1 3 (a.2 p) 5) = A at Ra
    have A3 : ∀ j, j < 6 → A.1 3 32 j = a.1 3 (a.2 p) j := by
      intro j hj
      rw [← hA, lr_row_at _ _ _ _ _ _ _ _ hj]
      rcases (show j = 0 ∨ j = 1 ∨ j = 2 ∨ j = 3 ∨ j = 4 ∨ j = 5 by omega) with rfl | rfl | rfl | rfl | rfl | rfl <;> rfl
    have Rt := lr_s_take Ra hp
    have T3 : ∀ j, j < 6 → (lr_tx A p cnt).1 3 32 j = a.1 3 (a.2 p) j := by
      intro j hj
      rw [← A3 j hj]
      simp [lr_tx, lr_w]
    have G40 : ∀ j, j < 6 → (lr_tm (lr_gt b p) p cnt).1 40 0 j = b.1 38 0 (6 * p + j) := by
      intro j hj
      have : (lr_tm (lr_gt b p) p cnt).1 40 0 j = (lr_gt b p).1 40 0 j := by
        unfold lr_tm
        rw [lr_w, if_neg (fun e => absurd e.1 (by decide)), lr_am_ne _ _ _ (by decide)]
      rw [this]
      rcases (show j = 0 ∨ j = 1 ∨ j = 2 ∨ j = 3 ∨ j = 4 ∨ j = 5 by omega) with rfl | rfl | rfl | rfl | rfl | rfl <;> simp [lr_gt, lr_w]
    have M : lr_Mr ns ow (lr_tx A p cnt) (lr_tm (lr_gt b p) p cnt) := by
      refine ⟨fun j hj => ?_, ?_⟩
      · rw [G40 j hj, T3 j hj, h19 p j hp hj]
      · exact lr_mv_c (fun j hj => T3 j hj) (h20 p hp)
    obtain ⟨kd, s, d, q1, q2, q3, q4, q5, q6, q7, q8, q9, q10⟩ := M.2
    have q4 : (lr_tx A p cnt).1 3 32 0 = nI kd := q4
    have q5 : (lr_tx A p cnt).1 3 32 1 = nI s := q5
    have q6 : (lr_tx A p cnt).1 3 32 2 = nI d := q6
    have A2 : A.2 = a.2 := by rw [← hA]; rfl
    have A1 : A.1 1 0 1 = nI cnt := by rw [← hA, lr_row_ne _ _ _ _ _ _ _ _ (fun e => absurd e.1 (by decide))]; exact h2.1
    have hx1 : lr_G_X_deliver (nI p) a = (lr_G_Node_receive d 32 (lr_tx A p cnt)).bind fun u11 => if u11.1 = 0 then some (0, u11.2) else some (1, u11.2) := by
      unfold lr_G_X_deliver
      rw [lr_x_hasPlace_i h2.1 hp (by omega), lr_bs (1, a), if_neg lr_1ne0, if_pos (lr_nin (by omega) (by decide)), lr_ncl (by omega), if_pos (show a.2 p < 49 by omega)]
      have hb : lr_G_Message_become 32 (a.2 p) a = some A := by rw [← hA]; rfl
      rw [show lr_G_Message_become 32 (((1 : Int32), a).2.2 p) ((1 : Int32), a).2 = some A from hb, lr_bs, lr_x_takeOut A1 hc32 (by rw [A2]; exact h18.1) hp, lr_bs, lr_r, q6, if_pos (lr_nin q3 (by decide)), lr_ncl (by omega)]
    have hm1 := lr_m_deliver_go h2.2.1 hc32 hp
    rw [M.1 2 (by decide), M.1 0 (by decide), M.1 1 (by decide), q4, q5, q6, if_pos (lr_nin q3 (by decide)), lr_ncl (by omega)] at hm1
    have hdead : (lr_tm (lr_gt b p) p cnt).1 21 0 d = (lr_tx A p cnt).1 5 d 9 := by
      obtain ⟨-, -, -, -, -, t6, -⟩ := Rt
      exact (t6 d q3).2.symm
    rw [hdead] at hm1
    by_cases hz : (lr_tx A p cnt).1 5 d 9 = 0
    · rw [if_pos hz] at hm1
      obtain ⟨r, a2, b2, cnt2, g1, g2, g3, g4⟩ := lr_recv Rt M q1 q2 q3 q4 q5 q7 q8 q9 q10 hz
      rw [g1, lr_bs] at hx1
      rw [g2, lr_bs] at hm1
      rcases g3 with rfl | rfl
      · exact lr_fin g4 hc hx1 hm1
      · exact lr_fin g4 hc hx1 hm1
    · rw [if_neg hz] at hm1
      refine lr_fin Rt hc (r := 0) ?_ hm1
      rw [hx1]
      unfold lr_G_Node_receive
      rw [lr_r, if_neg hz]
      rfl
