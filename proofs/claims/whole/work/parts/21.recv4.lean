theorem lr_x_rt (a : lr_S) (n : Nat) : ∀ (c k f : Nat), k + c = 6 → c < f → lr_L_Node_receiveTaken_2 n 32 f (nI k) a = some (match lr_lf (fun i => decide (¬ a.1 13 (6 * n + i) 2 ≤ a.1 1 0 0 ∧ a.1 13 (6 * n + i) 0 = a.1 3 32 4)) k c with
    | some i => .inl (1, lr_wr a 13 (6 * n + i) 2 (a.1 1 0 0))
    | none => .inr (nI 6, a))
  | 0, k, f, h, hf => by
    obtain ⟨f, rfl⟩ : ∃ g, f = g + 1 := ⟨f - 1, by omega⟩
    unfold lr_L_Node_receiveTaken_2
    obtain rfl : k = 6 := by omega
    rw [if_pos (lr_yle (x := 6) (m := 6) rfl (by omega) (by decide))]
    rfl
  | c + 1, k, f, h, hf => by
    obtain ⟨f, rfl⟩ : ∃ g, f = g + 1 := ⟨f - 1, by omega⟩
    unfold lr_L_Node_receiveTaken_2
    have ih := lr_x_rt a n c (k + 1) f (by omega) (by omega)
    rw [if_neg (lr_nle (x := 6) (m := 6) rfl (by omega) (by decide)), if_pos (lr_nin (by omega) (by decide)), lr_ncl (by omega), lr_x_isLive, lr_bs, nI_1]
    unfold lr_lf
    by_cases hz : a.1 13 (6 * n + k) 2 ≤ a.1 1 0 0
    · rw [if_pos hz, if_pos rfl, if_neg (by simp [hz])]
      exact ih
    · rw [if_neg hz, if_neg lr_1ne0, lr_r a 13, lr_r a 3, lr_r a 1]
      by_cases hv : a.1 13 (6 * n + k) 0 = a.1 3 32 4
      · rw [if_pos hv, if_pos (by simp only [decide_eq_true_eq]; exact ⟨hz, hv⟩)]
      · rw [if_neg hv, if_neg (by simp [hv])]
        exact ih
theorem lr_recv_taken {c ns np cnt tt : Nat} {ow : Nat → Nat} {a b : lr_S} (R : lr_Rel c ns np cnt tt ow a b) (M : lr_Mr ns ow a b) {n : Nat} (hn : n < 4) : lr_Out c ns np tt ow (lr_G_Node_receiveTaken n 32 a) (lr_G_M_takenComes (nI n) b) := by
  obtain ⟨h1, h2, h3, h4, h5, h6, h7, h7v, h8, h9, h10, h11, h12, h13, h14, h15, h16, h17, h18, h19, h20, p1, p2, p3, p4, p5, h22, h23⟩ := id R
  have hnp : np ≤ 64 := by have := h4.2.2; have := h22.1; omega
  have hck : b.1 20 0 0 = a.1 1 0 0 := by rw [h1.1, h1.2.1]
  unfold lr_G_Node_receiveTaken lr_G_M_takenComes
  rw [lr_c4, lr_r b 40 0 4, M.1 4 (by decide), lr_r b 20 0 24, h4.2.1, show lr_L_Node_receiveTaken_2 n 32 600 (0 : Int32) a = _ from lr_x_rt a n 6 0 600 (by omega) (by omega)]
  cases hl : lr_lf (fun i => decide (¬ a.1 13 (6 * n + i) 2 ≤ a.1 1 0 0 ∧ a.1 13 (6 * n + i) 0 = a.1 3 32 4)) 0 6 with
  | some i =>
    obtain ⟨-, hi, hi0, -⟩ := lr_lf_some 6 0 i hl
    have hi : i < 6 := by omega
    obtain ⟨l1, l2⟩ : ¬ a.1 13 (6 * n + i) 2 ≤ a.1 1 0 0 ∧ a.1 13 (6 * n + i) 0 = a.1 3 32 4 := by simpa using hi0
    obtain ⟨j, k, q1, q2, q3, q4, q5, q6, q7⟩ := p1 n i hn hi l1
    rw [← l2, q3, lr_m_within_i rfl q1 (by omega), lr_bs (1, b), if_neg lr_1ne0, if_pos (lr_nin (by omega) (by decide)), lr_ncl (by omega), lr_r b 41, q7, lr_div8 (by omega), show (8 * n + k) / 8 = n by omega, if_pos rfl, lr_m_pinned b (by omega), hck, if_pos (show b.1 43 0 j = 0 ∧ ¬ b.1 42 0 j + 24 ≤ a.1 1 0 0 from ⟨q5, by rw [← q4]; exact l1⟩), lr_bs (1, b), if_neg lr_1ne0, lr_nb1]
    exact lr_o1 (lr_s_pinend R hn hi l1 q1 q3)
  | none =>
    have hno := lr_lf_none 6 0 hl
    refine ⟨0, a, b, cnt, rfl, ?_, Or.inl rfl, R⟩
    rcases lr_arg (a.1 3 32 4) (N := np) (by omega) with hx | ⟨j, hj, ej⟩
    · rw [lr_m_within_o rfl hx]
      rfl
    · rw [ej, lr_m_within_i rfl hj (by omega), lr_bs, if_neg lr_1ne0, if_pos (lr_nin (by omega) (by decide)), lr_ncl (by omega), lr_r b 41]
      obtain ⟨m, k, g1, g2, g3⟩ := p4 j hj
      rw [g3, lr_div8 (by omega), show (8 * m + k) / 8 = m by omega]
      by_cases e : m = n
      · subst e
        rw [if_pos rfl, lr_m_pinned b (by omega), lr_bs]
        by_cases z : b.1 43 0 j = 0 ∧ ¬ b.1 42 0 j + 24 ≤ b.1 20 0 0
        · obtain ⟨i, u1, u2, u3⟩ := p2 j m k hj g1 g2 g3 z.1 (by rw [← hck]; exact z.2)
          have := hno i (Nat.zero_le _) (by omega)
          simp only [decide_eq_false_iff_not] at this
          exact absurd ⟨u2, by rw [u3, ej]⟩ this
        · rw [if_neg z, if_pos rfl]
      · rw [if_neg (lr_neq (by omega) (by omega) e)]
/-- a surrogate becomes pending: on both sides the same; the reference sets the root behind it -/
theorem lr_bp {c ns np cnt tt : Nat} {ow : Nat → Nat} {a b : lr_S} (R : lr_Rel c ns np cnt tt ow a b) (M : lr_Mr ns ow a b) {n s k : Nat} (hn : n < 4) (hs : s < 4) (hk : k < 8) (f1 : a.1 3 32 1 = nI s) (hh : a.1 7 (8 * n + k) 0 = 2) : ∃ cnt2 a2 b2 nu, lr_G_Node_becomePending n (8 * n + k) 32 a = some a2 ∧ lr_Rel c ns np cnt2 tt ow a2 (lr_wr (lr_wr (lr_wr b2 31 0 (8 * n + k) nu) 35 0 (8 * n + k) (a.1 3 32 4)) 36 0 (8 * n + k) (nI s)) ∧ (∀ i j, b2.1 40 i j = b.1 40 i j) ∧ lr_G_M_sendDirty (nI (8 * n + k)) (lr_wr (lr_wr b 34 0 (8 * n + k) 0) 33 0 (8 * n + k) (nI tt + 24)) = some (nu, b2) := by
  obtain ⟨h1, h2, h3, h4, h5, h6, h7, h7v, h8, h9, h10, h11, h12, h13, h14, h15, h16, h17, h18, h19, h20, p1, p2, p3, p4, p5, h22, h23⟩ := id R
  have hq : 8 * n + k < 32 := by omega
  have R1 := lr_s_expiry (lr_s_good R hq 0) hq (nI tt + 24)
  have hh1 : (lr_wr (lr_wr a 7 (8 * n + k) 10 0) 7 (8 * n + k) 9 (nI tt + 24)).1 7 (8 * n + k) 0 = 2 := by simpa [lr_w] using hh
  obtain ⟨cnt2, a2, b2, u1, u2, u3, u4, u5, u6, u7, u8⟩ := lr_sd R1 hn hk hh1
  have R4 := lr_s_debt (lr_s_cred (lr_s_first u3 hq (a2.1 5 n 8)) hq (nI s) ⟨s, hs, rfl⟩) hq (a.1 3 32 4)
  refine ⟨cnt2, lr_wr (lr_wr (lr_wr a2 7 (8 * n + k) 7 (a2.1 5 n 8)) 7 (8 * n + k) 11 (nI s)) 7 (8 * n + k) 12 (a.1 3 32 4), b2, a2.1 5 n 8, ?_, ?_, ?_, u2⟩
  rotate_left
  · rw [lr_wc (lr_wr b2 31 0 (8 * n + k) (a2.1 5 n 8)) (show ¬ 35 = 36 by decide)]
    exact R4
  · intro i j
    rw [u6]
    simp [lr_w]
  · unfold lr_G_Node_becomePending
    have r0 : lr_rd (lr_wr a 7 (8 * n + k) 10 0) 1 0 0 = nI tt := by simpa [lr_r, lr_w] using h1.1
    rw [r0, lr_bs, u1, lr_bs]
    unfold lr_G_Slot_owe
    have r1 : ∀ (v : Int32) j, lr_rd (lr_wr a2 7 (8 * n + k) 7 v) 3 32 j = a.1 3 32 j := by
      intro v j
      have : lr_rd (lr_wr a2 7 (8 * n + k) 7 v) 3 32 j = a2.1 3 32 j := by simp [lr_r, lr_w]
      rw [this, u5]
      simp [lr_w]
    have r2 : ∀ (v w : Int32), lr_rd (lr_wr (lr_wr a2 7 (8 * n + k) 7 v) 7 (8 * n + k) 11 w) 3 32 4 = a.1 3 32 4 := by
      intro v w
      rw [← r1 v 4]
      simp [lr_r, lr_w]
    rw [lr_r a2 5, r1, f1, r2]
    rfl
theorem lr_wtw (t : lr_S) (k i j : Nat) (v w : Int32) : lr_wr (lr_wr t k i j v) k i j w = lr_wr t k i j w := by
  unfold lr_wr
  congr 1
  funext x y z
  by_cases h : x = k ∧ y = i ∧ z = j
  · rw [if_pos h, if_pos h]
  · rw [if_neg h, if_neg h]
    exact if_neg h
theorem lr_bpr {c ns np cnt tt : Nat} {ow : Nat → Nat} {a b : lr_S} (R : lr_Rel c ns np cnt tt ow a b) (M : lr_Mr ns ow a b) {n s k r : Nat} (hn : n < 4) (hs : s < 4) (hk : k < 8) (hr : r < 3) (f1 : a.1 3 32 1 = nI s) (hh : a.1 7 (8 * n + k) 0 = 2) : ∃ cnt2 a2 b2 nu, lr_G_Node_becomePending n (8 * n + k) 32 (lr_wr a 11 n r (nI k)) = some a2 ∧ lr_G_M_sendDirty (nI (8 * n + k)) (lr_wr (lr_wr b 34 0 (8 * n + k) 0) 33 0 (8 * n + k) (nI tt + 24)) = some (nu, b2) ∧ (∀ i j, b2.1 40 i j = b.1 40 i j) ∧ lr_Rel c ns np cnt2 tt ow a2 (lr_wr (lr_wr (lr_wr (lr_wr b2 31 0 (8 * n + k) nu) 35 0 (8 * n + k) (a.1 3 32 4)) 36 0 (8 * n + k) (nI s)) 22 0 (3 * n + r) (nI k)) := by
  have hq : 8 * n + k < 32 := by omega
  have hne : ¬ a.1 7 (8 * n + k) 0 = 0 := by rw [hh]; decide
  have R1 := lr_s_expiry (lr_s_good R hq 0) hq (nI tt + 24)
  have hh1 : (lr_wr (lr_wr a 7 (8 * n + k) 10 0) 7 (8 * n + k) 9 (nI tt + 24)).1 7 (8 * n + k) 0 = 2 := by simpa [lr_w] using hh
  obtain ⟨-, a3, b3, -, v2, -, -, -, v6, -, v8⟩ := lr_sd R1 hn hk hh1
  have R' := lr_s_root R hn hr (v := nI k) (Or.inr ⟨k, hk, rfl, hne⟩)
  have M' : lr_Mr ns ow (lr_wr a 11 n r (nI k)) (lr_wr b 22 0 (3 * n + r) (nI k)) := by
    refine ⟨fun j hj => ?_, ?_⟩
    · simpa [lr_w] using M.1 j hj
    · simpa [lr_w] using M.2
  obtain ⟨cnt2, a2, b2, nu, u1, u2, u3, u4⟩ := lr_bp R' M' hn hs hk (by simpa [lr_w] using f1) (by simpa [lr_w] using hh)
  have e1 := v8 (3 * n + r) (nI k)
  rw [lr_wc b (show ¬ 22 = 34 by decide), lr_wc _ (show ¬ 22 = 33 by decide), e1] at u4
  have e2 := Option.some.inj u4
  have e3 : a3.1 5 n 8 = nu := congrArg Prod.fst e2
  have e4 : lr_wr b3 22 0 (3 * n + r) (nI k) = b2 := congrArg Prod.snd e2
  refine ⟨cnt2, a2, b3, nu, u1, by rw [v2, e3], fun i j => ?_, ?_⟩
  · rw [v6]
    simp [lr_w]
  · rw [← e4, lr_wc b3 (show ¬ 22 = 31 by decide), lr_wc _ (show ¬ 22 = 35 by decide), lr_wc _ (show ¬ 22 = 36 by decide)] at u2
    have f4 : (lr_wr a 11 n r (nI k)).1 3 32 4 = a.1 3 32 4 := by simp [lr_w]
    rw [f4] at u2
    exact u2
