theorem lr_c0 : Int32.toNatClampNeg 0 = 0 := by decide
theorem lr_c1 : Int32.toNatClampNeg 1 = 1 := by decide
theorem lr_c2 : Int32.toNatClampNeg 2 = 2 := by decide
theorem lr_c3 : Int32.toNatClampNeg 3 = 3 := by decide
theorem lr_c4 : Int32.toNatClampNeg 4 = 4 := by decide
theorem lr_c5 : Int32.toNatClampNeg 5 = 5 := by decide
theorem lr_nb0 : vp_nar .boolean 0 = 0 := by decide
theorem lr_nb1 : vp_nar .boolean 1 = 1 := by decide
/-- the message that comes: the same on both sides -/
def lr_Mr (ns : Nat) (ow : Nat → Nat) (a b : lr_S) : Prop := (∀ j, j < 6 → b.1 40 0 j = a.1 3 32 j) ∧ lr_mv ns ow (fun j => a.1 3 32 j)
def lr_Out (c ns np tt : Nat) (ow : Nat → Nat) (gx gm : Option (Int32 × lr_S)) : Prop := ∃ r a2 b2 cnt2, gx = some (r, a2) ∧ gm = some (r, b2) ∧ (r = 0 ∨ r = 1) ∧ lr_Rel c ns np cnt2 tt ow a2 b2
theorem lr_o0 {c ns np cnt tt : Nat} {ow : Nat → Nat} {a b : lr_S} (R : lr_Rel c ns np cnt tt ow a b) : lr_Out c ns np tt ow (some (0, a)) (some (0, b)) := ⟨0, a, b, cnt, rfl, rfl, Or.inl rfl, R⟩
theorem lr_o1 {c ns np cnt tt : Nat} {ow : Nat → Nat} {a b : lr_S} (R : lr_Rel c ns np cnt tt ow a b) : lr_Out c ns np tt ow (some (1, a)) (some (1, b)) := ⟨1, a, b, cnt, rfl, rfl, Or.inr rfl, R⟩
/-- looking for a serial: both sides come to the same slot -/
theorem lr_find_rel {c ns np cnt tt : Nat} {ow : Nat → Nat} {a b : lr_S} (R : lr_Rel c ns np cnt tt ow a b) {n e : Nat} (hn : n < 4) (he : e < ns) {w : Int32} (hw : (w = 1 ∧ ow e = n) ∨ (w = 2 ∧ ¬ ow e = n)) :
    (lr_G_Node_slotWith n (nI e) a = some (-1, a) ∧ lr_G_M_find (nI n) w (nI e) b = some (-1, b)) ∨ ∃ k, k < 8 ∧ lr_G_Node_slotWith n (nI e) a = some (nI k, a) ∧ lr_G_M_find (nI n) w (nI e) b = some (nI (8 * n + k), b) ∧ a.1 7 (8 * n + k) 0 = w ∧ a.1 7 (8 * n + k) 1 = nI e := by
  obtain ⟨h1, h2, h3, h4, h5, h6, h7, h7v, h8, h9, h10, h11, h12, h13, h14, h15, h16, h17, h18, h19, h20, p1, p2, p3, p4, p5, h22, h23⟩ := id R
  have hns : ns ≤ 64 := by have := h3.2.2; have := h22.1; omega
  have key : ∀ k, k < 8 → ((¬ a.1 7 (8 * n + k) 0 = 0 ∧ a.1 7 (8 * n + k) 1 = nI e) ↔ (a.1 7 (8 * n + k) 0 = w ∧ a.1 7 (8 * n + k) 1 = nI e)) := by
    intro k hk
    obtain ⟨g1, g2⟩ := h14 n k hn hk
    constructor
    · rintro ⟨q1, q2⟩
      refine ⟨?_, q2⟩
      rcases h9 (8 * n + k) (by omega) with z | z | z
      · exact absurd z q1
      · obtain ⟨s, s1, s2, s3⟩ := g1 z
        rw [q2, nI_eq (by omega) (by omega)] at s2
        subst s2
        rcases hw with ⟨w1, w2⟩ | ⟨w1, w2⟩
        · rw [z, w1]
        · exact absurd s3 w2
      · obtain ⟨s, s1, s2, s3, s4⟩ := g2 z
        rw [q2, nI_eq (by omega) (by omega)] at s2
        subst s2
        rcases hw with ⟨w1, w2⟩ | ⟨w1, w2⟩
        · exact absurd w2 s3
        · rw [z, w1]
    · rintro ⟨q1, q2⟩
      refine ⟨fun z => ?_, q2⟩
      rw [z] at q1
      rcases hw with ⟨w1, w2⟩ | ⟨w1, w2⟩
      · rw [w1] at q1; exact absurd q1 (by decide)
      · rw [w1] at q1; exact absurd q1 (by decide)
  have hx := lr_x_slotWith a n (nI e)
  have hm := lr_m_find b hn w (nI e)
  have hs : lr_lf (fun k => decide (b.1 24 0 k = w ∧ b.1 25 0 k = nI e)) (8 * n) 8 = (lr_lf (fun k => decide (¬ a.1 7 (8 * n + k) 0 = 0 ∧ a.1 7 (8 * n + k) 1 = nI e)) 0 8).map (fun k => 8 * n + k) := by
    refine lr_lf_shift (8 * n) 8 0 (fun j _ hj => ?_)
    obtain ⟨g0, g1, -⟩ := h8 (8 * n + j) (by omega)
    rw [← g0, ← g1]
    exact decide_eq_decide.mpr (key j (by omega)).symm
  rw [hs] at hm
  cases hl : lr_lf (fun k => decide (¬ a.1 7 (8 * n + k) 0 = 0 ∧ a.1 7 (8 * n + k) 1 = nI e)) 0 8 with
  | none =>
    rw [hl] at hx hm
    exact Or.inl ⟨hx, hm⟩
  | some k =>
    rw [hl] at hx hm
    obtain ⟨-, hk, hk0, -⟩ := lr_lf_some 8 0 k hl
    have hk : k < 8 := by omega
    have q := (key k hk).mp (by simpa using hk0)
    exact Or.inr ⟨k, hk, hx, hm, q.1, q.2⟩
theorem lr_recv_clean {c ns np cnt tt : Nat} {ow : Nat → Nat} {a b : lr_S} (R : lr_Rel c ns np cnt tt ow a b) (M : lr_Mr ns ow a b) {n s e : Nat} (hn : n < 4) (hs : s < 4) (he : e < ns) (f1 : a.1 3 32 1 = nI s) (f3 : a.1 3 32 3 = nI e) (ho : ow e = n) : lr_Out c ns np tt ow (lr_G_Node_receiveClean n 32 a) (lr_G_M_cleanComes (nI n) (nI s) b) := by
  obtain ⟨h1, h2, h3, h4, h5, h6, h7, h7v, h8, h9, h10, h11, h12, h13, h14, h15, h16, h17, h18, h19, h20, p1, p2, p3, p4, p5, h22, h23⟩ := id R
  unfold lr_G_Node_receiveClean lr_G_M_cleanComes
  rw [lr_c3, lr_c4, lr_r b 40 0 3, M.1 3 (by decide), f3, lr_r a 3 32 3, f3]
  rcases lr_find_rel R hn he (w := 1) (Or.inl ⟨rfl, ho⟩) with ⟨e1, e2⟩ | ⟨k, hk, e1, e2, e3, e4⟩
  · rw [e1, e2]
    exact lr_o0 R
  · rw [e1, e2, lr_bs (nI k, a), lr_bs (nI (8 * n + k), b), if_neg (lr_n1 (by omega)), if_neg (lr_nneg (m := 8 * n + k) (by omega)), if_pos (lr_nin hk (by decide)), lr_r a 3 32 1, f1, if_pos (lr_nin hs (by decide)), lr_mul 4 (m := 4) rfl, nI_add, if_pos (lr_nin (by omega) (by decide)), lr_ncl (m := k) (by omega), lr_ncl (m := s) (by omega), lr_ncl (m := 4 * (8 * n + k) + s) (by omega), lr_r a 9, lr_r a 3 32 4, lr_r b 28, lr_r b 40, M.1 4 (by decide), ← h12 (8 * n + k) s (by omega) hs]
    by_cases q : a.1 9 (8 * n + k) s < a.1 3 32 4
    · rw [if_pos q, if_pos q, lr_bs, lr_bs]
      have r1 : lr_rd (lr_wr a 9 (8 * n + k) s (a.1 3 32 4)) 3 32 1 = nI s := by simpa [lr_r, lr_w] using f1
      have r2 : lr_rd (lr_wr a 9 (8 * n + k) s (a.1 3 32 4)) 1 0 0 = nI tt := by simpa [lr_r, lr_w] using h1.1
      rw [r1, r2, if_pos (lr_nin hs (by decide)), lr_ncl (m := s) (by omega), lr_bs]
      exact lr_o1 (lr_s_until (lr_s_last R (by omega) hs _) (by omega) hs (Or.inr ⟨tt, 0, Nat.le_refl _, Nat.zero_le _, rfl, rfl⟩))
    · rw [if_neg q, if_neg q]
      exact lr_o0 R
theorem lr_recv_dirty {c ns np cnt tt : Nat} {ow : Nat → Nat} {a b : lr_S} (R : lr_Rel c ns np cnt tt ow a b) (M : lr_Mr ns ow a b) {n s e : Nat} (hn : n < 4) (hs : s < 4) (he : e < ns) (f1 : a.1 3 32 1 = nI s) (f3 : a.1 3 32 3 = nI e) (ho : ow e = n) (hne : ¬ s = ow e) : lr_Out c ns np tt ow (lr_G_Node_receiveDirty n 32 a) (lr_G_M_dirtyComes (nI n) (nI s) b) := by
  obtain ⟨h1, h2, h3, h4, h5, h6, h7, h7v, h8, h9, h10, h11, h12, h13, h14, h15, h16, h17, h18, h19, h20, p1, p2, p3, p4, p5, h22, h23⟩ := id R
  have hmv : ∀ kd, kd = 3 ∨ kd = 4 → lr_mv ns ow (lr_f6 (nI kd) (nI n) (nI s) (nI e) (a.1 3 32 4) (a.1 3 32 5)) := by
    intro kd hkd
    refine ⟨kd, n, s, by omega, hn, hs, rfl, rfl, rfl, fun z => by omega, fun z => by omega, fun z => by omega, fun _ => ⟨e, he, rfl, hne⟩⟩
  have hid := h5 n hn
  unfold lr_G_Node_receiveDirty lr_G_M_dirtyComes
  rw [lr_c3, lr_c4, lr_c5, lr_r b 40 0 3, M.1 3 (by decide), f3, lr_r a 3 32 3, f3, lr_r a 3 32 1, f1]
  rcases lr_find_rel R hn he (w := 1) (Or.inl ⟨rfl, ho⟩) with ⟨e1, e2⟩ | ⟨k, hk, e1, e2, e3, e4⟩
  · rw [e1, e2, lr_bs ((-1 : Int32), a), lr_bs ((-1 : Int32), b), if_pos rfl, if_neg (show ¬ (0 : Int32) ≤ -1 by decide)]
    obtain ⟨cnt2, a2, b2, g1, g2, g3, -, -⟩ := lr_send R (hmv 4 (Or.inr rfl))
    refine ⟨1, a2, b2, cnt2, ?_, ?_, Or.inr rfl, g3⟩
    · rw [lr_r a 5, hid, lr_r a 3 32 3, f3, lr_r a 3 32 4, lr_r a 3 32 5, show lr_G_Network_send (4 : Int32) (nI n) (nI s) (nI e) (a.1 3 32 4) (a.1 3 32 5) a = some a2 from g1]
      rfl
    · rw [lr_r b 40 0 3, M.1 3 (by decide), f3, lr_r b 40 0 4, M.1 4 (by decide), lr_r b 40 0 5, M.1 5 (by decide), show lr_G_M_send (4 : Int32) (nI n) (nI s) (nI e) (a.1 3 32 4) (a.1 3 32 5) b = some b2 from g2]
      rfl
  · rw [e1, e2, lr_bs (nI k, a), lr_bs (nI (8 * n + k), b), if_neg (lr_n1 (by omega)), if_pos (nI_pos' (n := 8 * n + k) (by omega)), if_pos (lr_nin hk (by decide)), if_pos (lr_nin hs (by decide)), lr_mul 4 (m := 4) rfl, nI_add, if_pos (lr_nin (by omega) (by decide)), lr_ncl (m := k) (by omega), lr_ncl (m := s) (by omega), lr_ncl (m := 4 * (8 * n + k) + s) (by omega), lr_r a 9, lr_r a 3 32 4, lr_r b 28, lr_r b 40 0 4, M.1 4 (by decide), ← h12 (8 * n + k) s (by omega) hs]
    by_cases q : a.1 3 32 4 ≤ a.1 9 (8 * n + k) s
    · rw [if_pos q, if_pos q, lr_r a 1, lr_r a 10, lr_r b 20, lr_r b 29, h1.1, h1.2.1]
      have hu : (nI tt < a.1 10 (8 * n + k) s) ↔ ¬ (b.1 29 0 (4 * (8 * n + k) + s) ≤ nI tt) := by
        rw [Int32.not_le]
        rcases h13 (8 * n + k) s (by omega) hs with g | ⟨x, y, hx, hy, gx, gy⟩
        · rw [g]
        · have := h1.2.2
          have := h22.1
          rw [gx, gy, nI_ltI (by omega) (by omega), nI_ltI (by omega) (by omega)]
          omega
      by_cases g : nI tt < a.1 10 (8 * n + k) s
      · rw [if_pos g, if_neg (hu.mp g)]
        obtain ⟨cnt2, a2, b2, g1, g2, g3, -, -⟩ := lr_send R (hmv 3 (Or.inl rfl))
        refine ⟨1, a2, b2, cnt2, ?_, ?_, Or.inr rfl, g3⟩
        · rw [lr_r a 5, hid, lr_r a 3 32 3, f3, lr_r a 3 32 5, show lr_G_Network_send (3 : Int32) (nI n) (nI s) (nI e) (a.1 3 32 4) (a.1 3 32 5) a = some a2 from g1]
          rfl
        · rw [lr_r b 40 0 3, M.1 3 (by decide), f3, lr_r b 40 0 5, M.1 5 (by decide), show lr_G_M_send (3 : Int32) (nI n) (nI s) (nI e) (a.1 3 32 4) (a.1 3 32 5) b = some b2 from g2]
          rfl
      · rw [if_neg g, if_pos (Decidable.not_not.mp (fun z => g (hu.mpr z)))]
        exact lr_o0 R
    · rw [if_neg q, if_neg q, lr_bs, lr_bs, lr_bs, lr_bs]
      have ck : lr_rd (lr_wr a 9 (8 * n + k) s (a.1 3 32 4)) 1 0 0 = nI tt := by simpa [lr_r, lr_w] using h1.1
      have cm : lr_rd (lr_wr b 28 0 (4 * (8 * n + k) + s) (a.1 3 32 4)) 20 0 0 = nI tt := by simpa [lr_r, lr_w] using h1.2.1
      have R2 := lr_s_until (lr_s_last R (q := 8 * n + k) (by omega) hs (a.1 3 32 4)) (q := 8 * n + k) (d := s) (v := nI tt + 24) (w := nI tt + 24) (by omega) hs (Or.inl rfl)
      have r3 : ∀ j, lr_rd (lr_wr (lr_wr a 9 (8 * n + k) s (a.1 3 32 4)) 10 (8 * n + k) s (nI tt + 24)) 3 32 j = a.1 3 32 j := fun j => by simp [lr_r, lr_w]
      have r5 : lr_rd (lr_wr (lr_wr a 9 (8 * n + k) s (a.1 3 32 4)) 10 (8 * n + k) s (nI tt + 24)) 5 n 0 = nI n := by simpa [lr_r, lr_w] using hid
      have r6 : ∀ j, lr_rd (lr_wr (lr_wr b 28 0 (4 * (8 * n + k) + s) (a.1 3 32 4)) 29 0 (4 * (8 * n + k) + s) (nI tt + 24)) 40 0 j = b.1 40 0 j := fun j => by simp [lr_r, lr_w]
      have ltt : nI tt < nI tt + 24 := by
        have := h1.2.2
        have := h22.1
        rw [show nI tt + 24 = nI (tt + 24) from nI_add tt 24, nI_ltI (by omega) (by omega)]
        omega
      obtain ⟨cnt2, a2, b2, g1, g2, g3, -, -⟩ := lr_send R2 (hmv 3 (Or.inl rfl))
      refine ⟨1, a2, b2, cnt2, ?_, ?_, Or.inr rfl, g3⟩
      · rw [ck, r3, r3, r3, r5, f3, show lr_G_Network_send (3 : Int32) (nI n) (nI s) (nI e) (a.1 3 32 4) (a.1 3 32 5) _ = some a2 from g1]
        rfl
      · rw [cm]
        have r7 : lr_rd (lr_wr (lr_wr b 28 0 (4 * (8 * n + k) + s) (a.1 3 32 4)) 29 0 (4 * (8 * n + k) + s) (nI tt + 24)) 29 0 (4 * (8 * n + k) + s) = nI tt + 24 := by simp [lr_r, lr_w]
        have r8 : lr_rd (lr_wr (lr_wr b 28 0 (4 * (8 * n + k) + s) (a.1 3 32 4)) 29 0 (4 * (8 * n + k) + s) (nI tt + 24)) 20 0 0 = nI tt := by simpa [lr_r, lr_w] using h1.2.1
        rw [r7, r8, if_neg (Int32.not_le.mpr ltt), r6, r6, r6, M.1 3 (by decide), M.1 4 (by decide), M.1 5 (by decide), f3, show lr_G_M_send (3 : Int32) (nI n) (nI s) (nI e) (a.1 3 32 4) (a.1 3 32 5) _ = some b2 from g2]
        rfl
