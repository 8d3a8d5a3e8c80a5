theorem lr_sm_c (b : lr_S) (cnt : Nat) (f0 f1 f2 f3 f4 f5 : Int32) {K z : Nat} (v : Int32) (hK : ¬ K = 38) (hK2 : ¬ K = 20) : lr_sm (lr_wr b K 0 z v) cnt f0 f1 f2 f3 f4 f5 = lr_wr (lr_sm b cnt f0 f1 f2 f3 f4 f5) K 0 z v := by
  unfold lr_sm
  rw [lr_wc b hK, lr_wc _ hK, lr_wc _ hK, lr_wc _ hK, lr_wc _ hK, lr_wc _ hK, lr_wc _ hK2]
theorem lr_m_send_c {b : lr_S} {cnt : Nat} (h : b.1 20 0 19 = nI cnt) (hc : cnt ≤ 32) (f0 f1 f2 f3 f4 f5 : Int32) {K : Nat} (z : Nat) (v : Int32) (hK : ¬ K = 38) (hK2 : ¬ K = 20) : ∃ b2, lr_G_M_send f0 f1 f2 f3 f4 f5 b = some b2 ∧ lr_G_M_send f0 f1 f2 f3 f4 f5 (lr_wr b K 0 z v) = some (lr_wr b2 K 0 z v) := by
  have h' : (lr_wr b K 0 z v).1 20 0 19 = nI cnt := by
    rw [lr_w, if_neg (fun q => hK2 q.1.symm)]
    exact h
  by_cases e : cnt < 32
  · exact ⟨_, lr_m_send h e _ _ _ _ _ _, by rw [lr_m_send h' e, lr_sm_c _ _ _ _ _ _ _ _ _ hK hK2]⟩
  · obtain rfl : cnt = 32 := by omega
    exact ⟨b, lr_m_send32 h _ _ _ _ _ _, lr_m_send32 h' _ _ _ _ _ _⟩
theorem lr_m_nn {b : lr_S} {n : Nat} (hn : n < 4) : lr_G_M_nextNumber (nI n) b = some (b.1 23 0 n + 1, lr_wr b 23 0 n (b.1 23 0 n + 1)) := by
  unfold lr_G_M_nextNumber
  rw [if_pos (lr_nin hn (by decide)), lr_ncl (by omega), lr_r b 23, lr_r]
  simp [lr_w]
/-- a DIRTY is sent: on both sides the same -/
theorem lr_sd {c ns np cnt tt : Nat} {ow : Nat → Nat} {a b : lr_S} (R : lr_Rel c ns np cnt tt ow a b) {n k : Nat} (hn : n < 4) (hk : k < 8) (hh : a.1 7 (8 * n + k) 0 = 2) : ∃ cnt2 a2 b2, lr_G_Node_sendDirty n (8 * n + k) a = some a2 ∧ lr_G_M_sendDirty (nI (8 * n + k)) b = some (a2.1 5 n 8, b2) ∧ lr_Rel c ns np cnt2 tt ow a2 b2 ∧ (∀ K i j, ¬ K = 1 → ¬ K = 3 → ¬ K = 5 → ¬ (K = 7 ∧ j = 8) → a2.1 K i j = a.1 K i j) ∧ (∀ j, a2.1 3 32 j = a.1 3 32 j) ∧ (∀ i j, b2.1 40 i j = b.1 40 i j) ∧ b2.1 32 0 (8 * n + k) = nI tt ∧ ∀ z v, lr_G_M_sendDirty (nI (8 * n + k)) (lr_wr b 22 0 z v) = some (a2.1 5 n 8, lr_wr b2 22 0 z v) := by
  obtain ⟨h1, h2, h3, h4, h5, h6, h7, h7v, h8, h9, h10, h11, h12, h13, h14, h15, h16, h17, h18, h19, h20, p1, p2, p3, p4, p5, h22, h23⟩ := id R
  have hq : 8 * n + k < 32 := by omega
  obtain ⟨g0, g1, g2, g6, g7, g8, g9, g10, g11, g12⟩ := h8 (8 * n + k) hq
  obtain ⟨e, he, se, one, oe⟩ := (h14 n k hn hk).2 hh
  have hnum := (h6 n hn).1
  have R1 := lr_s_num R hn (a.1 5 n 8 + 1)
  have R2 := lr_s_sent R1 hq (nI tt)
  have hmv : lr_mv ns ow (lr_f6 2 (nI n) (nI (ow e)) (nI e) (a.1 5 n 8 + 1) (nI tt)) := ⟨2, n, ow e, by omega, hn, h22.2 e, rfl, rfl, rfl, fun z => by omega, fun _ => ⟨e, he, rfl, rfl, fun z => one z.symm⟩, fun z => by omega, fun z => by omega⟩
  obtain ⟨cnt2, a2, b2, u1, u2, u3, u4, u5⟩ := lr_send R2 hmv
  have hcnt : (lr_wr b 23 0 n (a.1 5 n 8 + 1)).1 20 0 19 = nI cnt := by
    rw [lr_w, if_neg (fun z => absurd z.1 (by decide))]
    exact h2.2.1
  obtain ⟨b1, w1, w2⟩ := lr_m_send_c hcnt h2.2.2 2 (nI n) (nI (ow e)) (nI e) (a.1 5 n 8 + 1) (nI tt) (K := 32) (8 * n + k) (nI tt) (by decide) (by decide)
  have eb : b2 = lr_wr b1 32 0 (8 * n + k) (nI tt) := Option.some.inj (u2.symm.trans w2)
  have hnu : a2.1 5 n 8 = a.1 5 n 8 + 1 := by
    rw [u4.1 5 n 8 (by decide) (by decide)]
    simp [lr_w]
  have hck1 : b1.1 20 0 0 = nI tt := by
    have hc2 : (lr_wr b 23 0 n (a.1 5 n 8 + 1)).1 20 0 0 = nI tt := by simpa [lr_w] using h1.2.1
    by_cases z : cnt < 32
    · rw [lr_m_send hcnt z] at w1
      rw [← Option.some.inj w1, lr_sm_ne _ _ _ _ _ _ _ _ (fun q => absurd q.1 (by decide)) (fun q => absurd q.2.2 (by decide))]
      exact hc2
    · obtain rfl : cnt = 32 := by have := h2.2.2; omega
      rw [lr_m_send32 hcnt] at w1
      rw [← Option.some.inj w1]
      exact hc2
  have hbs : ∀ (bb : lr_S), bb.1 23 0 n = a.1 5 n 8 → bb.1 30 0 (8 * n + k) = nI (ow e) → bb.1 25 0 (8 * n + k) = nI e → bb.1 20 0 0 = nI tt → ∀ bb1, lr_G_M_send 2 (nI n) (nI (ow e)) (nI e) (a.1 5 n 8 + 1) (nI tt) (lr_wr bb 23 0 n (a.1 5 n 8 + 1)) = some bb1 → bb1.1 20 0 0 = nI tt → lr_G_M_sendDirty (nI (8 * n + k)) bb = some (a.1 5 n 8 + 1, lr_wr bb1 32 0 (8 * n + k) (nI tt)) := by
    intro bb q1 q2 q3 q4 bb1 q5 q6
    unfold lr_G_M_sendDirty
    rw [lr_div8 (by omega), show (8 * n + k) / 8 = n by omega, lr_m_nn hn, lr_bs, if_pos (lr_nin hq (by decide)), lr_ncl (by omega), q1]
    have r1 : lr_rd (lr_wr bb 23 0 n (a.1 5 n 8 + 1)) 30 0 (8 * n + k) = nI (ow e) := by simpa [lr_r, lr_w] using q2
    have r2 : lr_rd (lr_wr bb 23 0 n (a.1 5 n 8 + 1)) 25 0 (8 * n + k) = nI e := by simpa [lr_r, lr_w] using q3
    have r3 : lr_rd (lr_wr bb 23 0 n (a.1 5 n 8 + 1)) 20 0 0 = nI tt := by simpa [lr_r, lr_w] using q4
    rw [r1, r2, r3, q5, lr_bs, lr_r bb1, q6]
  refine ⟨cnt2, a2, b2, ?_, ?_, u3, ?_, ?_, ?_, ?_, ?_⟩
  · unfold lr_G_Node_sendDirty
    have r0 : lr_rd (lr_wr a 5 n 8 (a.1 5 n 8 + 1)) 1 0 0 = nI tt := by simpa [lr_r, lr_w] using h1.1
    rw [lr_r a 5 n 8, r0, lr_bs]
    have r1 : lr_rd (lr_wr (lr_wr a 5 n 8 (a.1 5 n 8 + 1)) 7 (8 * n + k) 8 (nI tt)) 5 n 0 = nI n := by simpa [lr_r, lr_w] using h5 n hn
    have r2 : lr_rd (lr_wr (lr_wr a 5 n 8 (a.1 5 n 8 + 1)) 7 (8 * n + k) 8 (nI tt)) 7 (8 * n + k) 6 = nI (ow e) := by simpa [lr_r, lr_w] using oe
    have r3 : lr_rd (lr_wr (lr_wr a 5 n 8 (a.1 5 n 8 + 1)) 7 (8 * n + k) 8 (nI tt)) 7 (8 * n + k) 1 = nI e := by simpa [lr_r, lr_w] using se
    have r4 : lr_rd (lr_wr (lr_wr a 5 n 8 (a.1 5 n 8 + 1)) 7 (8 * n + k) 8 (nI tt)) 5 n 8 = a.1 5 n 8 + 1 := by simp [lr_r, lr_w]
    have r5 : lr_rd (lr_wr (lr_wr a 5 n 8 (a.1 5 n 8 + 1)) 7 (8 * n + k) 8 (nI tt)) 1 0 0 = nI tt := by simpa [lr_r, lr_w] using h1.1
    rw [r1, r2, r3, r4, r5, u1]
    rfl
  · rw [hnu, eb]
    exact hbs b hnum.symm (by rw [← g6]; exact oe) (by rw [← g1]; exact se) h1.2.1 b1 w1 hck1
  · intro K i j z1 z2 z3 z4
    rw [u4.1 K i j z2 (fun q => z1 q.1), lr_w, if_neg (fun q => z4 ⟨q.1, q.2.2⟩), lr_w, if_neg (fun q => z3 q.1)]
  · intro j
    rw [u4.2.1 32 j (by decide)]
    simp [lr_w]
  · intro i j
    rw [u5 40 i j (by decide) (fun q => absurd q.1 (by decide))]
    simp [lr_w]
  · rw [u5 32 0 _ (by decide) (fun q => absurd q.1 (by decide))]
    simp [lr_w]
  · intro z v
    obtain ⟨b4, x1, x2⟩ := lr_m_send_c hcnt h2.2.2 2 (nI n) (nI (ow e)) (nI e) (a.1 5 n 8 + 1) (nI tt) (K := 22) z v (by decide) (by decide)
    have e4 : b4 = b1 := Option.some.inj (x1.symm.trans w1)
    subst e4
    have := hbs (lr_wr b 22 0 z v) (by rw [lr_w, if_neg (fun q => absurd q.1 (by decide))]; exact hnum.symm) (by rw [lr_w, if_neg (fun q => absurd q.1 (by decide)), ← g6]; exact oe) (by rw [lr_w, if_neg (fun q => absurd q.1 (by decide)), ← g1]; exact se) (by rw [lr_w, if_neg (fun q => absurd q.1 (by decide))]; exact h1.2.1) (lr_wr b4 22 0 z v) (by rw [lr_wc b (by decide)]; exact x2) (by rw [lr_w, if_neg (fun q => absurd q.1 (by decide))]; exact hck1)
    rw [this, hnu, eb, lr_wc b4 (by decide)]
theorem lr_recv_call {c ns np cnt tt : Nat} {ow : Nat → Nat} {a b : lr_S} (R : lr_Rel c ns np cnt tt ow a b) (M : lr_Mr ns ow a b) {n s e m : Nat} (hn : n < 4) (hs : s < 4) (he : e < ns) (f1 : a.1 3 32 1 = nI s) (f3 : a.1 3 32 3 = nI e) (ho : ow e = n) (hm : 1 ≤ m) (hm2 : m < 1000) (f4 : a.1 3 32 4 = nI m) : lr_Out c ns np tt ow (lr_G_Node_receiveCall n 32 a) (lr_G_M_callComes (nI n) (nI s) b) := by
  obtain ⟨h1, h2, h3, h4, h5, h6, h7, h7v, h8, h9, h10, h11, h12, h13, h14, h15, h16, h17, h18, h19, h20, p1, p2, p3, p4, p5, h22, h23⟩ := id R
  obtain ⟨k4, k0, k3, k5, kk⟩ := h17 n s hn hs
  have mvr : ∀ (kd : Int32) (se nu ex : Int32), (kd = nI 7 ∨ kd = nI 8) → lr_mv ns ow (lr_f6 kd (nI n) (nI s) se nu ex) := by
    rintro kd se nu ex (rfl | rfl)
    · exact ⟨7, n, s, by omega, hn, hs, rfl, rfl, rfl, fun z => by omega, fun z => by omega, fun z => by omega, fun z => by omega⟩
    · exact ⟨8, n, s, by omega, hn, hs, rfl, rfl, rfl, fun z => by omega, fun z => by omega, fun z => by omega, fun z => by omega⟩
  unfold lr_G_Node_receiveCall lr_G_M_callComes
  rw [lr_c3, lr_c4, lr_c5, lr_r a 3 32 1, f1, if_pos (lr_nin hs (by decide)), lr_ncl (m := s) (by omega), lr_mul 4 (m := 4) rfl, nI_add, if_pos (lr_nin (by omega) (by decide)), lr_ncl (m := 4 * n + s) (by omega), lr_r b 51, ← k4, lr_r b 40 0 4, M.1 4 (by decide), lr_r a 3 32 4, lr_r a 3 (33 + 4 * n + s) 4]
  by_cases q : a.1 3 (33 + 4 * n + s) 4 ≤ a.1 3 32 4
  rotate_left
  · rw [if_neg q, if_neg q]
    exact lr_o0 R
  rw [if_pos q, if_pos q]
  by_cases q2 : a.1 3 32 4 ≤ a.1 3 (33 + 4 * n + s) 4
  · rw [if_pos q2, if_pos q2, lr_r b 52, lr_r b 53, lr_r b 54, ← k0, ← k3, ← k5]
    have heq : a.1 3 32 4 = a.1 3 (33 + 4 * n + s) 4 := Int32.le_antisymm q2 q
    have hne : ¬ a.1 3 (33 + 4 * n + s) 4 = 0 := by
      rw [← heq, f4]
      exact nI_ne0 (by omega) (by omega)
    obtain ⟨r1, r2, r3⟩ := kk hne
    unfold lr_G_Network_sendAgain
    rw [lr_r a 3 _ 0, lr_r a 3 _ 1, lr_r a 3 _ 2, lr_r a 3 _ 3, lr_r a 3 _ 4, lr_r a 3 _ 5, r1, r2]
    obtain ⟨cnt2, a2, b2, u1, u2, u3, -, -⟩ := lr_send R (mvr (a.1 3 (33 + 4 * n + s) 0) (a.1 3 (33 + 4 * n + s) 3) (a.1 3 (33 + 4 * n + s) 4) (a.1 3 (33 + 4 * n + s) 5) r3)
    rw [u1, u2]
    exact lr_o1 u3
  · rw [if_neg q2, if_neg q2]
    -- the reply is written, kept, sent
    have fin : ∀ (A B : lr_S) (cn : Nat) (kd ex : Int32), lr_Rel c ns np cn tt ow A B → (kd = nI 7 ∨ kd = nI 8) → lr_Out c ns np tt ow ((lr_G_Network_sendAgain (33 + 4 * n + s) (lr_row A (33 + 4 * n + s) kd (nI n) (nI s) (nI e) (a.1 3 32 4) ex)).bind fun u8 => some (1, u8)) ((lr_G_M_send kd (nI n) (nI s) (nI e) (a.1 3 32 4) ex (lr_dm B (4 * n + s) kd (nI e) (a.1 3 32 4) ex)).bind fun u => some (1, u)) := by
      intro A B cn kd ex RA hk
      have R3 := lr_s_reply RA hn hs (se := nI e) (nu := a.1 3 32 4) (ex := ex) hk
      obtain ⟨cnt2, a2, b2, u1, u2, u3, -, -⟩ := lr_send R3 (mvr kd (nI e) (a.1 3 32 4) ex hk)
      unfold lr_G_Network_sendAgain
      rw [lr_r _ 3 _ 0, lr_r _ 3 _ 1, lr_r _ 3 _ 2, lr_r _ 3 _ 3, lr_r _ 3 _ 4, lr_r _ 3 _ 5, lr_row_at _ _ _ _ _ _ _ _ (show 0 < 6 by decide), lr_row_at _ _ _ _ _ _ _ _ (show 1 < 6 by decide), lr_row_at _ _ _ _ _ _ _ _ (show 2 < 6 by decide), lr_row_at _ _ _ _ _ _ _ _ (show 3 < 6 by decide), lr_row_at _ _ _ _ _ _ _ _ (show 4 < 6 by decide), lr_row_at _ _ _ _ _ _ _ _ (show 5 < 6 by decide)]
      rw [show lr_G_Network_send (lr_f6 kd (nI n) (nI s) (nI e) (a.1 3 32 4) ex 0) (lr_f6 kd (nI n) (nI s) (nI e) (a.1 3 32 4) ex 1) (lr_f6 kd (nI n) (nI s) (nI e) (a.1 3 32 4) ex 2) (lr_f6 kd (nI n) (nI s) (nI e) (a.1 3 32 4) ex 3) (lr_f6 kd (nI n) (nI s) (nI e) (a.1 3 32 4) ex 4) (lr_f6 kd (nI n) (nI s) (nI e) (a.1 3 32 4) ex 5) _ = some a2 from u1, u2]
      exact lr_o1 u3
    unfold lr_G_Node_carryOut
    rw [lr_r b 40 0 3, M.1 3 (by decide), f3, lr_r a 3 32 3, f3]
    rcases lr_find_rel R hn he (w := 1) (Or.inl ⟨rfl, ho⟩) with ⟨e1, e2⟩ | ⟨k, hk, e1, e2, e3, e4⟩
    · rw [e1, e2, lr_bs ((-1 : Int32), a), lr_bs ((-1 : Int32), b), if_pos rfl, if_pos (show (-1 : Int32) < 0 by decide)]
      have := fin a b cnt (nI 8) 0 R (Or.inr rfl)
      have x1 : ((lr_G_Message_write (33 + 4 * n + s) 8 (lr_rd ((-1 : Int32), a).2 5 n 0) (lr_rd ((-1 : Int32), a).2 3 32 1) (lr_rd ((-1 : Int32), a).2 3 32 3) (lr_rd ((-1 : Int32), a).2 3 32 4) 0 ((-1 : Int32), a).2).bind fun u9 => some u9) = some (lr_row a (33 + 4 * n + s) (nI 8) (nI n) (nI s) (nI e) (a.1 3 32 4) 0) := by
        rw [lr_r _ 5, lr_r _ 3 32 1, lr_r _ 3 32 3, lr_r _ 3 32 4, show (((-1 : Int32), a).2).1 5 n 0 = nI n from h5 n hn, show (((-1 : Int32), a).2).1 3 32 1 = nI s from f1, show (((-1 : Int32), a).2).1 3 32 3 = nI e from f3]
        rfl
      rw [x1, lr_bs]
      have y0 : ∀ j, lr_rd b 40 0 j = b.1 40 0 j := fun j => rfl
      have y1 : lr_rd (lr_wr b 51 0 (4 * n + s) (lr_rd b 40 0 4)) 40 0 3 = nI e := by rw [← f3, ← M.1 3 (by decide)]; simp [lr_r, lr_w]
      rw [lr_bs, lr_bs, lr_bs, y1, y0, M.1 4 (by decide)]
      have z1 : lr_rd (lr_wr (lr_wr (lr_wr (lr_wr b 51 0 (4 * n + s) (a.1 3 32 4)) 53 0 (4 * n + s) (nI e)) 52 0 (4 * n + s) 8) 54 0 (4 * n + s) 0) 52 0 (4 * n + s) = nI 8 := by simp [lr_r, lr_w]; rfl
      have z2 : lr_rd (lr_wr (lr_wr (lr_wr (lr_wr b 51 0 (4 * n + s) (a.1 3 32 4)) 53 0 (4 * n + s) (nI e)) 52 0 (4 * n + s) 8) 54 0 (4 * n + s) 0) 53 0 (4 * n + s) = nI e := by simp [lr_r, lr_w]
      have z3 : lr_rd (lr_wr (lr_wr (lr_wr (lr_wr b 51 0 (4 * n + s) (a.1 3 32 4)) 53 0 (4 * n + s) (nI e)) 52 0 (4 * n + s) 8) 54 0 (4 * n + s) 0) 51 0 (4 * n + s) = a.1 3 32 4 := by simp [lr_r, lr_w]
      have z4 : lr_rd (lr_wr (lr_wr (lr_wr (lr_wr b 51 0 (4 * n + s) (a.1 3 32 4)) 53 0 (4 * n + s) (nI e)) 52 0 (4 * n + s) 8) 54 0 (4 * n + s) 0) 54 0 (4 * n + s) = 0 := by simp [lr_r, lr_w]
      rw [z1, z2, z3, z4]
      exact this
    · have hq : 8 * n + k < 32 := by omega
      obtain ⟨g0, g1, g2, -⟩ := h8 (8 * n + k) hq
      rw [e1, e2, lr_bs (nI k, a), lr_bs (nI (8 * n + k), b), if_neg (lr_n1 (by omega)), if_neg (lr_nneg (m := 8 * n + k) (by omega)), if_pos (lr_nin hk (by decide)), if_pos (lr_nin (m := 8 * n + k) (N := 32) hq (by decide)), lr_ncl (m := k) (by omega), lr_ncl (m := 8 * n + k) (by omega), lr_r a 7, lr_r a 3 32 5, lr_r b 26, ← g2, lr_r b 40 0 5, M.1 5 (by decide)]
      have R1 := lr_s_value R hq (a.1 7 (8 * n + k) 2 + a.1 3 32 5)
      have := fin _ _ cnt (nI 7) (a.1 7 (8 * n + k) 2 + a.1 3 32 5) R1 (Or.inl rfl)
      rw [lr_bs (lr_wr a 7 (8 * n + k) 2 (a.1 7 (8 * n + k) 2 + a.1 3 32 5))]
      have t5 : ∀ j, lr_rd (lr_wr a 7 (8 * n + k) 2 (a.1 7 (8 * n + k) 2 + a.1 3 32 5)) 3 32 j = a.1 3 32 j := fun j => by simp [lr_r, lr_w]
      have t6 : lr_rd (lr_wr a 7 (8 * n + k) 2 (a.1 7 (8 * n + k) 2 + a.1 3 32 5)) 5 n 0 = nI n := by simpa [lr_r, lr_w] using h5 n hn
      have t7 : lr_rd (lr_wr a 7 (8 * n + k) 2 (a.1 7 (8 * n + k) 2 + a.1 3 32 5)) 7 (8 * n + k) 2 = a.1 7 (8 * n + k) 2 + a.1 3 32 5 := by simp [lr_r, lr_w]
      rw [t5, t5, t5, t6, t7, f1, f3]
      have x1 : ((lr_G_Message_write (33 + 4 * n + s) 7 (nI n) (nI s) (nI e) (a.1 3 32 4) (a.1 7 (8 * n + k) 2 + a.1 3 32 5) (lr_wr a 7 (8 * n + k) 2 (a.1 7 (8 * n + k) 2 + a.1 3 32 5))).bind fun u7 => some u7) = some (lr_row (lr_wr a 7 (8 * n + k) 2 (a.1 7 (8 * n + k) 2 + a.1 3 32 5)) (33 + 4 * n + s) (nI 7) (nI n) (nI s) (nI e) (a.1 3 32 4) (a.1 7 (8 * n + k) 2 + a.1 3 32 5)) := rfl
      rw [x1, lr_bs]
      generalize hv : a.1 7 (8 * n + k) 2 + a.1 3 32 5 = v at this ⊢
      have y0 : lr_rd (lr_wr b 26 0 (8 * n + k) v) 40 0 4 = a.1 3 32 4 := by rw [← M.1 4 (by decide)]; simp [lr_r, lr_w]
      have y1 : lr_rd (lr_wr (lr_wr b 26 0 (8 * n + k) v) 51 0 (4 * n + s) (a.1 3 32 4)) 40 0 3 = nI e := by rw [← f3, ← M.1 3 (by decide)]; simp [lr_r, lr_w]
      have y2 : lr_rd (lr_wr (lr_wr (lr_wr (lr_wr b 26 0 (8 * n + k) v) 51 0 (4 * n + s) (a.1 3 32 4)) 53 0 (4 * n + s) (nI e)) 52 0 (4 * n + s) 7) 26 0 (8 * n + k) = v := by simp [lr_r, lr_w]
      rw [lr_bs, lr_bs, lr_bs, lr_bs, y0, y1, y2]
      have z1 : lr_rd (lr_wr (lr_wr (lr_wr (lr_wr (lr_wr b 26 0 (8 * n + k) v) 51 0 (4 * n + s) (a.1 3 32 4)) 53 0 (4 * n + s) (nI e)) 52 0 (4 * n + s) 7) 54 0 (4 * n + s) v) 52 0 (4 * n + s) = nI 7 := by simp [lr_r, lr_w]; rfl
      have z2 : lr_rd (lr_wr (lr_wr (lr_wr (lr_wr (lr_wr b 26 0 (8 * n + k) v) 51 0 (4 * n + s) (a.1 3 32 4)) 53 0 (4 * n + s) (nI e)) 52 0 (4 * n + s) 7) 54 0 (4 * n + s) v) 53 0 (4 * n + s) = nI e := by simp [lr_r, lr_w]
      have z3 : lr_rd (lr_wr (lr_wr (lr_wr (lr_wr (lr_wr b 26 0 (8 * n + k) v) 51 0 (4 * n + s) (a.1 3 32 4)) 53 0 (4 * n + s) (nI e)) 52 0 (4 * n + s) 7) 54 0 (4 * n + s) v) 51 0 (4 * n + s) = a.1 3 32 4 := by simp [lr_r, lr_w]
      have z4 : lr_rd (lr_wr (lr_wr (lr_wr (lr_wr (lr_wr b 26 0 (8 * n + k) v) 51 0 (4 * n + s) (a.1 3 32 4)) 53 0 (4 * n + s) (nI e)) 52 0 (4 * n + s) 7) 54 0 (4 * n + s) v) 54 0 (4 * n + s) = v := by simp [lr_r, lr_w]
      rw [z1, z2, z3, z4]
      exact this
