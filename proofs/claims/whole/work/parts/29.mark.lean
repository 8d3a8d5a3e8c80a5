def lr_K11g (G : Nat → Nat → Prop) (a : lr_S) : Prop := ∀ n k f, n < 4 → k < 8 → f < 2 → G n k → a.1 7 (8 * n + k) 0 = 1 → a.1 8 (8 * n + k) f = -1 ∨ ∃ j, j < 8 ∧ a.1 8 (8 * n + k) f = nI j ∧ ¬ a.1 7 (8 * n + j) 0 = 0
/-- the relation while slots are emptied: fields of those objects alone that stay -/
def lr_RelG (G : Nat → Nat → Prop) (c ns np cnt tt : Nat) (ow : Nat → Nat) (a b : lr_S) : Prop := lr_K1 c tt a b ∧ lr_K2 cnt a b ∧ lr_K3 c ns a b ∧ lr_K4 c np a b ∧ lr_K5 a ∧ lr_K6 a b ∧ lr_K7 a b ∧ lr_K7v a ∧ lr_K8 a b ∧ lr_K9 a ∧ lr_K10 a b ∧ lr_K11g G a ∧ lr_K12 a b ∧ lr_K13 tt a b ∧ lr_K14 ns ow a ∧ lr_K15 a b ∧ lr_K16 c a b ∧ lr_K17 a b ∧ lr_K18 a ∧ lr_K19 cnt a b ∧ lr_K20 ns ow cnt a ∧ lr_P1 np a b ∧ lr_P2 np a b ∧ lr_P3 a ∧ lr_P4 np b ∧ lr_P5 np b ∧ lr_K22 c ow ∧ lr_K23 a
theorem lr_s_numG {G : Nat → Nat → Prop} {c ns np cnt tt : Nat} {ow : Nat → Nat} {a b : lr_S} (R : lr_RelG G c ns np cnt tt ow a b) {n : Nat} (hn : n < 4) (v : Int32) : lr_RelG G c ns np cnt tt ow (lr_wr a 5 n 8 v) (lr_wr b 23 0 n v) := by
  obtain ⟨h1, h2, h3, h4, h5, h6, h7, h7v, h8, h9, h10, h11, h12, h13, h14, h15, h16, h17, h18, h19, h20, p1, p2, p3, p4, p5, h22, h23⟩ := R
  refine ⟨?_, ?_, ?_, ?_, ?_, ?_, ?_, ?_, ?_, ?_, ?_, ?_, ?_, ?_, ?_, ?_, ?_, ?_, ?_, ?_, ?_, ?_, ?_, ?_, ?_, ?_, ?_, ?_⟩
  · simpa [lr_K1, lr_w, lr_w2] using h1
  · simpa [lr_K2, lr_w, lr_w2] using h2
  · simpa [lr_K3, lr_w, lr_w2] using h3
  · simpa [lr_K4, lr_w, lr_w2] using h4
  · simpa [lr_K5, lr_w, lr_w2] using h5
  · intro m hm
    have h := h6 m hm
    by_cases e : m = n
    · subst e
      simpa [lr_w] using h.2
    · simpa [lr_w, e] using h
  · simpa [lr_K7, lr_w, lr_w2] using h7
  · simpa [lr_K7v, lr_w, lr_w2] using h7v
  · simpa [lr_K8, lr_w, lr_w2] using h8
  · simpa [lr_K9, lr_w, lr_w2] using h9
  · simpa [lr_K10, lr_w, lr_w2] using h10
  · simpa [lr_K11g, lr_w, lr_w2] using h11
  · simpa [lr_K12, lr_w, lr_w2] using h12
  · simpa [lr_K13, lr_w, lr_w2] using h13
  · simpa [lr_K14, lr_w, lr_w2] using h14
  · simpa [lr_K15, lr_w, lr_w2] using h15
  · simpa [lr_K16, lr_w, lr_w2] using h16
  · simpa [lr_K17, lr_w, lr_w2] using h17
  · simpa [lr_K18, lr_w, lr_w2] using h18
  · simpa [lr_K19, lr_w, lr_w2] using h19
  · simpa [lr_K20, lr_w, lr_w2] using h20
  · simpa [lr_P1, lr_w, lr_w2] using p1
  · simpa [lr_P2, lr_w, lr_w2] using p2
  · simpa [lr_P3, lr_w, lr_w2] using p3
  · simpa [lr_P4, lr_w, lr_w2] using p4
  · simpa [lr_P5, lr_w, lr_w2] using p5
  · exact h22
  · simpa [lr_K23, lr_w, lr_w2] using h23
theorem lr_s_sendG {G : Nat → Nat → Prop} {c ns np cnt tt : Nat} {ow : Nat → Nat} {a b : lr_S} (R : lr_RelG G c ns np cnt tt ow a b) (hc : cnt < 32) {f0 f1 f2 f3 f4 f5 : Int32} (hv : lr_mv ns ow (lr_f6 f0 f1 f2 f3 f4 f5)) : lr_RelG G c ns np (cnt + 1) tt ow (lr_sx a cnt f0 f1 f2 f3 f4 f5) (lr_sm b cnt f0 f1 f2 f3 f4 f5) := by
  obtain ⟨h1, h2, h3, h4, h5, h6, h7, h7v, h8, h9, h10, h11, h12, h13, h14, h15, h16, h17, h18, h19, h20, p1, p2, p3, p4, p5, h22, h23⟩ := R
  have hx : ∀ k i j, ¬ k = 3 → ¬ (k = 1 ∧ j = 1) → (lr_sx a cnt f0 f1 f2 f3 f4 f5).1 k i j = a.1 k i j := fun k i j z1 z2 => lr_sx_ne _ _ _ _ _ _ _ _ (fun z => z1 z.1) (fun z => z2 ⟨z.1, z.2.2⟩)
  have hm : ∀ k i j, ¬ k = 38 → ¬ (k = 20 ∧ j = 19) → (lr_sm b cnt f0 f1 f2 f3 f4 f5).1 k i j = b.1 k i j := fun k i j z1 z2 => lr_sm_ne _ _ _ _ _ _ _ _ (fun z => z1 z.1) (fun z => z2 ⟨z.1, z.2.2⟩)
  have hpi : ∀ p, p < cnt → ¬ a.2 p = a.2 cnt := fun p hp e => by
    have := h18.2 p cnt (by omega) hc e
    omega
  refine ⟨?_, ?_, ?_, ?_, ?_, ?_, ?_, ?_, ?_, ?_, ?_, ?_, ?_, ?_, ?_, ?_, ?_, ?_, ?_, ?_, ?_, ?_, ?_, ?_, ?_, ?_, ?_, ?_⟩
  · simpa [lr_K1, hx, hm, lr_sx_2] using h1
  · exact ⟨by simp [lr_sx, lr_w], by simp [lr_sm, lr_w], by omega⟩
  · simpa [lr_K3, hx, hm, lr_sx_2] using h3
  · simpa [lr_K4, hx, hm, lr_sx_2] using h4
  · simpa [lr_K5, hx, hm, lr_sx_2] using h5
  · simpa [lr_K6, hx, hm, lr_sx_2] using h6
  · simpa [lr_K7, hx, hm, lr_sx_2] using h7
  · simpa [lr_K7v, hx, hm, lr_sx_2] using h7v
  · simpa [lr_K8, hx, hm, lr_sx_2] using h8
  · simpa [lr_K9, hx, hm, lr_sx_2] using h9
  · simpa [lr_K10, hx, hm, lr_sx_2] using h10
  · simpa [lr_K11g, hx, hm, lr_sx_2] using h11
  · simpa [lr_K12, hx, hm, lr_sx_2] using h12
  · simpa [lr_K13, hx, hm, lr_sx_2] using h13
  · simpa [lr_K14, hx, hm, lr_sx_2] using h14
  · simpa [lr_K15, hx, hm, lr_sx_2] using h15
  · simpa [lr_K16, hx, hm, lr_sx_2] using h16
  · intro m s hm1 hs
    have e : ∀ j, (lr_sx a cnt f0 f1 f2 f3 f4 f5).1 3 (33 + 4 * m + s) j = a.1 3 (33 + 4 * m + s) j := fun j => lr_sx_ne _ _ _ _ _ _ _ _ (fun z => by have := h18.1 cnt hc; omega) (by simp)
    simpa [e, hm] using h17 m s hm1 hs
  · exact h18
  · intro p j hp hj
    rw [lr_sx_2]
    by_cases e : p = cnt
    · subst e
      rw [lr_sx_at _ _ _ _ _ _ _ _ hj, lr_sm_at _ _ _ _ _ _ _ _ hj]
    · rw [lr_sx_ne _ _ _ _ _ _ _ _ (fun z => hpi p (by omega) z.2) (by simp), lr_sm_ne _ _ _ _ _ _ _ _ (fun z => by omega) (by simp)]
      exact h19 p j (by omega) hj
  · intro p hp
    rw [lr_sx_2]
    by_cases e : p = cnt
    · subst e
      exact lr_mv_c (fun j hj => lr_sx_at _ _ _ _ _ _ _ _ hj) hv
    · have e2 : (fun j => (lr_sx a cnt f0 f1 f2 f3 f4 f5).1 3 (a.2 p) j) = fun j => a.1 3 (a.2 p) j := by
        funext j
        exact lr_sx_ne _ _ _ _ _ _ _ _ (fun z => hpi p (by omega) z.2) (by simp)
      rw [e2]
      exact h20 p (by omega)
  · simpa [lr_P1, hx, hm, lr_sx_2] using p1
  · simpa [lr_P2, hx, hm, lr_sx_2] using p2
  · simpa [lr_P3, hx, hm, lr_sx_2] using p3
  · simpa [lr_P4, hx, hm, lr_sx_2] using p4
  · simpa [lr_P5, hx, hm, lr_sx_2] using p5
  · exact h22
  · simpa [lr_K23, hx, hm, lr_sx_2] using h23
theorem lr_sendG {G : Nat → Nat → Prop} {c ns np cnt tt : Nat} {ow : Nat → Nat} {a b : lr_S} (R : lr_RelG G c ns np cnt tt ow a b) {f0 f1 f2 f3 f4 f5 : Int32} (hv : lr_mv ns ow (lr_f6 f0 f1 f2 f3 f4 f5)) : ∃ cnt2 a2 b2, lr_G_Network_send f0 f1 f2 f3 f4 f5 a = some a2 ∧ lr_G_M_send f0 f1 f2 f3 f4 f5 b = some b2 ∧ lr_RelG G c ns np cnt2 tt ow a2 b2 ∧ lr_fx a a2 ∧ lr_fm b b2 := by
  have h2 := R.2.1
  have h18 : lr_K18 a := by obtain ⟨h1, h2, h3, h4, h5, h6, h7, h7v, h8, h9, h10, h11, h12, h13, h14, h15, h16, h17, h18, h19, h20, p1, p2, p3, p4, p5, h22, h23⟩ := R; exact h18
  by_cases hc : cnt < 32
  · refine ⟨cnt + 1, _, _, lr_x_send h2.1 hc (by have := h18.1 cnt hc; omega) _ _ _ _ _ _, lr_m_send h2.2.1 hc _ _ _ _ _ _, lr_s_sendG R hc hv, ⟨fun k i j z1 z2 => lr_sx_ne _ _ _ _ _ _ _ _ (fun z => z1 z.1) (fun z => z2 ⟨z.1, z.2.2⟩), fun i j hi => lr_sx_ne _ _ _ _ _ _ _ _ (fun z => by have := h18.1 cnt hc; omega) (by simp), rfl⟩, fun k i j z1 z2 => lr_sm_ne _ _ _ _ _ _ _ _ (fun z => z1 z.1) (fun z => z2 ⟨z.1, z.2.2⟩)⟩
  · obtain rfl : cnt = 32 := by have := h2.2.2; omega
    exact ⟨32, a, b, lr_x_send32 h2.1 _ _ _ _ _ _, lr_m_send32 h2.2.1 _ _ _ _ _ _, R, ⟨fun _ _ _ _ _ => rfl, fun _ _ _ => rfl, rfl⟩, fun _ _ _ _ _ => rfl⟩
theorem lr_s_emptyG {G : Nat → Nat → Prop} {c ns np cnt tt : Nat} {ow : Nat → Nat} {a b : lr_S} (R : lr_RelG G c ns np cnt tt ow a b) {n k : Nat} (hn : n < 4) (hk : k < 8) (hr : ∀ r, r < 3 → ¬ a.1 11 n r = nI k) (hw : a.1 14 n 0 = 1 → ¬ a.1 14 n 2 = nI k) (hg : ∀ k2 f, k2 < 8 → f < 2 → G n k2 → ¬ k2 = k → a.1 7 (8 * n + k2) 0 = 1 → ¬ a.1 8 (8 * n + k2) f = nI k) : lr_RelG G c ns np cnt tt ow (lr_wr a 7 (8 * n + k) 0 0) (lr_wr b 24 0 (8 * n + k) 0) := by
  obtain ⟨h1, h2, h3, h4, h5, h6, h7, h7v, h8, h9, h10, h11, h12, h13, h14, h15, h16, h17, h18, h19, h20, p1, p2, p3, p4, p5, h22, h23⟩ := R
  refine ⟨?_, ?_, ?_, ?_, ?_, ?_, ?_, ?_, ?_, ?_, ?_, ?_, ?_, ?_, ?_, ?_, ?_, ?_, ?_, ?_, ?_, ?_, ?_, ?_, ?_, ?_, ?_, ?_⟩
  · simpa [lr_K1, lr_w, lr_w2] using h1
  · simpa [lr_K2, lr_w, lr_w2] using h2
  · simpa [lr_K3, lr_w, lr_w2] using h3
  · simpa [lr_K4, lr_w, lr_w2] using h4
  · simpa [lr_K5, lr_w, lr_w2] using h5
  · simpa [lr_K6, lr_w, lr_w2] using h6
  · simpa [lr_K7, lr_w, lr_w2] using h7
  · intro m r hm hr2
    rcases h7v m r hm hr2 with e | ⟨j, hj, e, ej⟩
    · left
      simpa [lr_w] using e
    · right
      refine ⟨j, hj, by simpa [lr_w] using e, ?_⟩
      have q : ¬ (8 * m + j = 8 * n + k) := fun q => by
        obtain ⟨rfl, rfl⟩ : m = n ∧ j = k := by omega
        exact hr r hr2 e
      simpa [lr_w, q] using ej
  · intro m hm
    have h := h8 m hm
    by_cases e : m = 8 * n + k
    · subst e
      obtain ⟨g0, g1, g2, g6, g7, g8, g9, g10, g11, g12⟩ := h
      simp [lr_w, g1, g2, g6, g7, g8, g9, g10, g11, g12]
    · simpa [lr_w, e] using h
  · intro m hm
    by_cases e : m = 8 * n + k
    · subst e
      left
      simp [lr_w]
    · simpa [lr_w, e] using h9 m hm
  · simpa [lr_K10, lr_w, lr_w2] using h10
  · intro m j f hm hj hf hG ho
    by_cases e : 8 * m + j = 8 * n + k
    · simp [lr_w, e] at ho
    · have ho2 : a.1 7 (8 * m + j) 0 = 1 := by simpa [lr_w, e] using ho
      rcases h11 m j f hm hj hf hG ho2 with g | ⟨i, hi, g, gi⟩
      · left
        simpa [lr_w] using g
      · right
        refine ⟨i, hi, by simpa [lr_w] using g, ?_⟩
        have q : ¬ (8 * m + i = 8 * n + k) := fun q => by
          obtain ⟨rfl, rfl⟩ : m = n ∧ i = k := by omega
          exact hg j f hj hf hG (fun z => e (by rw [z])) ho2 g
        simpa [lr_w, q] using gi
  · simpa [lr_K12, lr_w, lr_w2] using h12
  · simpa [lr_K13, lr_w, lr_w2] using h13
  · intro m j hm hj
    by_cases e : 8 * m + j = 8 * n + k
    · refine ⟨fun z => ?_, fun z => ?_⟩
      · simp [lr_w, e] at z
      · simp [lr_w, e] at z
    · simpa [lr_w, e] using h14 m j hm hj
  · simpa [lr_K15, lr_w, lr_w2] using h15
  · intro m hm
    obtain ⟨u, g1, g2, g3⟩ := h16 m hm
    refine ⟨u, g1, by simpa [lr_w] using g2, fun z => ?_⟩
    obtain ⟨w1, j, hj, w2, w3, w4⟩ := g3 (by simpa [lr_w] using z)
    refine ⟨w1, j, hj, by simpa [lr_w] using w2, by simpa [lr_w] using w3, fun y => ?_⟩
    have y : a.1 14 m 0 = 1 := by simpa [lr_w] using y
    have q := w4 y
    have e : ¬ (8 * m + j = 8 * n + k) := fun e => by
      obtain ⟨rfl, rfl⟩ : m = n ∧ j = k := by omega
      exact hw y w2
    simpa [lr_w, e] using q
  · simpa [lr_K17, lr_w, lr_w2] using h17
  · simpa [lr_K18, lr_w, lr_w2] using h18
  · simpa [lr_K19, lr_w, lr_w2] using h19
  · simpa [lr_K20, lr_w, lr_w2] using h20
  · simpa [lr_P1, lr_w, lr_w2] using p1
  · simpa [lr_P2, lr_w, lr_w2] using p2
  · simpa [lr_P3, lr_w, lr_w2] using p3
  · simpa [lr_P4, lr_w, lr_w2] using p4
  · simpa [lr_P5, lr_w, lr_w2] using p5
  · exact h22
  · simpa [lr_K23, lr_w, lr_w2] using h23
theorem lr_toG {c ns np cnt tt : Nat} {ow : Nat → Nat} {a b : lr_S} (R : lr_Rel c ns np cnt tt ow a b) (G : Nat → Nat → Prop) : lr_RelG G c ns np cnt tt ow a b := by
  obtain ⟨h1, h2, h3, h4, h5, h6, h7, h7v, h8, h9, h10, h11, h12, h13, h14, h15, h16, h17, h18, h19, h20, p1, p2, p3, p4, p5, h22, h23⟩ := R
  exact ⟨h1, h2, h3, h4, h5, h6, h7, h7v, h8, h9, h10, fun n k f q1 q2 q3 _ q5 => h11 n k f q1 q2 q3 q5, h12, h13, h14, h15, h16, h17, h18, h19, h20, p1, p2, p3, p4, p5, h22, h23⟩
theorem lr_ofG {G : Nat → Nat → Prop} {c ns np cnt tt : Nat} {ow : Nat → Nat} {a b : lr_S} (R : lr_RelG G c ns np cnt tt ow a b) (hG : ∀ n k, n < 4 → k < 8 → a.1 7 (8 * n + k) 0 = 1 → G n k) : lr_Rel c ns np cnt tt ow a b := by
  obtain ⟨h1, h2, h3, h4, h5, h6, h7, h7v, h8, h9, h10, h11, h12, h13, h14, h15, h16, h17, h18, h19, h20, p1, p2, p3, p4, p5, h22, h23⟩ := R
  exact ⟨h1, h2, h3, h4, h5, h6, h7, h7v, h8, h9, h10, fun n k f q1 q2 q3 q5 => h11 n k f q1 q2 q3 (hG n k q1 q2 q5) q5, h12, h13, h14, h15, h16, h17, h18, h19, h20, p1, p2, p3, p4, p5, h22, h23⟩
/-- the marks, on both sides the same set: it holds what must stay, and is closed -/
theorem lr_mark {c ns np cnt tt : Nat} {ow : Nat → Nat} {a b : lr_S} (R : lr_Rel c ns np cnt tt ow a b) {n : Nat} (hn : n < 4) : ∃ a2 b2 S, lr_G_Node_markKeptSlots n a = some a2 ∧ lr_G_M_mark (nI n) b = some b2 ∧ lr_X16 a a2 ∧ lr_Rel c ns np cnt tt ow a2 b2 ∧ lr_KB n 8 a2 S ∧ lr_MB 8 b2 S ∧ (∀ r k, r < 3 → k < 8 → a.1 11 n r = nI k → S k) ∧ (∀ k, k < 8 → a.1 14 n 0 = 1 → a.1 14 n 2 = nI k → S k) ∧ lr_cd a n S := by
  obtain ⟨h1, h2, h3, h4, h5, h6, h7, h7v, h8, h9, h10, h11, h12, h13, h14, h15, h16, h17, h18, h19, h20, p1, p2, p3, p4, p5, h22, h23⟩ := id R
  have hnp : np ≤ 64 := by have := h4.2.2; have := h22.1; omega
  have htt : tt ≤ 768 := by have := h1.2.2; have := h22.1; omega
  have hck : b.1 20 0 0 = a.1 1 0 0 := by rw [h1.1, h1.2.1]
  have hv : ∀ k f, k < 8 → f < 2 → a.1 7 (8 * n + k) 0 = 1 → a.1 8 (8 * n + k) f = -1 ∨ ∃ j, j < 8 ∧ a.1 8 (8 * n + k) f = nI j := fun k f q1 q2 q3 => (h11 n k f hn q1 q2 q3).imp id (fun ⟨j, w1, w2, _⟩ => ⟨j, w1, w2⟩)
  have hvr : ∀ r, r < 3 → a.1 11 n r = -1 ∨ ∃ k, k < 8 ∧ a.1 11 n r = nI k := fun r q => (h7v n r hn q).imp id (fun ⟨j, w1, w2, _⟩ => ⟨j, w1, w2⟩)
  have hvp : ∀ i, i < 6 → ¬ a.1 13 (6 * n + i) 2 ≤ a.1 1 0 0 → ∃ k, k < 8 ∧ a.1 13 (6 * n + i) 1 = nI k := fun i q1 q2 => by
    obtain ⟨j, k, w1, w2, w3, w4, w5, w6, w7⟩ := p1 n i hn q1 q2
    exact ⟨k, w2, w6⟩
  obtain ⟨j0, j1, j3, j4, j5⟩ := h15 n hn
  obtain ⟨mm, -, -, gm⟩ := h16 n hn
  -- the system
  obtain ⟨a1, u1, x1, k1⟩ := lr_x_mk1 (n := n) a 8 0 600 a (by omega) (by omega) (lr_X16.rf a) (fun k hk => by omega)
  obtain ⟨a2, u2, x2, k2⟩ := lr_x_mk2 (n := n) a hvr 3 0 600 a1 _ (by omega) (by omega) x1 k1
  obtain ⟨a3, u3, x3, k3⟩ := lr_x_mk3 (n := n) a hvp 6 0 600 a2 _ (by omega) (by omega) x2 k2
  -- the reference
  obtain ⟨b1, v1, y1, m1⟩ := lr_m_mk1 hn b 8 0 600 b (by omega) (by omega) (lr_X55.rf b) (fun k hk => by omega)
  obtain ⟨b2, v2, y2, m2⟩ := lr_m_mk2 hn b (fun r q => by rw [← h7 n r hn q]; exact hvr r q) 3 0 600 b1 _ (by omega) (by omega) y1 m1
  obtain ⟨b3, v3, y3, m3⟩ := lr_m_mk3 hn b h4.2.1 (by omega) p4 np 0 600 b2 _ (by omega) (by omega) y2 m2
  have e24 : ∀ k, k < 8 → b.1 24 0 (8 * n + k) = a.1 7 (8 * n + k) 0 := fun k hk => (h8 (8 * n + k) (by omega)).1.symm
  have e27 : ∀ k f, k < 8 → f < 2 → b.1 27 0 (2 * (8 * n + k) + f) = a.1 8 (8 * n + k) f := fun k f hk hf => (h10 (8 * n + k) f (by omega) hf).symm
  have e14 := x3.1 14 n 0 (by decide)
  have e142 := x3.1 14 n 2 (by decide)
  -- the set before the rounds
  have hx4 : ∃ a4, lr_X16 a a4 ∧ lr_KB n 8 a4 (fun k => (((a.1 7 (8 * n + k) 0 = 1 ∧ ∃ d, d < 4 ∧ a.1 1 0 0 < a.1 10 (8 * n + k) d) ∨ ∃ s, 0 ≤ s ∧ s < 3 ∧ a.1 11 n s = nI k) ∨ ∃ s, 0 ≤ s ∧ s < 6 ∧ ¬ a.1 13 (6 * n + s) 2 ≤ a.1 1 0 0 ∧ a.1 13 (6 * n + s) 1 = nI k) ∨ (a.1 14 n 0 = 1 ∧ a.1 14 n 2 = nI k)) ∧ ∀ a5, lr_L_Node_markKeptSlots_123 n 600 (0 : Int32) a4 = some (nI 8, a5) → lr_G_Node_markKeptSlots n a = some a5 := by
    by_cases w : a.1 14 n 0 = 1
    · obtain ⟨-, k0, hk0, ek0, -⟩ := gm (by rw [w]; decide)
      obtain ⟨a4, q1, q2, q3⟩ := lr_x_keep k3 (v := a3.1 14 n 2) (by rw [e142, ek0]; exact Or.inr ⟨k0, hk0, rfl⟩)
      refine ⟨a4, x3.tr q2, q3.c (fun k hk => ?_), fun a5 h5' => ?_⟩
      · rw [e142]
        constructor
        · rintro (z | z)
          · exact Or.inl z
          · exact Or.inr ⟨w, z⟩
        · rintro (z | z)
          · exact Or.inl z
          · exact Or.inr z.2
      · unfold lr_G_Node_markKeptSlots
        rw [show lr_L_Node_markKeptSlots_2 n 600 (0 : Int32) a = _ from u1, lr_bs (_, a1), show lr_L_Node_markKeptSlots_38 n 600 (0 : Int32) a1 = _ from u2, lr_bs (_, a2), show lr_L_Node_markKeptSlots_61 n 600 (0 : Int32) a2 = _ from u3, lr_bs (_, a3), lr_r a3 14 n 0, e14, if_pos w, lr_r a3 14 n 2, q1, lr_bs a4, h5']
        rfl
    · refine ⟨a3, x3, k3.c (fun k hk => ⟨fun z => Or.inl z, fun z => z.elim id (fun q => absurd q.1 w)⟩), fun a5 h5' => ?_⟩
      unfold lr_G_Node_markKeptSlots
      rw [show lr_L_Node_markKeptSlots_2 n 600 (0 : Int32) a = _ from u1, lr_bs (_, a1), show lr_L_Node_markKeptSlots_38 n 600 (0 : Int32) a1 = _ from u2, lr_bs (_, a2), show lr_L_Node_markKeptSlots_61 n 600 (0 : Int32) a2 = _ from u3, lr_bs (_, a3), lr_r a3 14 n 0, e14, if_neg w, h5']
      rfl
  obtain ⟨a4, x4, k4, hgo⟩ := hx4
  have m4 := m3.c (S2 := fun k => (((a.1 7 (8 * n + k) 0 = 1 ∧ ∃ d, d < 4 ∧ a.1 1 0 0 < a.1 10 (8 * n + k) d) ∨ ∃ s, 0 ≤ s ∧ s < 3 ∧ a.1 11 n s = nI k) ∨ ∃ s, 0 ≤ s ∧ s < 6 ∧ ¬ a.1 13 (6 * n + s) 2 ≤ a.1 1 0 0 ∧ a.1 13 (6 * n + s) 1 = nI k) ∨ (a.1 14 n 0 = 1 ∧ a.1 14 n 2 = nI k)) (fun k hk => by
    have hq : 8 * n + k < 32 := by omega
    have l1 : (b.1 24 0 (8 * n + k) = 1 ∧ ∃ d, d < 4 ∧ b.1 20 0 0 < b.1 29 0 (4 * (8 * n + k) + d)) ↔ (a.1 7 (8 * n + k) 0 = 1 ∧ ∃ d, d < 4 ∧ a.1 1 0 0 < a.1 10 (8 * n + k) d) := by
      have key : ∀ d, d < 4 → (b.1 20 0 0 < b.1 29 0 (4 * (8 * n + k) + d) ↔ a.1 1 0 0 < a.1 10 (8 * n + k) d) := by
        intro d hd
        rw [hck]
        rcases h13 (8 * n + k) d hq hd with g | ⟨x, y, hx, hy, gx, gy⟩
        · rw [g]
        · rw [gx, gy, h1.1, nI_ltI (by omega) (by omega), nI_ltI (by omega) (by omega)]
          omega
      rw [e24 k hk]
      constructor
      · rintro ⟨z, d, d1, d2⟩
        exact ⟨z, d, d1, (key d d1).mp d2⟩
      · rintro ⟨z, d, d1, d2⟩
        exact ⟨z, d, d1, (key d d1).mpr d2⟩
    have l2 : (b.1 45 0 n = 1 ∧ b.1 47 0 n = nI (8 * n + k)) ↔ (a.1 14 n 0 = 1 ∧ a.1 14 n 2 = nI k) := by
      rw [← j0]
      constructor
      · rintro ⟨z1, z2⟩
        obtain ⟨-, k0, hk0, ek0, eb0, -⟩ := gm (by rw [z1]; decide)
        rw [eb0, nI_eq (by omega) (by omega)] at z2
        exact ⟨z1, by rw [ek0]; exact congrArg nI (by omega)⟩
      · rintro ⟨z1, z2⟩
        obtain ⟨-, k0, hk0, ek0, eb0, -⟩ := gm (by rw [z1]; decide)
        rw [ek0, nI_eq (by omega) (by omega)] at z2
        exact ⟨z1, by rw [eb0, z2]⟩
    have l3 : (∃ s, 0 ≤ s ∧ s < 3 ∧ b.1 22 0 (3 * n + s) = nI k) ↔ ∃ s, 0 ≤ s ∧ s < 3 ∧ a.1 11 n s = nI k := by
      constructor
      · rintro ⟨s, s1, s2, s3⟩
        exact ⟨s, s1, s2, by rw [h7 n s hn s2]; exact s3⟩
      · rintro ⟨s, s1, s2, s3⟩
        exact ⟨s, s1, s2, by rw [← h7 n s hn s2]; exact s3⟩
    have l4 : (∃ s, 0 ≤ s ∧ s < np ∧ b.1 41 0 s = nI (8 * n + k) ∧ b.1 43 0 s = 0 ∧ ¬ b.1 42 0 s + 24 ≤ b.1 20 0 0) ↔ ∃ s, 0 ≤ s ∧ s < 6 ∧ ¬ a.1 13 (6 * n + s) 2 ≤ a.1 1 0 0 ∧ a.1 13 (6 * n + s) 1 = nI k := by
      rw [hck]
      constructor
      · rintro ⟨s, -, s2, s3, s4, s5⟩
        obtain ⟨i, w1, w2, w3⟩ := p2 s n k s2 hn hk s3 s4 s5
        obtain ⟨j, k5, z1, z2, z3, z4, z5, z6, z7⟩ := p1 n i hn w1 w2
        have ej : j = s := by
          rw [w3, nI_eq (by omega) (by omega)] at z3
          exact z3.symm
        subst ej
        rw [s3, nI_eq (by omega) (by omega)] at z7
        exact ⟨i, Nat.zero_le _, w1, w2, by rw [z6]; exact congrArg nI (by omega)⟩
      · rintro ⟨i, -, w1, w2, w3⟩
        obtain ⟨j, k5, z1, z2, z3, z4, z5, z6, z7⟩ := p1 n i hn w1 w2
        rw [w3, nI_eq (by omega) (by omega)] at z6
        exact ⟨j, Nat.zero_le _, z1, by rw [z7, z6], z5, by rw [← z4]; exact w2⟩
    rw [l1, l2, l3, l4]
    constructor
    · rintro (((z | z) | z) | z)
      · exact Or.inl (Or.inl (Or.inl z))
      · exact Or.inr z
      · exact Or.inl (Or.inl (Or.inr z))
      · exact Or.inl (Or.inr z)
    · rintro (((z | z) | z) | z)
      · exact Or.inl (Or.inl (Or.inl z))
      · exact Or.inl (Or.inr z)
      · exact Or.inr z
      · exact Or.inl (Or.inl (Or.inr z)))
  obtain ⟨a5, u5, x5, k5⟩ := lr_x_rnds (n := n) a hv 8 0 600 a4 _ (by omega) (by omega) x4 k4
  obtain ⟨b5, v5, y5, m5⟩ := lr_m_rnds hn a b e24 e27 hv 8 0 600 b3 _ (by omega) (by omega) y3 m4
  refine ⟨a5, b5, _, hgo a5 u5, ?_, x5, x5.2 _ _ _ _ _ _ _ (y5.2 _ _ _ _ _ _ _ R), k5, m5, ?_, ?_, lr_rr_closed a n _⟩
  · unfold lr_G_M_mark
    rw [show lr_L_M_mark_2 (nI n) 600 (0 : Int32) b = _ from v1, lr_bs (_, b1), show lr_L_M_mark_72 (nI n) 600 (0 : Int32) b1 = _ from v2, lr_bs (_, b2), show lr_L_M_mark_99 (nI n) 600 (0 : Int32) b2 = _ from v3, lr_bs (_, b3), show lr_L_M_mark_149 (nI n) 600 (0 : Int32) b3 = _ from v5]
    rfl
  · intro r k hr hk e
    exact lr_rr_mono a n 8 _ k (Or.inl (Or.inl (Or.inr ⟨r, Nat.zero_le _, hr, e⟩)))
  · intro k hk e1 e2
    exact lr_rr_mono a n 8 _ k (Or.inr ⟨e1, e2⟩)
