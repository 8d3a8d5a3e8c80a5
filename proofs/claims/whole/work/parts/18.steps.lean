theorem lr_wsame (t : lr_S) (k i j : Nat) : lr_wr t k i j (t.1 k i j) = t := by
  unfold lr_wr
  have e : (fun k2 i2 j2 => if k2 = k ∧ i2 = i ∧ j2 = j then t.1 k i j else t.1 k2 i2 j2) = t.1 := by
    funext x y z
    by_cases h : x = k ∧ y = i ∧ z = j
    · rw [if_pos h, h.1, h.2.1, h.2.2]
    · rw [if_neg h]
  rw [e]
theorem lr_s_rstate {c ns np cnt tt : Nat} {ow : Nat → Nat} {a b : lr_S} (R : lr_Rel c ns np cnt tt ow a b) {n : Nat} (hn : n < 4) {v : Int32} (hv : ¬ v = 1) (ho : ¬ a.1 14 n 0 = 0) : lr_Rel c ns np cnt tt ow (lr_wr a 14 n 0 v) (lr_wr b 45 0 n v) := by
  obtain ⟨h1, h2, h3, h4, h5, h6, h7, h7v, h8, h9, h10, h11, h12, h13, h14, h15, h16, h17, h18, h19, h20, p1, p2, p3, p4, p5, h22, h23⟩ := R
  refine ⟨?_, ?_, ?_, ?_, ?_, ?_, ?_, ?_, ?_, ?_, ?_, ?_, ?_, ?_, ?_, ?_, ?_, ?_, ?_, ?_, ?_, ?_, ?_, ?_, ?_, ?_, ?_, ?_⟩
  · simpa [lr_K1, lr_w, lr_w2] using h1
  · simpa [lr_K2, lr_w, lr_w2] using h2
  · simpa [lr_K3, lr_w, lr_w2] using h3
  · simpa [lr_K4, lr_w, lr_w2] using h4
  · simpa [lr_K5, lr_w, lr_w2] using h5
  · simpa [lr_K6, lr_w, lr_w2] using h6
  · simpa [lr_K7, lr_w, lr_w2] using h7
  · simpa [lr_K7v, lr_w, lr_w2] using h7v
  · simpa [lr_K8, lr_w, lr_w2] using h8
  · simpa [lr_K9, lr_w, lr_w2] using h9
  · simpa [lr_K10, lr_w, lr_w2] using h10
  · simpa [lr_K11, lr_w, lr_w2] using h11
  · simpa [lr_K12, lr_w, lr_w2] using h12
  · simpa [lr_K13, lr_w, lr_w2] using h13
  · simpa [lr_K14, lr_w, lr_w2] using h14
  · intro m hm
    have h := h15 m hm
    by_cases e : m = n
    · subst e
      obtain ⟨g0, g1, g3, g4, g5⟩ := h
      exact ⟨by simp [lr_w], by simpa [lr_w] using g1, by simpa [lr_w] using g3, by simpa [lr_w] using g4, by simpa [lr_w] using g5⟩
    · simpa [lr_w, e] using h
  · intro m hm
    obtain ⟨u, g1, g2, g3⟩ := h16 m hm
    by_cases e : m = n
    · subst e
      refine ⟨u, g1, by simpa [lr_w] using g2, fun _ => ?_⟩
      obtain ⟨w1, k, hk, w2, w3, w4⟩ := g3 ho
      refine ⟨w1, k, hk, by simpa [lr_w] using w2, by simpa [lr_w] using w3, fun z => ?_⟩
      simp [lr_w] at z
      exact absurd z hv
    · refine ⟨u, g1, by simpa [lr_w, e] using g2, fun z => ?_⟩
      simpa [lr_w, e] using g3 (by simpa [lr_w, e] using z)
  · simpa [lr_K17, lr_w, lr_w2] using h17
  · simpa [lr_K18, lr_w, lr_w2] using h18
  · simpa [lr_K19, lr_w, lr_w2] using h19
  · simpa [lr_K20, lr_w, lr_w2] using h20
  · simpa [lr_P1, lr_w, lr_w2] using p1
  · simpa [lr_P2, lr_w, lr_w2] using p2
  · simpa [lr_P3, lr_w, lr_w2] using p3
  · simpa [lr_P4, lr_w, lr_w2] using p4
  · simpa [lr_P5, lr_w, lr_w2] using p5
  · exact h22
  · simpa [lr_K23, lr_w, lr_w2] using h23
theorem lr_s_rsent {c ns np cnt tt : Nat} {ow : Nat → Nat} {a b : lr_S} (R : lr_Rel c ns np cnt tt ow a b) {n : Nat} (hn : n < 4) (v : Int32) : lr_Rel c ns np cnt tt ow (lr_wr a 14 n 4 v) (lr_wr b 49 0 n v) := by
  obtain ⟨h1, h2, h3, h4, h5, h6, h7, h7v, h8, h9, h10, h11, h12, h13, h14, h15, h16, h17, h18, h19, h20, p1, p2, p3, p4, p5, h22, h23⟩ := R
  refine ⟨?_, ?_, ?_, ?_, ?_, ?_, ?_, ?_, ?_, ?_, ?_, ?_, ?_, ?_, ?_, ?_, ?_, ?_, ?_, ?_, ?_, ?_, ?_, ?_, ?_, ?_, ?_, ?_⟩
  · simpa [lr_K1, lr_w, lr_w2] using h1
  · simpa [lr_K2, lr_w, lr_w2] using h2
  · simpa [lr_K3, lr_w, lr_w2] using h3
  · simpa [lr_K4, lr_w, lr_w2] using h4
  · simpa [lr_K5, lr_w, lr_w2] using h5
  · simpa [lr_K6, lr_w, lr_w2] using h6
  · simpa [lr_K7, lr_w, lr_w2] using h7
  · simpa [lr_K7v, lr_w, lr_w2] using h7v
  · simpa [lr_K8, lr_w, lr_w2] using h8
  · simpa [lr_K9, lr_w, lr_w2] using h9
  · simpa [lr_K10, lr_w, lr_w2] using h10
  · simpa [lr_K11, lr_w, lr_w2] using h11
  · simpa [lr_K12, lr_w, lr_w2] using h12
  · simpa [lr_K13, lr_w, lr_w2] using h13
  · simpa [lr_K14, lr_w, lr_w2] using h14
  · intro m hm
    have h := h15 m hm
    by_cases e : m = n
    · subst e
      obtain ⟨g0, g1, g3, g4, g5⟩ := h
      exact ⟨by simpa [lr_w] using g0, by simpa [lr_w] using g1, by simpa [lr_w] using g3, by simp [lr_w], by simpa [lr_w] using g5⟩
    · simpa [lr_w, e] using h
  · simpa [lr_K16, lr_w, lr_w2] using h16
  · simpa [lr_K17, lr_w, lr_w2] using h17
  · simpa [lr_K18, lr_w, lr_w2] using h18
  · simpa [lr_K19, lr_w, lr_w2] using h19
  · simpa [lr_K20, lr_w, lr_w2] using h20
  · simpa [lr_P1, lr_w, lr_w2] using p1
  · simpa [lr_P2, lr_w, lr_w2] using p2
  · simpa [lr_P3, lr_w, lr_w2] using p3
  · simpa [lr_P4, lr_w, lr_w2] using p4
  · simpa [lr_P5, lr_w, lr_w2] using p5
  · exact h22
  · simpa [lr_K23, lr_w, lr_w2] using h23
theorem lr_s_rres {c ns np cnt tt : Nat} {ow : Nat → Nat} {a b : lr_S} (R : lr_Rel c ns np cnt tt ow a b) {n : Nat} (hn : n < 4) (v : Int32) : lr_Rel c ns np cnt tt ow (lr_wr a 14 n 5 v) (lr_wr b 50 0 n v) := by
  obtain ⟨h1, h2, h3, h4, h5, h6, h7, h7v, h8, h9, h10, h11, h12, h13, h14, h15, h16, h17, h18, h19, h20, p1, p2, p3, p4, p5, h22, h23⟩ := R
  refine ⟨?_, ?_, ?_, ?_, ?_, ?_, ?_, ?_, ?_, ?_, ?_, ?_, ?_, ?_, ?_, ?_, ?_, ?_, ?_, ?_, ?_, ?_, ?_, ?_, ?_, ?_, ?_, ?_⟩
  · simpa [lr_K1, lr_w, lr_w2] using h1
  · simpa [lr_K2, lr_w, lr_w2] using h2
  · simpa [lr_K3, lr_w, lr_w2] using h3
  · simpa [lr_K4, lr_w, lr_w2] using h4
  · simpa [lr_K5, lr_w, lr_w2] using h5
  · simpa [lr_K6, lr_w, lr_w2] using h6
  · simpa [lr_K7, lr_w, lr_w2] using h7
  · simpa [lr_K7v, lr_w, lr_w2] using h7v
  · simpa [lr_K8, lr_w, lr_w2] using h8
  · simpa [lr_K9, lr_w, lr_w2] using h9
  · simpa [lr_K10, lr_w, lr_w2] using h10
  · simpa [lr_K11, lr_w, lr_w2] using h11
  · simpa [lr_K12, lr_w, lr_w2] using h12
  · simpa [lr_K13, lr_w, lr_w2] using h13
  · simpa [lr_K14, lr_w, lr_w2] using h14
  · intro m hm
    have h := h15 m hm
    by_cases e : m = n
    · subst e
      obtain ⟨g0, g1, g3, g4, g5⟩ := h
      exact ⟨by simpa [lr_w] using g0, by simpa [lr_w] using g1, by simpa [lr_w] using g3, by simpa [lr_w] using g4, by simp [lr_w]⟩
    · simpa [lr_w, e] using h
  · simpa [lr_K16, lr_w, lr_w2] using h16
  · simpa [lr_K17, lr_w, lr_w2] using h17
  · simpa [lr_K18, lr_w, lr_w2] using h18
  · simpa [lr_K19, lr_w, lr_w2] using h19
  · simpa [lr_K20, lr_w, lr_w2] using h20
  · simpa [lr_P1, lr_w, lr_w2] using p1
  · simpa [lr_P2, lr_w, lr_w2] using p2
  · simpa [lr_P3, lr_w, lr_w2] using p3
  · simpa [lr_P4, lr_w, lr_w2] using p4
  · simpa [lr_P5, lr_w, lr_w2] using p5
  · exact h22
  · simpa [lr_K23, lr_w, lr_w2] using h23
theorem lr_s_call {c ns np cnt tt : Nat} {ow : Nat → Nat} {a b : lr_S} (R : lr_Rel c ns np cnt tt ow a b) {n k m : Nat} (hn : n < 4) (hk : k < 8) (hm : m + 1 ≤ c) (v : Int32) (hh : a.1 7 (8 * n + k) 0 = 2) : lr_Rel c ns np cnt tt ow (lr_wr (lr_wr (lr_wr (lr_wr a 14 n 0 1) 14 n 1 (nI (m + 1))) 14 n 2 (nI k)) 14 n 3 v) (lr_wr (lr_wr (lr_wr (lr_wr b 45 0 n 1) 46 0 n (nI (m + 1))) 47 0 n (nI (8 * n + k))) 48 0 n v) := by
  obtain ⟨h1, h2, h3, h4, h5, h6, h7, h7v, h8, h9, h10, h11, h12, h13, h14, h15, h16, h17, h18, h19, h20, p1, p2, p3, p4, p5, h22, h23⟩ := R
  refine ⟨?_, ?_, ?_, ?_, ?_, ?_, ?_, ?_, ?_, ?_, ?_, ?_, ?_, ?_, ?_, ?_, ?_, ?_, ?_, ?_, ?_, ?_, ?_, ?_, ?_, ?_, ?_, ?_⟩
  · simpa [lr_K1, lr_w, lr_w2] using h1
  · simpa [lr_K2, lr_w, lr_w2] using h2
  · simpa [lr_K3, lr_w, lr_w2] using h3
  · simpa [lr_K4, lr_w, lr_w2] using h4
  · simpa [lr_K5, lr_w, lr_w2] using h5
  · simpa [lr_K6, lr_w, lr_w2] using h6
  · simpa [lr_K7, lr_w, lr_w2] using h7
  · simpa [lr_K7v, lr_w, lr_w2] using h7v
  · simpa [lr_K8, lr_w, lr_w2] using h8
  · simpa [lr_K9, lr_w, lr_w2] using h9
  · simpa [lr_K10, lr_w, lr_w2] using h10
  · simpa [lr_K11, lr_w, lr_w2] using h11
  · simpa [lr_K12, lr_w, lr_w2] using h12
  · simpa [lr_K13, lr_w, lr_w2] using h13
  · simpa [lr_K14, lr_w, lr_w2] using h14
  · intro m2 hm2
    have h := h15 m2 hm2
    by_cases e : m2 = n
    · subst e
      obtain ⟨g0, g1, g3, g4, g5⟩ := h
      simp [lr_w, g4, g5]
    · simpa [lr_w, e] using h
  · intro m2 hm2
    by_cases e : m2 = n
    · subst e
      exact ⟨m + 1, hm, by simp [lr_w], fun _ => ⟨by omega, k, hk, by simp [lr_w], by simp [lr_w], fun _ => by simpa [lr_w] using hh⟩⟩
    · simpa [lr_w, e] using h16 m2 hm2
  · simpa [lr_K17, lr_w, lr_w2] using h17
  · simpa [lr_K18, lr_w, lr_w2] using h18
  · simpa [lr_K19, lr_w, lr_w2] using h19
  · simpa [lr_K20, lr_w, lr_w2] using h20
  · simpa [lr_P1, lr_w, lr_w2] using p1
  · simpa [lr_P2, lr_w, lr_w2] using p2
  · simpa [lr_P3, lr_w, lr_w2] using p3
  · simpa [lr_P4, lr_w, lr_w2] using p4
  · simpa [lr_P5, lr_w, lr_w2] using p5
  · exact h22
  · simpa [lr_K23, lr_w, lr_w2] using h23
def lr_dm (b : lr_S) (r : Nat) (kd se nu ex : Int32) : lr_S := lr_wr (lr_wr (lr_wr (lr_wr b 51 0 r nu) 53 0 r se) 52 0 r kd) 54 0 r ex
theorem lr_s_reply {c ns np cnt tt : Nat} {ow : Nat → Nat} {a b : lr_S} (R : lr_Rel c ns np cnt tt ow a b) {n d : Nat} (hn : n < 4) (hd : d < 4) {kd se nu ex : Int32} (hk : kd = nI 7 ∨ kd = nI 8) : lr_Rel c ns np cnt tt ow (lr_row a (33 + 4 * n + d) kd (nI n) (nI d) se nu ex) (lr_dm b (4 * n + d) kd se nu ex) := by
  obtain ⟨h1, h2, h3, h4, h5, h6, h7, h7v, h8, h9, h10, h11, h12, h13, h14, h15, h16, h17, h18, h19, h20, p1, p2, p3, p4, p5, h22, h23⟩ := R
  have hro : ∀ k i j, ¬ k = 3 → (lr_row a (33 + 4 * n + d) kd (nI n) (nI d) se nu ex).1 k i j = a.1 k i j := fun k i j z => lr_row_ne _ _ _ _ _ _ _ _ (fun q => z q.1)
  refine ⟨?_, ?_, ?_, ?_, ?_, ?_, ?_, ?_, ?_, ?_, ?_, ?_, ?_, ?_, ?_, ?_, ?_, ?_, ?_, ?_, ?_, ?_, ?_, ?_, ?_, ?_, ?_, ?_⟩
  · simpa [lr_K1, hro, lr_dm, lr_w, lr_w2, lr_row_2] using h1
  · simpa [lr_K2, hro, lr_dm, lr_w, lr_w2, lr_row_2] using h2
  · simpa [lr_K3, hro, lr_dm, lr_w, lr_w2, lr_row_2] using h3
  · simpa [lr_K4, hro, lr_dm, lr_w, lr_w2, lr_row_2] using h4
  · simpa [lr_K5, hro, lr_dm, lr_w, lr_w2, lr_row_2] using h5
  · simpa [lr_K6, hro, lr_dm, lr_w, lr_w2, lr_row_2] using h6
  · simpa [lr_K7, hro, lr_dm, lr_w, lr_w2, lr_row_2] using h7
  · simpa [lr_K7v, hro, lr_dm, lr_w, lr_w2, lr_row_2] using h7v
  · simpa [lr_K8, hro, lr_dm, lr_w, lr_w2, lr_row_2] using h8
  · simpa [lr_K9, hro, lr_dm, lr_w, lr_w2, lr_row_2] using h9
  · simpa [lr_K10, hro, lr_dm, lr_w, lr_w2, lr_row_2] using h10
  · simpa [lr_K11, hro, lr_dm, lr_w, lr_w2, lr_row_2] using h11
  · simpa [lr_K12, hro, lr_dm, lr_w, lr_w2, lr_row_2] using h12
  · simpa [lr_K13, hro, lr_dm, lr_w, lr_w2, lr_row_2] using h13
  · simpa [lr_K14, hro, lr_dm, lr_w, lr_w2, lr_row_2] using h14
  · simpa [lr_K15, hro, lr_dm, lr_w, lr_w2, lr_row_2] using h15
  · simpa [lr_K16, hro, lr_dm, lr_w, lr_w2, lr_row_2] using h16
  · intro m s hm hs
    by_cases e : m = n ∧ s = d
    · obtain ⟨rfl, rfl⟩ := e
      rw [lr_row_at _ _ _ _ _ _ _ _ (by decide), lr_row_at _ _ _ _ _ _ _ _ (show 0 < 6 by decide), lr_row_at _ _ _ _ _ _ _ _ (show 3 < 6 by decide), lr_row_at _ _ _ _ _ _ _ _ (show 5 < 6 by decide), lr_row_at _ _ _ _ _ _ _ _ (show 1 < 6 by decide), lr_row_at _ _ _ _ _ _ _ _ (show 2 < 6 by decide)]
      refine ⟨by simp [lr_dm, lr_w, lr_f6], by simp [lr_dm, lr_w, lr_f6], by simp [lr_dm, lr_w, lr_f6], by simp [lr_dm, lr_w, lr_f6], fun _ => ⟨rfl, rfl, hk⟩⟩
    · have e2 : ¬ (4 * m + s = 4 * n + d) := fun z => e (by omega)
      have e3 : ∀ j, (lr_row a (33 + 4 * n + d) kd (nI n) (nI d) se nu ex).1 3 (33 + 4 * m + s) j = a.1 3 (33 + 4 * m + s) j := fun j => lr_row_ne _ _ _ _ _ _ _ _ (fun z => e (by omega))
      simpa [e3, lr_dm, lr_w, e2] using h17 m s hm hs
  · simpa [lr_K18, hro, lr_dm, lr_w, lr_w2, lr_row_2] using h18
  · intro p j hp hj
    have hpp := h18.1 p (by have := h2.2.2; omega)
    rw [lr_row_2, lr_row_ne _ _ _ _ _ _ _ _ (fun z => by omega)]
    simpa [lr_dm, lr_w] using h19 p j hp hj
  · intro p hp
    have hpp := h18.1 p (by have := h2.2.2; omega)
    refine lr_mv_c (fun j hj => ?_) (h20 p hp)
    rw [lr_row_2, lr_row_ne _ _ _ _ _ _ _ _ (fun z => by omega)]
  · simpa [lr_P1, hro, lr_dm, lr_w, lr_w2, lr_row_2] using p1
  · simpa [lr_P2, hro, lr_dm, lr_w, lr_w2, lr_row_2] using p2
  · simpa [lr_P3, hro, lr_dm, lr_w, lr_w2, lr_row_2] using p3
  · simpa [lr_P4, hro, lr_dm, lr_w, lr_w2, lr_row_2] using p4
  · simpa [lr_P5, hro, lr_dm, lr_w, lr_w2, lr_row_2] using p5
  · exact h22
  · simpa [lr_K23, hro, lr_dm, lr_w, lr_w2, lr_row_2] using h23
theorem lr_s_pinend {c ns np cnt tt : Nat} {ow : Nat → Nat} {a b : lr_S} (R : lr_Rel c ns np cnt tt ow a b) {n i j : Nat} (hn : n < 4) (hi : i < 6) (hl : ¬ a.1 13 (6 * n + i) 2 ≤ a.1 1 0 0) (hj : j < np) (hid : a.1 13 (6 * n + i) 0 = nI j) : lr_Rel c ns np cnt tt ow (lr_wr a 13 (6 * n + i) 2 (a.1 1 0 0)) (lr_wr b 43 0 j 1) := by
  obtain ⟨h1, h2, h3, h4, h5, h6, h7, h7v, h8, h9, h10, h11, h12, h13, h14, h15, h16, h17, h18, h19, h20, p1, p2, p3, p4, p5, h22, h23⟩ := R
  have hnp : np ≤ 64 := by have := h4.2.2; have := h22.1; omega
  refine ⟨?_, ?_, ?_, ?_, ?_, ?_, ?_, ?_, ?_, ?_, ?_, ?_, ?_, ?_, ?_, ?_, ?_, ?_, ?_, ?_, ?_, ?_, ?_, ?_, ?_, ?_, ?_, ?_⟩
  · simpa [lr_K1, lr_w, lr_w2] using h1
  · simpa [lr_K2, lr_w, lr_w2] using h2
  · simpa [lr_K3, lr_w, lr_w2] using h3
  · simpa [lr_K4, lr_w, lr_w2] using h4
  · simpa [lr_K5, lr_w, lr_w2] using h5
  · simpa [lr_K6, lr_w, lr_w2] using h6
  · simpa [lr_K7, lr_w, lr_w2] using h7
  · simpa [lr_K7v, lr_w, lr_w2] using h7v
  · simpa [lr_K8, lr_w, lr_w2] using h8
  · simpa [lr_K9, lr_w, lr_w2] using h9
  · simpa [lr_K10, lr_w, lr_w2] using h10
  · simpa [lr_K11, lr_w, lr_w2] using h11
  · simpa [lr_K12, lr_w, lr_w2] using h12
  · simpa [lr_K13, lr_w, lr_w2] using h13
  · simpa [lr_K14, lr_w, lr_w2] using h14
  · simpa [lr_K15, lr_w, lr_w2] using h15
  · simpa [lr_K16, lr_w, lr_w2] using h16
  · simpa [lr_K17, lr_w, lr_w2] using h17
  · simpa [lr_K18, lr_w, lr_w2] using h18
  · simpa [lr_K19, lr_w, lr_w2] using h19
  · simpa [lr_K20, lr_w, lr_w2] using h20
  · intro m i2 hm hi2 hl2
    by_cases e : 6 * m + i2 = 6 * n + i
    · simp [lr_w, e] at hl2
    · have hl3 : ¬ a.1 13 (6 * m + i2) 2 ≤ a.1 1 0 0 := by simpa [lr_w, e] using hl2
      obtain ⟨j2, k2, q1, q2, q3, q4, q5, q6, q7⟩ := p1 m i2 hm hi2 hl3
      have hne : ¬ j2 = j := by
        rintro rfl
        obtain ⟨j3, k3, u1, u2, u3, u4, u5, u6, u7⟩ := p1 n i hn hi hl
        have e3 : j3 = j2 := by
          rw [hid, nI_eq (by omega) (by omega)] at u3
          exact u3.symm
        subst e3
        rw [q7, nI_eq (by omega) (by omega)] at u7
        have e4 : m = n := by omega
        subst e4
        have := p3 m i2 i hm hi2 hi hl3 hl (by rw [q3, hid])
        exact e (by omega)
      exact ⟨j2, k2, q1, q2, by simpa [lr_w] using q3, by simpa [lr_w, e] using q4, by simpa [lr_w, hne] using q5, by simpa [lr_w] using q6, by simpa [lr_w] using q7⟩
  · intro j2 m k2 hj2 hm hk2 q1 q2 q3
    by_cases e : j2 = j
    · subst e
      simp [lr_w] at q2
    · obtain ⟨i2, u1, u2, u3⟩ := p2 j2 m k2 hj2 hm hk2 (by simpa [lr_w] using q1) (by simpa [lr_w, e] using q2) (by simpa [lr_w] using q3)
      have e2 : ¬ (6 * m + i2 = 6 * n + i) := by
        intro z
        rw [z, hid, nI_eq (by omega) (by omega)] at u3
        exact e u3.symm
      exact ⟨i2, u1, by simpa [lr_w, e2] using u2, by simpa [lr_w, e2] using u3⟩
  · intro m i2 i3 hm hi2 hi3 q1 q2 q3
    by_cases e2 : 6 * m + i2 = 6 * n + i
    · simp [lr_w, e2] at q1
    · by_cases e3 : 6 * m + i3 = 6 * n + i
      · simp [lr_w, e3] at q2
      · exact p3 m i2 i3 hm hi2 hi3 (by simpa [lr_w, e2] using q1) (by simpa [lr_w, e3] using q2) (by simpa [lr_w] using q3)
  · simpa [lr_P4, lr_w, lr_w2] using p4
  · intro j2 hj2 hj3
    have e : ¬ j2 = j := by omega
    simpa [lr_w, e] using p5 j2 hj2 hj3
  · exact h22
  · simpa [lr_K23, lr_w, lr_w2] using h23
theorem lr_s_pinadd {c ns np cnt tt : Nat} {ow : Nat → Nat} {a b : lr_S} (R : lr_Rel c ns np cnt tt ow a b) {n i k : Nat} (hn : n < 4) (hi : i < 6) (hk : k < 8) (hl : a.1 13 (6 * n + i) 2 ≤ a.1 1 0 0) (hnc : np < c) : lr_Rel c ns (np + 1) cnt tt ow (lr_wr (lr_wr (lr_wr (lr_wr a 0 0 4 (nI (np + 1))) 13 (6 * n + i) 0 (nI np)) 13 (6 * n + i) 1 (nI k)) 13 (6 * n + i) 2 (nI tt + 24)) (lr_wr (lr_wr (lr_wr b 41 0 np (nI (8 * n + k))) 42 0 np (nI tt)) 20 0 24 (nI (np + 1))) := by
  obtain ⟨h1, h2, h3, h4, h5, h6, h7, h7v, h8, h9, h10, h11, h12, h13, h14, h15, h16, h17, h18, h19, h20, p1, p2, p3, p4, p5, h22, h23⟩ := R
  have hnp : np ≤ 64 := by have := h4.2.2; have := h22.1; omega
  refine ⟨?_, ?_, ?_, ?_, ?_, ?_, ?_, ?_, ?_, ?_, ?_, ?_, ?_, ?_, ?_, ?_, ?_, ?_, ?_, ?_, ?_, ?_, ?_, ?_, ?_, ?_, ?_, ?_⟩
  · simpa [lr_K1, lr_w, lr_w2] using h1
  · simpa [lr_K2, lr_w, lr_w2] using h2
  · simpa [lr_K3, lr_w, lr_w2] using h3
  · exact ⟨by simp [lr_w], by simp [lr_w], by omega⟩
  · simpa [lr_K5, lr_w, lr_w2] using h5
  · simpa [lr_K6, lr_w, lr_w2] using h6
  · simpa [lr_K7, lr_w, lr_w2] using h7
  · simpa [lr_K7v, lr_w, lr_w2] using h7v
  · simpa [lr_K8, lr_w, lr_w2] using h8
  · simpa [lr_K9, lr_w, lr_w2] using h9
  · simpa [lr_K10, lr_w, lr_w2] using h10
  · simpa [lr_K11, lr_w, lr_w2] using h11
  · simpa [lr_K12, lr_w, lr_w2] using h12
  · simpa [lr_K13, lr_w, lr_w2] using h13
  · simpa [lr_K14, lr_w, lr_w2] using h14
  · simpa [lr_K15, lr_w, lr_w2] using h15
  · simpa [lr_K16, lr_w, lr_w2] using h16
  · simpa [lr_K17, lr_w, lr_w2] using h17
  · simpa [lr_K18, lr_w, lr_w2] using h18
  · simpa [lr_K19, lr_w, lr_w2] using h19
  · simpa [lr_K20, lr_w, lr_w2] using h20
  · intro m i2 hm hi2 hl2
    by_cases e : 6 * m + i2 = 6 * n + i
    · obtain ⟨rfl, rfl⟩ : m = n ∧ i2 = i := by omega
      exact ⟨np, k, by omega, hk, by simp [lr_w], by simp [lr_w], by simpa [lr_w] using p5 np (Nat.le_refl _) (by omega), by simp [lr_w], by simp [lr_w]⟩
    · obtain ⟨j2, k2, q1, q2, q3, q4, q5, q6, q7⟩ := p1 m i2 hm hi2 (by simpa [lr_w, e] using hl2)
      have e2 : ¬ j2 = np := by omega
      exact ⟨j2, k2, by omega, q2, by simpa [lr_w, e] using q3, by simpa [lr_w, e, e2] using q4, by simpa [lr_w] using q5, by simpa [lr_w, e] using q6, by simpa [lr_w, e2] using q7⟩
  · intro j2 m k2 hj2 hm hk2 q1 q2 q3
    by_cases e : j2 = np
    · subst e
      have q1 : nI (8 * n + k) = nI (8 * m + k2) := by simpa [lr_w] using q1
      rw [nI_eq (by omega) (by omega)] at q1
      have e3 : m = n := by omega
      subst e3
      refine ⟨i, hi, ?_, by simp [lr_w]⟩
      simpa [lr_w] using q3
    · obtain ⟨i2, u1, u2, u3⟩ := p2 j2 m k2 (by omega) hm hk2 (by simpa [lr_w, e] using q1) (by simpa [lr_w] using q2) (by simpa [lr_w, e] using q3)
      have e2 : ¬ (6 * m + i2 = 6 * n + i) := by
        intro z
        rw [z] at u2
        exact u2 hl
      exact ⟨i2, u1, by simpa [lr_w, e2] using u2, by simpa [lr_w, e2] using u3⟩
  · intro m i2 i3 hm hi2 hi3 q1 q2 q3
    have fresh : ∀ i4, i4 < 6 → ¬ 6 * m + i4 = 6 * n + i → ¬ a.1 13 (6 * m + i4) 2 ≤ a.1 1 0 0 → ¬ a.1 13 (6 * m + i4) 0 = nI np := by
      intro i4 hi4 _ hl4 z
      obtain ⟨j2, k2, u1, u2, u3, -⟩ := p1 m i4 hm hi4 hl4
      rw [z, nI_eq (by omega) (by omega)] at u3
      omega
    by_cases e2 : 6 * m + i2 = 6 * n + i
    · by_cases e3 : 6 * m + i3 = 6 * n + i
      · omega
      · have := fresh i3 hi3 e3 (by simpa [lr_w, e3] using q2)
        simp [lr_w, e2, e3] at q3
        exact absurd q3.symm this
    · by_cases e3 : 6 * m + i3 = 6 * n + i
      · have := fresh i2 hi2 e2 (by simpa [lr_w, e2] using q1)
        simp [lr_w, e2, e3] at q3
        exact absurd q3 this
      · exact p3 m i2 i3 hm hi2 hi3 (by simpa [lr_w, e2] using q1) (by simpa [lr_w, e3] using q2) (by simpa [lr_w, e2, e3] using q3)
  · intro j2 hj2
    by_cases e : j2 = np
    · subst e
      exact ⟨n, k, hn, hk, by simp [lr_w]⟩
    · simpa [lr_w, e] using p4 j2 (by omega)
  · intro j2 hj2 hj3
    simpa [lr_w] using p5 j2 (by omega) hj3
  · exact h22
  · simpa [lr_K23, lr_w, lr_w2] using h23
theorem lr_s_clock {c ns np cnt tt : Nat} {ow : Nat → Nat} {a b : lr_S} (R : lr_Rel c ns np cnt tt ow a b) (htt : tt + 1 ≤ 12 * c) : lr_Rel c ns np cnt (tt + 1) ow (lr_wr a 1 0 0 (nI (tt + 1))) (lr_wr b 20 0 0 (nI (tt + 1))) := by
  obtain ⟨h1, h2, h3, h4, h5, h6, h7, h7v, h8, h9, h10, h11, h12, h13, h14, h15, h16, h17, h18, h19, h20, p1, p2, p3, p4, p5, h22, h23⟩ := R
  have hnp : np ≤ 64 := by have := h4.2.2; have := h22.1; omega
  have live : ∀ x : Int32, ¬ x ≤ nI (tt + 1) → ¬ x ≤ nI tt := by
    intro x hx hx2
    have := h22.1
    exact hx (Int32.le_trans hx2 (nI_le (by omega) (by omega)))
  refine ⟨?_, ?_, ?_, ?_, ?_, ?_, ?_, ?_, ?_, ?_, ?_, ?_, ?_, ?_, ?_, ?_, ?_, ?_, ?_, ?_, ?_, ?_, ?_, ?_, ?_, ?_, ?_, ?_⟩
  · exact ⟨by simp [lr_w], by simp [lr_w], htt⟩
  · simpa [lr_K2, lr_w, lr_w2] using h2
  · simpa [lr_K3, lr_w, lr_w2] using h3
  · simpa [lr_K4, lr_w, lr_w2] using h4
  · simpa [lr_K5, lr_w, lr_w2] using h5
  · simpa [lr_K6, lr_w, lr_w2] using h6
  · simpa [lr_K7, lr_w, lr_w2] using h7
  · simpa [lr_K7v, lr_w, lr_w2] using h7v
  · simpa [lr_K8, lr_w, lr_w2] using h8
  · simpa [lr_K9, lr_w, lr_w2] using h9
  · simpa [lr_K10, lr_w, lr_w2] using h10
  · simpa [lr_K11, lr_w, lr_w2] using h11
  · simpa [lr_K12, lr_w, lr_w2] using h12
  · intro q d hq hd
    rcases h13 q d hq hd with g | ⟨x, y, hx, hy, gx, gy⟩
    · left
      simpa [lr_w] using g
    · right
      exact ⟨x, y, by omega, by omega, by simpa [lr_w] using gx, by simpa [lr_w] using gy⟩
  · simpa [lr_K14, lr_w, lr_w2] using h14
  · simpa [lr_K15, lr_w, lr_w2] using h15
  · simpa [lr_K16, lr_w, lr_w2] using h16
  · simpa [lr_K17, lr_w, lr_w2] using h17
  · simpa [lr_K18, lr_w, lr_w2] using h18
  · simpa [lr_K19, lr_w, lr_w2] using h19
  · simpa [lr_K20, lr_w, lr_w2] using h20
  · intro n i hn hi hl
    have hl2 := live (a.1 13 (6 * n + i) 2) (by simpa [lr_w] using hl)
    obtain ⟨j, k, q1, q2, q3, q4, q5, q6, q7⟩ := p1 n i hn hi (by rw [h1.1]; exact hl2)
    exact ⟨j, k, q1, q2, by simpa [lr_w] using q3, by simpa [lr_w] using q4, by simpa [lr_w] using q5, by simpa [lr_w] using q6, by simpa [lr_w] using q7⟩
  · intro j n k hj hn hk q1 q2 q3
    have q3 : ¬ b.1 42 0 j + 24 ≤ nI (tt + 1) := by simpa [lr_w] using q3
    obtain ⟨i, u1, u2, u3⟩ := p2 j n k hj hn hk (by simpa [lr_w] using q1) (by simpa [lr_w] using q2) (by rw [h1.1]; exact live _ q3)
    obtain ⟨j2, k2, v1, v2, v3, v4, -⟩ := p1 n i hn u1 u2
    have e : j2 = j := by
      rw [u3, nI_eq (by omega) (by omega)] at v3
      exact v3.symm
    subst e
    refine ⟨i, u1, ?_, by simpa [lr_w] using u3⟩
    have : ¬ a.1 13 (6 * n + i) 2 ≤ nI (tt + 1) := by rw [v4]; exact q3
    simpa [lr_w] using this
  · intro n i i2 hn hi hi2 q1 q2 q3
    have l1 := live (a.1 13 (6 * n + i) 2) (by simpa [lr_w] using q1)
    have l2 := live (a.1 13 (6 * n + i2) 2) (by simpa [lr_w] using q2)
    exact p3 n i i2 hn hi hi2 (by rw [h1.1]; exact l1) (by rw [h1.1]; exact l2) (by simpa [lr_w] using q3)
  · simpa [lr_P4, lr_w, lr_w2] using p4
  · simpa [lr_P5, lr_w, lr_w2] using p5
  · exact h22
  · simpa [lr_K23, lr_w, lr_w2] using h23
