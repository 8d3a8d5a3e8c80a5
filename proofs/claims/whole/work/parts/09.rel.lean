def lr_K1 (c tt : Nat) (a b : lr_S) : Prop := a.1 1 0 0 = nI tt ∧ b.1 20 0 0 = nI tt ∧ tt ≤ 12 * c
def lr_K2 (cnt : Nat) (a b : lr_S) : Prop := a.1 1 0 1 = nI cnt ∧ b.1 20 0 19 = nI cnt ∧ cnt ≤ 32
def lr_K3 (c ns : Nat) (a b : lr_S) : Prop := a.1 0 0 3 = nI ns ∧ b.1 20 0 17 = nI ns ∧ ns ≤ c
def lr_K4 (c np : Nat) (a b : lr_S) : Prop := a.1 0 0 4 = nI np ∧ b.1 20 0 24 = nI np ∧ np ≤ c
def lr_K5 (a : lr_S) : Prop := ∀ n, n < 4 → a.1 5 n 0 = nI n
def lr_K6 (a b : lr_S) : Prop := ∀ n, n < 4 → a.1 5 n 8 = b.1 23 0 n ∧ a.1 5 n 9 = b.1 21 0 n
def lr_K7 (a b : lr_S) : Prop := ∀ n r, n < 4 → r < 3 → a.1 11 n r = b.1 22 0 (3 * n + r)
def lr_K7v (a : lr_S) : Prop := ∀ n r, n < 4 → r < 3 → a.1 11 n r = -1 ∨ ∃ k, k < 8 ∧ a.1 11 n r = nI k ∧ ¬ a.1 7 (8 * n + k) 0 = 0
def lr_K8 (a b : lr_S) : Prop := ∀ q, q < 32 → a.1 7 q 0 = b.1 24 0 q ∧ a.1 7 q 1 = b.1 25 0 q ∧ a.1 7 q 2 = b.1 26 0 q ∧ a.1 7 q 6 = b.1 30 0 q ∧ a.1 7 q 7 = b.1 31 0 q ∧ a.1 7 q 8 = b.1 32 0 q ∧ a.1 7 q 9 = b.1 33 0 q ∧ a.1 7 q 10 = b.1 34 0 q ∧ a.1 7 q 11 = b.1 36 0 q ∧ a.1 7 q 12 = b.1 35 0 q
def lr_K9 (a : lr_S) : Prop := ∀ q, q < 32 → a.1 7 q 0 = 0 ∨ a.1 7 q 0 = 1 ∨ a.1 7 q 0 = 2
def lr_K10 (a b : lr_S) : Prop := ∀ q f, q < 32 → f < 2 → a.1 8 q f = b.1 27 0 (2 * q + f)
def lr_K11 (a : lr_S) : Prop := ∀ n k f, n < 4 → k < 8 → f < 2 → a.1 7 (8 * n + k) 0 = 1 → a.1 8 (8 * n + k) f = -1 ∨ ∃ j, j < 8 ∧ a.1 8 (8 * n + k) f = nI j ∧ ¬ a.1 7 (8 * n + j) 0 = 0
def lr_K12 (a b : lr_S) : Prop := ∀ q d, q < 32 → d < 4 → a.1 9 q d = b.1 28 0 (4 * q + d)
def lr_K13 (tt : Nat) (a b : lr_S) : Prop := ∀ q d, q < 32 → d < 4 → a.1 10 q d = b.1 29 0 (4 * q + d) ∨ ∃ x y, x ≤ tt ∧ y ≤ tt ∧ a.1 10 q d = nI x ∧ b.1 29 0 (4 * q + d) = nI y
def lr_K14 (ns : Nat) (ow : Nat → Nat) (a : lr_S) : Prop := ∀ n k, n < 4 → k < 8 → (a.1 7 (8 * n + k) 0 = 1 → ∃ s, s < ns ∧ a.1 7 (8 * n + k) 1 = nI s ∧ ow s = n) ∧ (a.1 7 (8 * n + k) 0 = 2 → ∃ s, s < ns ∧ a.1 7 (8 * n + k) 1 = nI s ∧ ¬ ow s = n ∧ a.1 7 (8 * n + k) 6 = nI (ow s))
def lr_K15 (a b : lr_S) : Prop := ∀ n, n < 4 → a.1 14 n 0 = b.1 45 0 n ∧ a.1 14 n 1 = b.1 46 0 n ∧ a.1 14 n 3 = b.1 48 0 n ∧ a.1 14 n 4 = b.1 49 0 n ∧ a.1 14 n 5 = b.1 50 0 n
def lr_K16 (c : Nat) (a b : lr_S) : Prop := ∀ n, n < 4 → ∃ m, m ≤ c ∧ a.1 14 n 1 = nI m ∧ (¬ a.1 14 n 0 = 0 → 1 ≤ m ∧ ∃ k, k < 8 ∧ a.1 14 n 2 = nI k ∧ b.1 47 0 n = nI (8 * n + k) ∧ (a.1 14 n 0 = 1 → a.1 7 (8 * n + k) 0 = 2))
def lr_K17 (a b : lr_S) : Prop := ∀ n d, n < 4 → d < 4 → a.1 3 (33 + 4 * n + d) 4 = b.1 51 0 (4 * n + d) ∧ a.1 3 (33 + 4 * n + d) 0 = b.1 52 0 (4 * n + d) ∧ a.1 3 (33 + 4 * n + d) 3 = b.1 53 0 (4 * n + d) ∧ a.1 3 (33 + 4 * n + d) 5 = b.1 54 0 (4 * n + d) ∧ (¬ a.1 3 (33 + 4 * n + d) 4 = 0 → a.1 3 (33 + 4 * n + d) 1 = nI n ∧ a.1 3 (33 + 4 * n + d) 2 = nI d ∧ (a.1 3 (33 + 4 * n + d) 0 = nI 7 ∨ a.1 3 (33 + 4 * n + d) 0 = nI 8))
def lr_K18 (a : lr_S) : Prop := (∀ p, p < 32 → a.2 p < 32) ∧ ∀ p p2, p < 32 → p2 < 32 → a.2 p = a.2 p2 → p = p2
def lr_K19 (cnt : Nat) (a b : lr_S) : Prop := ∀ p j, p < cnt → j < 6 → a.1 3 (a.2 p) j = b.1 38 0 (6 * p + j)
/-- a message that may be in flight: kind, sender, receiver, serial, number, extra -/
def lr_mv (ns : Nat) (ow : Nat → Nat) (f : Nat → Int32) : Prop := ∃ kd s d, kd ≤ 8 ∧ s < 4 ∧ d < 4 ∧ f 0 = nI kd ∧ f 1 = nI s ∧ f 2 = nI d ∧ (kd = 0 → ∃ e i, e < ns ∧ i < 3 ∧ f 3 = nI e ∧ f 5 = nI (4 * i + ow e)) ∧ ((kd = 2 ∨ kd = 5) → ∃ e, e < ns ∧ f 3 = nI e ∧ d = ow e ∧ ¬ s = ow e) ∧ (kd = 6 → ∃ e m, e < ns ∧ f 3 = nI e ∧ d = ow e ∧ 1 ≤ m ∧ m < 1000 ∧ f 4 = nI m) ∧ ((kd = 3 ∨ kd = 4) → ∃ e, e < ns ∧ f 3 = nI e ∧ ¬ d = ow e)
def lr_K20 (ns : Nat) (ow : Nat → Nat) (cnt : Nat) (a : lr_S) : Prop := ∀ p, p < cnt → lr_mv ns ow (fun j => a.1 3 (a.2 p) j)
def lr_P1 (np : Nat) (a b : lr_S) : Prop := ∀ n i, n < 4 → i < 6 → ¬ a.1 13 (6 * n + i) 2 ≤ a.1 1 0 0 → ∃ j k, j < np ∧ k < 8 ∧ a.1 13 (6 * n + i) 0 = nI j ∧ a.1 13 (6 * n + i) 2 = b.1 42 0 j + 24 ∧ b.1 43 0 j = 0 ∧ a.1 13 (6 * n + i) 1 = nI k ∧ b.1 41 0 j = nI (8 * n + k)
def lr_P2 (np : Nat) (a b : lr_S) : Prop := ∀ j n k, j < np → n < 4 → k < 8 → b.1 41 0 j = nI (8 * n + k) → b.1 43 0 j = 0 → ¬ b.1 42 0 j + 24 ≤ a.1 1 0 0 → ∃ i, i < 6 ∧ ¬ a.1 13 (6 * n + i) 2 ≤ a.1 1 0 0 ∧ a.1 13 (6 * n + i) 0 = nI j
def lr_P3 (a : lr_S) : Prop := ∀ n i i2, n < 4 → i < 6 → i2 < 6 → ¬ a.1 13 (6 * n + i) 2 ≤ a.1 1 0 0 → ¬ a.1 13 (6 * n + i2) 2 ≤ a.1 1 0 0 → a.1 13 (6 * n + i) 0 = a.1 13 (6 * n + i2) 0 → i = i2
def lr_P4 (np : Nat) (b : lr_S) : Prop := ∀ j, j < np → ∃ n k, n < 4 ∧ k < 8 ∧ b.1 41 0 j = nI (8 * n + k)
def lr_P5 (np : Nat) (b : lr_S) : Prop := ∀ j, np ≤ j → j < 512 → b.1 43 0 j = 0
def lr_K22 (c : Nat) (ow : Nat → Nat) : Prop := c ≤ 64 ∧ ∀ s, ow s < 4
def lr_K23 (a : lr_S) : Prop := ∀ q, q < 32 → ∃ s, s < 4 ∧ a.1 7 q 11 = nI s
def lr_Rel (c ns np cnt tt : Nat) (ow : Nat → Nat) (a b : lr_S) : Prop := lr_K1 c tt a b ∧ lr_K2 cnt a b ∧ lr_K3 c ns a b ∧ lr_K4 c np a b ∧ lr_K5 a ∧ lr_K6 a b ∧ lr_K7 a b ∧ lr_K7v a ∧ lr_K8 a b ∧ lr_K9 a ∧ lr_K10 a b ∧ lr_K11 a ∧ lr_K12 a b ∧ lr_K13 tt a b ∧ lr_K14 ns ow a ∧ lr_K15 a b ∧ lr_K16 c a b ∧ lr_K17 a b ∧ lr_K18 a ∧ lr_K19 cnt a b ∧ lr_K20 ns ow cnt a ∧ lr_P1 np a b ∧ lr_P2 np a b ∧ lr_P3 a ∧ lr_P4 np b ∧ lr_P5 np b ∧ lr_K22 c ow ∧ lr_K23 a
theorem lr_s_num {c ns np cnt tt : Nat} {ow : Nat → Nat} {a b : lr_S} (R : lr_Rel c ns np cnt tt ow a b) {n : Nat} (hn : n < 4) (v : Int32) : lr_Rel c ns np cnt tt ow (lr_wr a 5 n 8 v) (lr_wr b 23 0 n v) := by
  obtain ⟨h1, h2, h3, h4, h5, h6, h7, h7v, h8, h9, h10, h11, h12, h13, h14, h15, h16, h17, h18, h19, h20, p1, p2, p3, p4, p5, h22, h23⟩ := R
  refine ⟨?_, ?_, ?_, ?_, ?_, ?_, ?_, ?_, ?_, ?_, ?_, ?_, ?_, ?_, ?_, ?_, ?_, ?_, ?_, ?_, ?_, ?_, ?_, ?_, ?_, ?_, ?_, ?_⟩
  · simpa [lr_K1, lr_w, lr_w2] using h1
  · simpa [lr_K2, lr_w, lr_w2] using h2
  · simpa [lr_K3, lr_w, lr_w2] using h3
  · simpa [lr_K4, lr_w, lr_w2] using h4
  · simpa [lr_K5, lr_w, lr_w2] using h5
  · intro m hm
    have h := h6 m hm
    by_cases e : m = n
    · subst e
      simpa [lr_w] using h.2
    · simpa [lr_w, e] using h
  · simpa [lr_K7, lr_w, lr_w2] using h7
  · simpa [lr_K7v, lr_w, lr_w2] using h7v
  · simpa [lr_K8, lr_w, lr_w2] using h8
  · simpa [lr_K9, lr_w, lr_w2] using h9
  · simpa [lr_K10, lr_w, lr_w2] using h10
  · simpa [lr_K11, lr_w, lr_w2] using h11
  · simpa [lr_K12, lr_w, lr_w2] using h12
  · simpa [lr_K13, lr_w, lr_w2] using h13
  · simpa [lr_K14, lr_w, lr_w2] using h14
  · simpa [lr_K15, lr_w, lr_w2] using h15
  · simpa [lr_K16, lr_w, lr_w2] using h16
  · simpa [lr_K17, lr_w, lr_w2] using h17
  · simpa [lr_K18, lr_w, lr_w2] using h18
  · simpa [lr_K19, lr_w, lr_w2] using h19
  · simpa [lr_K20, lr_w, lr_w2] using h20
  · simpa [lr_P1, lr_w, lr_w2] using p1
  · simpa [lr_P2, lr_w, lr_w2] using p2
  · simpa [lr_P3, lr_w, lr_w2] using p3
  · simpa [lr_P4, lr_w, lr_w2] using p4
  · simpa [lr_P5, lr_w, lr_w2] using p5
  · exact h22
  · simpa [lr_K23, lr_w, lr_w2] using h23
theorem lr_s_crash {c ns np cnt tt : Nat} {ow : Nat → Nat} {a b : lr_S} (R : lr_Rel c ns np cnt tt ow a b) {n : Nat} (hn : n < 4) (v : Int32) : lr_Rel c ns np cnt tt ow (lr_wr a 5 n 9 v) (lr_wr b 21 0 n v) := by
  obtain ⟨h1, h2, h3, h4, h5, h6, h7, h7v, h8, h9, h10, h11, h12, h13, h14, h15, h16, h17, h18, h19, h20, p1, p2, p3, p4, p5, h22, h23⟩ := R
  refine ⟨?_, ?_, ?_, ?_, ?_, ?_, ?_, ?_, ?_, ?_, ?_, ?_, ?_, ?_, ?_, ?_, ?_, ?_, ?_, ?_, ?_, ?_, ?_, ?_, ?_, ?_, ?_, ?_⟩
  · simpa [lr_K1, lr_w, lr_w2] using h1
  · simpa [lr_K2, lr_w, lr_w2] using h2
  · simpa [lr_K3, lr_w, lr_w2] using h3
  · simpa [lr_K4, lr_w, lr_w2] using h4
  · simpa [lr_K5, lr_w, lr_w2] using h5
  · intro m hm
    have h := h6 m hm
    by_cases e : m = n
    · subst e
      simpa [lr_w] using h.1
    · simpa [lr_w, e] using h
  · simpa [lr_K7, lr_w, lr_w2] using h7
  · simpa [lr_K7v, lr_w, lr_w2] using h7v
  · simpa [lr_K8, lr_w, lr_w2] using h8
  · simpa [lr_K9, lr_w, lr_w2] using h9
  · simpa [lr_K10, lr_w, lr_w2] using h10
  · simpa [lr_K11, lr_w, lr_w2] using h11
  · simpa [lr_K12, lr_w, lr_w2] using h12
  · simpa [lr_K13, lr_w, lr_w2] using h13
  · simpa [lr_K14, lr_w, lr_w2] using h14
  · simpa [lr_K15, lr_w, lr_w2] using h15
  · simpa [lr_K16, lr_w, lr_w2] using h16
  · simpa [lr_K17, lr_w, lr_w2] using h17
  · simpa [lr_K18, lr_w, lr_w2] using h18
  · simpa [lr_K19, lr_w, lr_w2] using h19
  · simpa [lr_K20, lr_w, lr_w2] using h20
  · simpa [lr_P1, lr_w, lr_w2] using p1
  · simpa [lr_P2, lr_w, lr_w2] using p2
  · simpa [lr_P3, lr_w, lr_w2] using p3
  · simpa [lr_P4, lr_w, lr_w2] using p4
  · simpa [lr_P5, lr_w, lr_w2] using p5
  · exact h22
  · simpa [lr_K23, lr_w, lr_w2] using h23
theorem lr_s_root {c ns np cnt tt : Nat} {ow : Nat → Nat} {a b : lr_S} (R : lr_Rel c ns np cnt tt ow a b) {n r : Nat} (hn : n < 4) (hr : r < 3) {v : Int32} (hv : v = -1 ∨ ∃ k, k < 8 ∧ v = nI k ∧ ¬ a.1 7 (8 * n + k) 0 = 0) : lr_Rel c ns np cnt tt ow (lr_wr a 11 n r v) (lr_wr b 22 0 (3 * n + r) v) := by
  obtain ⟨h1, h2, h3, h4, h5, h6, h7, h7v, h8, h9, h10, h11, h12, h13, h14, h15, h16, h17, h18, h19, h20, p1, p2, p3, p4, p5, h22, h23⟩ := R
  refine ⟨?_, ?_, ?_, ?_, ?_, ?_, ?_, ?_, ?_, ?_, ?_, ?_, ?_, ?_, ?_, ?_, ?_, ?_, ?_, ?_, ?_, ?_, ?_, ?_, ?_, ?_, ?_, ?_⟩
  · simpa [lr_K1, lr_w, lr_w2] using h1
  · simpa [lr_K2, lr_w, lr_w2] using h2
  · simpa [lr_K3, lr_w, lr_w2] using h3
  · simpa [lr_K4, lr_w, lr_w2] using h4
  · simpa [lr_K5, lr_w, lr_w2] using h5
  · simpa [lr_K6, lr_w, lr_w2] using h6
  · intro m s hm hs
    have h := h7 m s hm hs
    by_cases e : m = n ∧ s = r
    · obtain ⟨rfl, rfl⟩ := e
      simp [lr_w]
    · have e2 : ¬ (3 * m + s = 3 * n + r) := fun z => e (by omega)
      simpa [lr_w, e, e2] using h
  · intro m s hm hs
    by_cases e : m = n ∧ s = r
    · obtain ⟨rfl, rfl⟩ := e
      simpa [lr_w] using hv
    · simpa [lr_w, e] using h7v m s hm hs
  · simpa [lr_K8, lr_w, lr_w2] using h8
  · simpa [lr_K9, lr_w, lr_w2] using h9
  · simpa [lr_K10, lr_w, lr_w2] using h10
  · simpa [lr_K11, lr_w, lr_w2] using h11
  · simpa [lr_K12, lr_w, lr_w2] using h12
  · simpa [lr_K13, lr_w, lr_w2] using h13
  · simpa [lr_K14, lr_w, lr_w2] using h14
  · simpa [lr_K15, lr_w, lr_w2] using h15
  · simpa [lr_K16, lr_w, lr_w2] using h16
  · simpa [lr_K17, lr_w, lr_w2] using h17
  · simpa [lr_K18, lr_w, lr_w2] using h18
  · simpa [lr_K19, lr_w, lr_w2] using h19
  · simpa [lr_K20, lr_w, lr_w2] using h20
  · simpa [lr_P1, lr_w, lr_w2] using p1
  · simpa [lr_P2, lr_w, lr_w2] using p2
  · simpa [lr_P3, lr_w, lr_w2] using p3
  · simpa [lr_P4, lr_w, lr_w2] using p4
  · simpa [lr_P5, lr_w, lr_w2] using p5
  · exact h22
  · simpa [lr_K23, lr_w, lr_w2] using h23
theorem lr_s_field {c ns np cnt tt : Nat} {ow : Nat → Nat} {a b : lr_S} (R : lr_Rel c ns np cnt tt ow a b) {n k f : Nat} (hn : n < 4) (hk : k < 8) (hf : f < 2) {v : Int32} (hv : v = -1 ∨ ∃ j, j < 8 ∧ v = nI j ∧ ¬ a.1 7 (8 * n + j) 0 = 0) : lr_Rel c ns np cnt tt ow (lr_wr a 8 (8 * n + k) f v) (lr_wr b 27 0 (2 * (8 * n + k) + f) v) := by
  obtain ⟨h1, h2, h3, h4, h5, h6, h7, h7v, h8, h9, h10, h11, h12, h13, h14, h15, h16, h17, h18, h19, h20, p1, p2, p3, p4, p5, h22, h23⟩ := R
  refine ⟨?_, ?_, ?_, ?_, ?_, ?_, ?_, ?_, ?_, ?_, ?_, ?_, ?_, ?_, ?_, ?_, ?_, ?_, ?_, ?_, ?_, ?_, ?_, ?_, ?_, ?_, ?_, ?_⟩
  · simpa [lr_K1, lr_w, lr_w2] using h1
  · simpa [lr_K2, lr_w, lr_w2] using h2
  · simpa [lr_K3, lr_w, lr_w2] using h3
  · simpa [lr_K4, lr_w, lr_w2] using h4
  · simpa [lr_K5, lr_w, lr_w2] using h5
  · simpa [lr_K6, lr_w, lr_w2] using h6
  · simpa [lr_K7, lr_w, lr_w2] using h7
  · simpa [lr_K7v, lr_w, lr_w2] using h7v
  · simpa [lr_K8, lr_w, lr_w2] using h8
  · simpa [lr_K9, lr_w, lr_w2] using h9
  · intro m s hm hs
    have h := h10 m s hm hs
    by_cases e : m = 8 * n + k ∧ s = f
    · obtain ⟨rfl, rfl⟩ := e
      simp [lr_w]
    · have e2 : ¬ (2 * m + s = 2 * (8 * n + k) + f) := fun z => e (by omega)
      simpa [lr_w, e, e2] using h
  · intro m s g hm hs hg h0
    have h0 : a.1 7 (8 * m + s) 0 = 1 := by simpa [lr_w] using h0
    by_cases e : 8 * m + s = 8 * n + k ∧ g = f
    · obtain ⟨e1, rfl⟩ := e
      obtain ⟨rfl, rfl⟩ : m = n ∧ s = k := by omega
      simpa [lr_w] using hv
    · simpa [lr_w, e] using h11 m s g hm hs hg h0
  · simpa [lr_K12, lr_w, lr_w2] using h12
  · simpa [lr_K13, lr_w, lr_w2] using h13
  · simpa [lr_K14, lr_w, lr_w2] using h14
  · simpa [lr_K15, lr_w, lr_w2] using h15
  · simpa [lr_K16, lr_w, lr_w2] using h16
  · simpa [lr_K17, lr_w, lr_w2] using h17
  · simpa [lr_K18, lr_w, lr_w2] using h18
  · simpa [lr_K19, lr_w, lr_w2] using h19
  · simpa [lr_K20, lr_w, lr_w2] using h20
  · simpa [lr_P1, lr_w, lr_w2] using p1
  · simpa [lr_P2, lr_w, lr_w2] using p2
  · simpa [lr_P3, lr_w, lr_w2] using p3
  · simpa [lr_P4, lr_w, lr_w2] using p4
  · simpa [lr_P5, lr_w, lr_w2] using p5
  · exact h22
  · simpa [lr_K23, lr_w, lr_w2] using h23
theorem lr_s_value {c ns np cnt tt : Nat} {ow : Nat → Nat} {a b : lr_S} (R : lr_Rel c ns np cnt tt ow a b) {q : Nat} (hq : q < 32) (v : Int32) : lr_Rel c ns np cnt tt ow (lr_wr a 7 q 2 v) (lr_wr b 26 0 q v) := by
  obtain ⟨h1, h2, h3, h4, h5, h6, h7, h7v, h8, h9, h10, h11, h12, h13, h14, h15, h16, h17, h18, h19, h20, p1, p2, p3, p4, p5, h22, h23⟩ := R
  refine ⟨?_, ?_, ?_, ?_, ?_, ?_, ?_, ?_, ?_, ?_, ?_, ?_, ?_, ?_, ?_, ?_, ?_, ?_, ?_, ?_, ?_, ?_, ?_, ?_, ?_, ?_, ?_, ?_⟩
  · simpa [lr_K1, lr_w, lr_w2] using h1
  · simpa [lr_K2, lr_w, lr_w2] using h2
  · simpa [lr_K3, lr_w, lr_w2] using h3
  · simpa [lr_K4, lr_w, lr_w2] using h4
  · simpa [lr_K5, lr_w, lr_w2] using h5
  · simpa [lr_K6, lr_w, lr_w2] using h6
  · simpa [lr_K7, lr_w, lr_w2] using h7
  · simpa [lr_K7v, lr_w, lr_w2] using h7v
  · intro m hm
    have h := h8 m hm
    by_cases e : m = q
    · subst e
      obtain ⟨g0, g1, g2, g6, g7, g8, g9, g10, g11, g12⟩ := h
      exact ⟨by simpa [lr_w] using g0, by simpa [lr_w] using g1, by simp [lr_w], by simpa [lr_w] using g6, by simpa [lr_w] using g7, by simpa [lr_w] using g8, by simpa [lr_w] using g9, by simpa [lr_w] using g10, by simpa [lr_w] using g11, by simpa [lr_w] using g12⟩
    · simpa [lr_w, e] using h
  · simpa [lr_K9, lr_w, lr_w2] using h9
  · simpa [lr_K10, lr_w, lr_w2] using h10
  · simpa [lr_K11, lr_w, lr_w2] using h11
  · simpa [lr_K12, lr_w, lr_w2] using h12
  · simpa [lr_K13, lr_w, lr_w2] using h13
  · simpa [lr_K14, lr_w, lr_w2] using h14
  · simpa [lr_K15, lr_w, lr_w2] using h15
  · simpa [lr_K16, lr_w, lr_w2] using h16
  · simpa [lr_K17, lr_w, lr_w2] using h17
  · simpa [lr_K18, lr_w, lr_w2] using h18
  · simpa [lr_K19, lr_w, lr_w2] using h19
  · simpa [lr_K20, lr_w, lr_w2] using h20
  · simpa [lr_P1, lr_w, lr_w2] using p1
  · simpa [lr_P2, lr_w, lr_w2] using p2
  · simpa [lr_P3, lr_w, lr_w2] using p3
  · simpa [lr_P4, lr_w, lr_w2] using p4
  · simpa [lr_P5, lr_w, lr_w2] using p5
  · exact h22
  · simpa [lr_K23, lr_w, lr_w2] using h23
theorem lr_s_first {c ns np cnt tt : Nat} {ow : Nat → Nat} {a b : lr_S} (R : lr_Rel c ns np cnt tt ow a b) {q : Nat} (hq : q < 32) (v : Int32) : lr_Rel c ns np cnt tt ow (lr_wr a 7 q 7 v) (lr_wr b 31 0 q v) := by
  obtain ⟨h1, h2, h3, h4, h5, h6, h7, h7v, h8, h9, h10, h11, h12, h13, h14, h15, h16, h17, h18, h19, h20, p1, p2, p3, p4, p5, h22, h23⟩ := R
  refine ⟨?_, ?_, ?_, ?_, ?_, ?_, ?_, ?_, ?_, ?_, ?_, ?_, ?_, ?_, ?_, ?_, ?_, ?_, ?_, ?_, ?_, ?_, ?_, ?_, ?_, ?_, ?_, ?_⟩
  · simpa [lr_K1, lr_w, lr_w2] using h1
  · simpa [lr_K2, lr_w, lr_w2] using h2
  · simpa [lr_K3, lr_w, lr_w2] using h3
  · simpa [lr_K4, lr_w, lr_w2] using h4
  · simpa [lr_K5, lr_w, lr_w2] using h5
  · simpa [lr_K6, lr_w, lr_w2] using h6
  · simpa [lr_K7, lr_w, lr_w2] using h7
  · simpa [lr_K7v, lr_w, lr_w2] using h7v
  · intro m hm
    have h := h8 m hm
    by_cases e : m = q
    · subst e
      obtain ⟨g0, g1, g2, g6, g7, g8, g9, g10, g11, g12⟩ := h
      exact ⟨by simpa [lr_w] using g0, by simpa [lr_w] using g1, by simpa [lr_w] using g2, by simpa [lr_w] using g6, by simp [lr_w], by simpa [lr_w] using g8, by simpa [lr_w] using g9, by simpa [lr_w] using g10, by simpa [lr_w] using g11, by simpa [lr_w] using g12⟩
    · simpa [lr_w, e] using h
  · simpa [lr_K9, lr_w, lr_w2] using h9
  · simpa [lr_K10, lr_w, lr_w2] using h10
  · simpa [lr_K11, lr_w, lr_w2] using h11
  · simpa [lr_K12, lr_w, lr_w2] using h12
  · simpa [lr_K13, lr_w, lr_w2] using h13
  · simpa [lr_K14, lr_w, lr_w2] using h14
  · simpa [lr_K15, lr_w, lr_w2] using h15
  · simpa [lr_K16, lr_w, lr_w2] using h16
  · simpa [lr_K17, lr_w, lr_w2] using h17
  · simpa [lr_K18, lr_w, lr_w2] using h18
  · simpa [lr_K19, lr_w, lr_w2] using h19
  · simpa [lr_K20, lr_w, lr_w2] using h20
  · simpa [lr_P1, lr_w, lr_w2] using p1
  · simpa [lr_P2, lr_w, lr_w2] using p2
  · simpa [lr_P3, lr_w, lr_w2] using p3
  · simpa [lr_P4, lr_w, lr_w2] using p4
  · simpa [lr_P5, lr_w, lr_w2] using p5
  · exact h22
  · simpa [lr_K23, lr_w, lr_w2] using h23
theorem lr_s_sent {c ns np cnt tt : Nat} {ow : Nat → Nat} {a b : lr_S} (R : lr_Rel c ns np cnt tt ow a b) {q : Nat} (hq : q < 32) (v : Int32) : lr_Rel c ns np cnt tt ow (lr_wr a 7 q 8 v) (lr_wr b 32 0 q v) := by
  obtain ⟨h1, h2, h3, h4, h5, h6, h7, h7v, h8, h9, h10, h11, h12, h13, h14, h15, h16, h17, h18, h19, h20, p1, p2, p3, p4, p5, h22, h23⟩ := R
  refine ⟨?_, ?_, ?_, ?_, ?_, ?_, ?_, ?_, ?_, ?_, ?_, ?_, ?_, ?_, ?_, ?_, ?_, ?_, ?_, ?_, ?_, ?_, ?_, ?_, ?_, ?_, ?_, ?_⟩
  · simpa [lr_K1, lr_w, lr_w2] using h1
  · simpa [lr_K2, lr_w, lr_w2] using h2
  · simpa [lr_K3, lr_w, lr_w2] using h3
  · simpa [lr_K4, lr_w, lr_w2] using h4
  · simpa [lr_K5, lr_w, lr_w2] using h5
  · simpa [lr_K6, lr_w, lr_w2] using h6
  · simpa [lr_K7, lr_w, lr_w2] using h7
  · simpa [lr_K7v, lr_w, lr_w2] using h7v
  · intro m hm
    have h := h8 m hm
    by_cases e : m = q
    · subst e
      obtain ⟨g0, g1, g2, g6, g7, g8, g9, g10, g11, g12⟩ := h
      exact ⟨by simpa [lr_w] using g0, by simpa [lr_w] using g1, by simpa [lr_w] using g2, by simpa [lr_w] using g6, by simpa [lr_w] using g7, by simp [lr_w], by simpa [lr_w] using g9, by simpa [lr_w] using g10, by simpa [lr_w] using g11, by simpa [lr_w] using g12⟩
    · simpa [lr_w, e] using h
  · simpa [lr_K9, lr_w, lr_w2] using h9
  · simpa [lr_K10, lr_w, lr_w2] using h10
  · simpa [lr_K11, lr_w, lr_w2] using h11
  · simpa [lr_K12, lr_w, lr_w2] using h12
  · simpa [lr_K13, lr_w, lr_w2] using h13
  · simpa [lr_K14, lr_w, lr_w2] using h14
  · simpa [lr_K15, lr_w, lr_w2] using h15
  · simpa [lr_K16, lr_w, lr_w2] using h16
  · simpa [lr_K17, lr_w, lr_w2] using h17
  · simpa [lr_K18, lr_w, lr_w2] using h18
  · simpa [lr_K19, lr_w, lr_w2] using h19
  · simpa [lr_K20, lr_w, lr_w2] using h20
  · simpa [lr_P1, lr_w, lr_w2] using p1
  · simpa [lr_P2, lr_w, lr_w2] using p2
  · simpa [lr_P3, lr_w, lr_w2] using p3
  · simpa [lr_P4, lr_w, lr_w2] using p4
  · simpa [lr_P5, lr_w, lr_w2] using p5
  · exact h22
  · simpa [lr_K23, lr_w, lr_w2] using h23
theorem lr_s_expiry {c ns np cnt tt : Nat} {ow : Nat → Nat} {a b : lr_S} (R : lr_Rel c ns np cnt tt ow a b) {q : Nat} (hq : q < 32) (v : Int32) : lr_Rel c ns np cnt tt ow (lr_wr a 7 q 9 v) (lr_wr b 33 0 q v) := by
  obtain ⟨h1, h2, h3, h4, h5, h6, h7, h7v, h8, h9, h10, h11, h12, h13, h14, h15, h16, h17, h18, h19, h20, p1, p2, p3, p4, p5, h22, h23⟩ := R
  refine ⟨?_, ?_, ?_, ?_, ?_, ?_, ?_, ?_, ?_, ?_, ?_, ?_, ?_, ?_, ?_, ?_, ?_, ?_, ?_, ?_, ?_, ?_, ?_, ?_, ?_, ?_, ?_, ?_⟩
  · simpa [lr_K1, lr_w, lr_w2] using h1
  · simpa [lr_K2, lr_w, lr_w2] using h2
  · simpa [lr_K3, lr_w, lr_w2] using h3
  · simpa [lr_K4, lr_w, lr_w2] using h4
  · simpa [lr_K5, lr_w, lr_w2] using h5
  · simpa [lr_K6, lr_w, lr_w2] using h6
  · simpa [lr_K7, lr_w, lr_w2] using h7
  · simpa [lr_K7v, lr_w, lr_w2] using h7v
  · intro m hm
    have h := h8 m hm
    by_cases e : m = q
    · subst e
      obtain ⟨g0, g1, g2, g6, g7, g8, g9, g10, g11, g12⟩ := h
      exact ⟨by simpa [lr_w] using g0, by simpa [lr_w] using g1, by simpa [lr_w] using g2, by simpa [lr_w] using g6, by simpa [lr_w] using g7, by simpa [lr_w] using g8, by simp [lr_w], by simpa [lr_w] using g10, by simpa [lr_w] using g11, by simpa [lr_w] using g12⟩
    · simpa [lr_w, e] using h
  · simpa [lr_K9, lr_w, lr_w2] using h9
  · simpa [lr_K10, lr_w, lr_w2] using h10
  · simpa [lr_K11, lr_w, lr_w2] using h11
  · simpa [lr_K12, lr_w, lr_w2] using h12
  · simpa [lr_K13, lr_w, lr_w2] using h13
  · simpa [lr_K14, lr_w, lr_w2] using h14
  · simpa [lr_K15, lr_w, lr_w2] using h15
  · simpa [lr_K16, lr_w, lr_w2] using h16
  · simpa [lr_K17, lr_w, lr_w2] using h17
  · simpa [lr_K18, lr_w, lr_w2] using h18
  · simpa [lr_K19, lr_w, lr_w2] using h19
  · simpa [lr_K20, lr_w, lr_w2] using h20
  · simpa [lr_P1, lr_w, lr_w2] using p1
  · simpa [lr_P2, lr_w, lr_w2] using p2
  · simpa [lr_P3, lr_w, lr_w2] using p3
  · simpa [lr_P4, lr_w, lr_w2] using p4
  · simpa [lr_P5, lr_w, lr_w2] using p5
  · exact h22
  · simpa [lr_K23, lr_w, lr_w2] using h23
theorem lr_s_good {c ns np cnt tt : Nat} {ow : Nat → Nat} {a b : lr_S} (R : lr_Rel c ns np cnt tt ow a b) {q : Nat} (hq : q < 32) (v : Int32) : lr_Rel c ns np cnt tt ow (lr_wr a 7 q 10 v) (lr_wr b 34 0 q v) := by
  obtain ⟨h1, h2, h3, h4, h5, h6, h7, h7v, h8, h9, h10, h11, h12, h13, h14, h15, h16, h17, h18, h19, h20, p1, p2, p3, p4, p5, h22, h23⟩ := R
  refine ⟨?_, ?_, ?_, ?_, ?_, ?_, ?_, ?_, ?_, ?_, ?_, ?_, ?_, ?_, ?_, ?_, ?_, ?_, ?_, ?_, ?_, ?_, ?_, ?_, ?_, ?_, ?_, ?_⟩
  · simpa [lr_K1, lr_w, lr_w2] using h1
  · simpa [lr_K2, lr_w, lr_w2] using h2
  · simpa [lr_K3, lr_w, lr_w2] using h3
  · simpa [lr_K4, lr_w, lr_w2] using h4
  · simpa [lr_K5, lr_w, lr_w2] using h5
  · simpa [lr_K6, lr_w, lr_w2] using h6
  · simpa [lr_K7, lr_w, lr_w2] using h7
  · simpa [lr_K7v, lr_w, lr_w2] using h7v
  · intro m hm
    have h := h8 m hm
    by_cases e : m = q
    · subst e
      obtain ⟨g0, g1, g2, g6, g7, g8, g9, g10, g11, g12⟩ := h
      exact ⟨by simpa [lr_w] using g0, by simpa [lr_w] using g1, by simpa [lr_w] using g2, by simpa [lr_w] using g6, by simpa [lr_w] using g7, by simpa [lr_w] using g8, by simpa [lr_w] using g9, by simp [lr_w], by simpa [lr_w] using g11, by simpa [lr_w] using g12⟩
    · simpa [lr_w, e] using h
  · simpa [lr_K9, lr_w, lr_w2] using h9
  · simpa [lr_K10, lr_w, lr_w2] using h10
  · simpa [lr_K11, lr_w, lr_w2] using h11
  · simpa [lr_K12, lr_w, lr_w2] using h12
  · simpa [lr_K13, lr_w, lr_w2] using h13
  · simpa [lr_K14, lr_w, lr_w2] using h14
  · simpa [lr_K15, lr_w, lr_w2] using h15
  · simpa [lr_K16, lr_w, lr_w2] using h16
  · simpa [lr_K17, lr_w, lr_w2] using h17
  · simpa [lr_K18, lr_w, lr_w2] using h18
  · simpa [lr_K19, lr_w, lr_w2] using h19
  · simpa [lr_K20, lr_w, lr_w2] using h20
  · simpa [lr_P1, lr_w, lr_w2] using p1
  · simpa [lr_P2, lr_w, lr_w2] using p2
  · simpa [lr_P3, lr_w, lr_w2] using p3
  · simpa [lr_P4, lr_w, lr_w2] using p4
  · simpa [lr_P5, lr_w, lr_w2] using p5
  · exact h22
  · simpa [lr_K23, lr_w, lr_w2] using h23
theorem lr_s_cred {c ns np cnt tt : Nat} {ow : Nat → Nat} {a b : lr_S} (R : lr_Rel c ns np cnt tt ow a b) {q : Nat} (hq : q < 32) (v : Int32) (hv : ∃ s, s < 4 ∧ v = nI s) : lr_Rel c ns np cnt tt ow (lr_wr a 7 q 11 v) (lr_wr b 36 0 q v) := by
  obtain ⟨h1, h2, h3, h4, h5, h6, h7, h7v, h8, h9, h10, h11, h12, h13, h14, h15, h16, h17, h18, h19, h20, p1, p2, p3, p4, p5, h22, h23⟩ := R
  refine ⟨?_, ?_, ?_, ?_, ?_, ?_, ?_, ?_, ?_, ?_, ?_, ?_, ?_, ?_, ?_, ?_, ?_, ?_, ?_, ?_, ?_, ?_, ?_, ?_, ?_, ?_, ?_, ?_⟩
  · simpa [lr_K1, lr_w, lr_w2] using h1
  · simpa [lr_K2, lr_w, lr_w2] using h2
  · simpa [lr_K3, lr_w, lr_w2] using h3
  · simpa [lr_K4, lr_w, lr_w2] using h4
  · simpa [lr_K5, lr_w, lr_w2] using h5
  · simpa [lr_K6, lr_w, lr_w2] using h6
  · simpa [lr_K7, lr_w, lr_w2] using h7
  · simpa [lr_K7v, lr_w, lr_w2] using h7v
  · intro m hm
    have h := h8 m hm
    by_cases e : m = q
    · subst e
      obtain ⟨g0, g1, g2, g6, g7, g8, g9, g10, g11, g12⟩ := h
      exact ⟨by simpa [lr_w] using g0, by simpa [lr_w] using g1, by simpa [lr_w] using g2, by simpa [lr_w] using g6, by simpa [lr_w] using g7, by simpa [lr_w] using g8, by simpa [lr_w] using g9, by simpa [lr_w] using g10, by simp [lr_w], by simpa [lr_w] using g12⟩
    · simpa [lr_w, e] using h
  · simpa [lr_K9, lr_w, lr_w2] using h9
  · simpa [lr_K10, lr_w, lr_w2] using h10
  · simpa [lr_K11, lr_w, lr_w2] using h11
  · simpa [lr_K12, lr_w, lr_w2] using h12
  · simpa [lr_K13, lr_w, lr_w2] using h13
  · simpa [lr_K14, lr_w, lr_w2] using h14
  · simpa [lr_K15, lr_w, lr_w2] using h15
  · simpa [lr_K16, lr_w, lr_w2] using h16
  · simpa [lr_K17, lr_w, lr_w2] using h17
  · simpa [lr_K18, lr_w, lr_w2] using h18
  · simpa [lr_K19, lr_w, lr_w2] using h19
  · simpa [lr_K20, lr_w, lr_w2] using h20
  · simpa [lr_P1, lr_w, lr_w2] using p1
  · simpa [lr_P2, lr_w, lr_w2] using p2
  · simpa [lr_P3, lr_w, lr_w2] using p3
  · simpa [lr_P4, lr_w, lr_w2] using p4
  · simpa [lr_P5, lr_w, lr_w2] using p5
  · exact h22
  · intro m hm
    by_cases e : m = q
    · subst e
      simpa [lr_w] using hv
    · simpa [lr_w, e] using h23 m hm
theorem lr_s_debt {c ns np cnt tt : Nat} {ow : Nat → Nat} {a b : lr_S} (R : lr_Rel c ns np cnt tt ow a b) {q : Nat} (hq : q < 32) (v : Int32) : lr_Rel c ns np cnt tt ow (lr_wr a 7 q 12 v) (lr_wr b 35 0 q v) := by
  obtain ⟨h1, h2, h3, h4, h5, h6, h7, h7v, h8, h9, h10, h11, h12, h13, h14, h15, h16, h17, h18, h19, h20, p1, p2, p3, p4, p5, h22, h23⟩ := R
  refine ⟨?_, ?_, ?_, ?_, ?_, ?_, ?_, ?_, ?_, ?_, ?_, ?_, ?_, ?_, ?_, ?_, ?_, ?_, ?_, ?_, ?_, ?_, ?_, ?_, ?_, ?_, ?_, ?_⟩
  · simpa [lr_K1, lr_w, lr_w2] using h1
  · simpa [lr_K2, lr_w, lr_w2] using h2
  · simpa [lr_K3, lr_w, lr_w2] using h3
  · simpa [lr_K4, lr_w, lr_w2] using h4
  · simpa [lr_K5, lr_w, lr_w2] using h5
  · simpa [lr_K6, lr_w, lr_w2] using h6
  · simpa [lr_K7, lr_w, lr_w2] using h7
  · simpa [lr_K7v, lr_w, lr_w2] using h7v
  · intro m hm
    have h := h8 m hm
    by_cases e : m = q
    · subst e
      obtain ⟨g0, g1, g2, g6, g7, g8, g9, g10, g11, g12⟩ := h
      exact ⟨by simpa [lr_w] using g0, by simpa [lr_w] using g1, by simpa [lr_w] using g2, by simpa [lr_w] using g6, by simpa [lr_w] using g7, by simpa [lr_w] using g8, by simpa [lr_w] using g9, by simpa [lr_w] using g10, by simpa [lr_w] using g11, by simp [lr_w]⟩
    · simpa [lr_w, e] using h
  · simpa [lr_K9, lr_w, lr_w2] using h9
  · simpa [lr_K10, lr_w, lr_w2] using h10
  · simpa [lr_K11, lr_w, lr_w2] using h11
  · simpa [lr_K12, lr_w, lr_w2] using h12
  · simpa [lr_K13, lr_w, lr_w2] using h13
  · simpa [lr_K14, lr_w, lr_w2] using h14
  · simpa [lr_K15, lr_w, lr_w2] using h15
  · simpa [lr_K16, lr_w, lr_w2] using h16
  · simpa [lr_K17, lr_w, lr_w2] using h17
  · simpa [lr_K18, lr_w, lr_w2] using h18
  · simpa [lr_K19, lr_w, lr_w2] using h19
  · simpa [lr_K20, lr_w, lr_w2] using h20
  · simpa [lr_P1, lr_w, lr_w2] using p1
  · simpa [lr_P2, lr_w, lr_w2] using p2
  · simpa [lr_P3, lr_w, lr_w2] using p3
  · simpa [lr_P4, lr_w, lr_w2] using p4
  · simpa [lr_P5, lr_w, lr_w2] using p5
  · exact h22
  · simpa [lr_K23, lr_w, lr_w2] using h23
theorem lr_s_last {c ns np cnt tt : Nat} {ow : Nat → Nat} {a b : lr_S} (R : lr_Rel c ns np cnt tt ow a b) {q d : Nat} (hq : q < 32) (hd : d < 4) (v : Int32) : lr_Rel c ns np cnt tt ow (lr_wr a 9 q d v) (lr_wr b 28 0 (4 * q + d) v) := by
  obtain ⟨h1, h2, h3, h4, h5, h6, h7, h7v, h8, h9, h10, h11, h12, h13, h14, h15, h16, h17, h18, h19, h20, p1, p2, p3, p4, p5, h22, h23⟩ := R
  refine ⟨?_, ?_, ?_, ?_, ?_, ?_, ?_, ?_, ?_, ?_, ?_, ?_, ?_, ?_, ?_, ?_, ?_, ?_, ?_, ?_, ?_, ?_, ?_, ?_, ?_, ?_, ?_, ?_⟩
  · simpa [lr_K1, lr_w, lr_w2] using h1
  · simpa [lr_K2, lr_w, lr_w2] using h2
  · simpa [lr_K3, lr_w, lr_w2] using h3
  · simpa [lr_K4, lr_w, lr_w2] using h4
  · simpa [lr_K5, lr_w, lr_w2] using h5
  · simpa [lr_K6, lr_w, lr_w2] using h6
  · simpa [lr_K7, lr_w, lr_w2] using h7
  · simpa [lr_K7v, lr_w, lr_w2] using h7v
  · simpa [lr_K8, lr_w, lr_w2] using h8
  · simpa [lr_K9, lr_w, lr_w2] using h9
  · simpa [lr_K10, lr_w, lr_w2] using h10
  · simpa [lr_K11, lr_w, lr_w2] using h11
  · intro m s hm hs
    have h := h12 m s hm hs
    by_cases e : m = q ∧ s = d
    · obtain ⟨rfl, rfl⟩ := e
      simp [lr_w]
    · have e2 : ¬ (4 * m + s = 4 * q + d) := fun z => e (by omega)
      simpa [lr_w, e, e2] using h
  · simpa [lr_K13, lr_w, lr_w2] using h13
  · simpa [lr_K14, lr_w, lr_w2] using h14
  · simpa [lr_K15, lr_w, lr_w2] using h15
  · simpa [lr_K16, lr_w, lr_w2] using h16
  · simpa [lr_K17, lr_w, lr_w2] using h17
  · simpa [lr_K18, lr_w, lr_w2] using h18
  · simpa [lr_K19, lr_w, lr_w2] using h19
  · simpa [lr_K20, lr_w, lr_w2] using h20
  · simpa [lr_P1, lr_w, lr_w2] using p1
  · simpa [lr_P2, lr_w, lr_w2] using p2
  · simpa [lr_P3, lr_w, lr_w2] using p3
  · simpa [lr_P4, lr_w, lr_w2] using p4
  · simpa [lr_P5, lr_w, lr_w2] using p5
  · exact h22
  · simpa [lr_K23, lr_w, lr_w2] using h23
theorem lr_s_until {c ns np cnt tt : Nat} {ow : Nat → Nat} {a b : lr_S} (R : lr_Rel c ns np cnt tt ow a b) {q d : Nat} (hq : q < 32) (hd : d < 4) {v w : Int32} (hv : v = w ∨ ∃ x y, x ≤ tt ∧ y ≤ tt ∧ v = nI x ∧ w = nI y) : lr_Rel c ns np cnt tt ow (lr_wr a 10 q d v) (lr_wr b 29 0 (4 * q + d) w) := by
  obtain ⟨h1, h2, h3, h4, h5, h6, h7, h7v, h8, h9, h10, h11, h12, h13, h14, h15, h16, h17, h18, h19, h20, p1, p2, p3, p4, p5, h22, h23⟩ := R
  refine ⟨?_, ?_, ?_, ?_, ?_, ?_, ?_, ?_, ?_, ?_, ?_, ?_, ?_, ?_, ?_, ?_, ?_, ?_, ?_, ?_, ?_, ?_, ?_, ?_, ?_, ?_, ?_, ?_⟩
  · simpa [lr_K1, lr_w, lr_w2] using h1
  · simpa [lr_K2, lr_w, lr_w2] using h2
  · simpa [lr_K3, lr_w, lr_w2] using h3
  · simpa [lr_K4, lr_w, lr_w2] using h4
  · simpa [lr_K5, lr_w, lr_w2] using h5
  · simpa [lr_K6, lr_w, lr_w2] using h6
  · simpa [lr_K7, lr_w, lr_w2] using h7
  · simpa [lr_K7v, lr_w, lr_w2] using h7v
  · simpa [lr_K8, lr_w, lr_w2] using h8
  · simpa [lr_K9, lr_w, lr_w2] using h9
  · simpa [lr_K10, lr_w, lr_w2] using h10
  · simpa [lr_K11, lr_w, lr_w2] using h11
  · simpa [lr_K12, lr_w, lr_w2] using h12
  · intro m s hm hs
    have h := h13 m s hm hs
    by_cases e : m = q ∧ s = d
    · obtain ⟨rfl, rfl⟩ := e
      simpa [lr_w] using hv
    · have e2 : ¬ (4 * m + s = 4 * q + d) := fun z => e (by omega)
      simpa [lr_w, e, e2] using h
  · simpa [lr_K14, lr_w, lr_w2] using h14
  · simpa [lr_K15, lr_w, lr_w2] using h15
  · simpa [lr_K16, lr_w, lr_w2] using h16
  · simpa [lr_K17, lr_w, lr_w2] using h17
  · simpa [lr_K18, lr_w, lr_w2] using h18
  · simpa [lr_K19, lr_w, lr_w2] using h19
  · simpa [lr_K20, lr_w, lr_w2] using h20
  · simpa [lr_P1, lr_w, lr_w2] using p1
  · simpa [lr_P2, lr_w, lr_w2] using p2
  · simpa [lr_P3, lr_w, lr_w2] using p3
  · simpa [lr_P4, lr_w, lr_w2] using p4
  · simpa [lr_P5, lr_w, lr_w2] using p5
  · exact h22
  · simpa [lr_K23, lr_w, lr_w2] using h23
theorem lr_up {c ns np cnt tt : Nat} {ow : Nat → Nat} {a b : lr_S} (R : lr_Rel c ns np cnt tt ow a b) (hc : c < 64) : lr_Rel (c + 1) ns np cnt tt ow a b := by
  obtain ⟨h1, h2, h3, h4, h5, h6, h7, h7v, h8, h9, h10, h11, h12, h13, h14, h15, h16, h17, h18, h19, h20, p1, p2, p3, p4, p5, h22, h23⟩ := R
  refine ⟨?_, ?_, ?_, ?_, ?_, ?_, ?_, ?_, ?_, ?_, ?_, ?_, ?_, ?_, ?_, ?_, ?_, ?_, ?_, ?_, ?_, ?_, ?_, ?_, ?_, ?_, ?_, ?_⟩
  · exact ⟨h1.1, h1.2.1, by have := h1.2.2; omega⟩
  · exact h2
  · exact ⟨h3.1, h3.2.1, by have := h3.2.2; omega⟩
  · exact ⟨h4.1, h4.2.1, by have := h4.2.2; omega⟩
  · exact h5
  · exact h6
  · exact h7
  · exact h7v
  · exact h8
  · exact h9
  · exact h10
  · exact h11
  · exact h12
  · exact h13
  · exact h14
  · exact h15
  · intro n hn
    obtain ⟨m, g1, g2⟩ := h16 n hn
    exact ⟨m, by omega, g2⟩
  · exact h17
  · exact h18
  · exact h19
  · exact h20
  · exact p1
  · exact p2
  · exact p3
  · exact p4
  · exact p5
  · exact ⟨by omega, h22.2⟩
  · exact h23
def lr_RX (c : Nat) (a b : lr_S) : Prop := ∃ ns np cnt tt ow, lr_Rel c ns np cnt tt ow a b
def lr_Sim (gx gm : lr_S → Option (Int32 × lr_S)) : Prop := ∀ c a b, lr_RX c a b → c < 64 → ∃ r a2 b2, gx a = some (r, a2) ∧ gm b = some (r, b2) ∧ lr_RX (c + 1) a2 b2
theorem lr_same {c ns np cnt tt : Nat} {ow : Nat → Nat} {a b : lr_S} {gx gm : Option (Int32 × lr_S)} {r : Int32} (R : lr_Rel c ns np cnt tt ow a b) (hc : c < 64) (h1 : gx = some (r, a)) (h2 : gm = some (r, b)) : ∃ r a2 b2, gx = some (r, a2) ∧ gm = some (r, b2) ∧ lr_RX (c + 1) a2 b2 := ⟨r, a, b, h1, h2, ns, np, cnt, tt, ow, lr_up R hc⟩
theorem lr_fin {c ns np cnt tt : Nat} {ow : Nat → Nat} {a2 b2 : lr_S} {gx gm : Option (Int32 × lr_S)} {r : Int32} (R : lr_Rel c ns np cnt tt ow a2 b2) (hc : c < 64) (h1 : gx = some (r, a2)) (h2 : gm = some (r, b2)) : ∃ r a2 b2, gx = some (r, a2) ∧ gm = some (r, b2) ∧ lr_RX (c + 1) a2 b2 := ⟨r, a2, b2, h1, h2, ns, np, cnt, tt, ow, lr_up R hc⟩
theorem lr_s_keptx {c ns np cnt tt : Nat} {ow : Nat → Nat} {a b : lr_S} (R : lr_Rel c ns np cnt tt ow a b) {n k : Nat} {v : Int32} : lr_Rel c ns np cnt tt ow (lr_wr a 16 n k v) b := by
  obtain ⟨h1, h2, h3, h4, h5, h6, h7, h7v, h8, h9, h10, h11, h12, h13, h14, h15, h16, h17, h18, h19, h20, p1, p2, p3, p4, p5, h22, h23⟩ := R
  refine ⟨?_, ?_, ?_, ?_, ?_, ?_, ?_, ?_, ?_, ?_, ?_, ?_, ?_, ?_, ?_, ?_, ?_, ?_, ?_, ?_, ?_, ?_, ?_, ?_, ?_, ?_, ?_, ?_⟩
  · simpa [lr_K1, lr_w, lr_w2] using h1
  · simpa [lr_K2, lr_w, lr_w2] using h2
  · simpa [lr_K3, lr_w, lr_w2] using h3
  · simpa [lr_K4, lr_w, lr_w2] using h4
  · simpa [lr_K5, lr_w, lr_w2] using h5
  · simpa [lr_K6, lr_w, lr_w2] using h6
  · simpa [lr_K7, lr_w, lr_w2] using h7
  · simpa [lr_K7v, lr_w, lr_w2] using h7v
  · simpa [lr_K8, lr_w, lr_w2] using h8
  · simpa [lr_K9, lr_w, lr_w2] using h9
  · simpa [lr_K10, lr_w, lr_w2] using h10
  · simpa [lr_K11, lr_w, lr_w2] using h11
  · simpa [lr_K12, lr_w, lr_w2] using h12
  · simpa [lr_K13, lr_w, lr_w2] using h13
  · simpa [lr_K14, lr_w, lr_w2] using h14
  · simpa [lr_K15, lr_w, lr_w2] using h15
  · simpa [lr_K16, lr_w, lr_w2] using h16
  · simpa [lr_K17, lr_w, lr_w2] using h17
  · simpa [lr_K18, lr_w, lr_w2] using h18
  · simpa [lr_K19, lr_w, lr_w2] using h19
  · simpa [lr_K20, lr_w, lr_w2] using h20
  · simpa [lr_P1, lr_w, lr_w2] using p1
  · simpa [lr_P2, lr_w, lr_w2] using p2
  · simpa [lr_P3, lr_w, lr_w2] using p3
  · exact p4
  · exact p5
  · exact h22
  · simpa [lr_K23, lr_w, lr_w2] using h23
theorem lr_s_keptm {c ns np cnt tt : Nat} {ow : Nat → Nat} {a b : lr_S} (R : lr_Rel c ns np cnt tt ow a b) {k : Nat} {v : Int32} : lr_Rel c ns np cnt tt ow a (lr_wr b 55 0 k v) := by
  obtain ⟨h1, h2, h3, h4, h5, h6, h7, h7v, h8, h9, h10, h11, h12, h13, h14, h15, h16, h17, h18, h19, h20, p1, p2, p3, p4, p5, h22, h23⟩ := R
  refine ⟨?_, ?_, ?_, ?_, ?_, ?_, ?_, ?_, ?_, ?_, ?_, ?_, ?_, ?_, ?_, ?_, ?_, ?_, ?_, ?_, ?_, ?_, ?_, ?_, ?_, ?_, ?_, ?_⟩
  · simpa [lr_K1, lr_w, lr_w2] using h1
  · simpa [lr_K2, lr_w, lr_w2] using h2
  · simpa [lr_K3, lr_w, lr_w2] using h3
  · simpa [lr_K4, lr_w, lr_w2] using h4
  · exact h5
  · simpa [lr_K6, lr_w, lr_w2] using h6
  · simpa [lr_K7, lr_w, lr_w2] using h7
  · exact h7v
  · simpa [lr_K8, lr_w, lr_w2] using h8
  · exact h9
  · simpa [lr_K10, lr_w, lr_w2] using h10
  · exact h11
  · simpa [lr_K12, lr_w, lr_w2] using h12
  · simpa [lr_K13, lr_w, lr_w2] using h13
  · exact h14
  · simpa [lr_K15, lr_w, lr_w2] using h15
  · simpa [lr_K16, lr_w, lr_w2] using h16
  · simpa [lr_K17, lr_w, lr_w2] using h17
  · exact h18
  · simpa [lr_K19, lr_w, lr_w2] using h19
  · exact h20
  · simpa [lr_P1, lr_w, lr_w2] using p1
  · simpa [lr_P2, lr_w, lr_w2] using p2
  · exact p3
  · simpa [lr_P4, lr_w, lr_w2] using p4
  · simpa [lr_P5, lr_w, lr_w2] using p5
  · exact h22
  · exact h23
theorem lr_s_got {c ns np cnt tt : Nat} {ow : Nat → Nat} {a b : lr_S} (R : lr_Rel c ns np cnt tt ow a b) {k : Nat} {v : Int32} : lr_Rel c ns np cnt tt ow a (lr_wr b 40 0 k v) := by
  obtain ⟨h1, h2, h3, h4, h5, h6, h7, h7v, h8, h9, h10, h11, h12, h13, h14, h15, h16, h17, h18, h19, h20, p1, p2, p3, p4, p5, h22, h23⟩ := R
  refine ⟨?_, ?_, ?_, ?_, ?_, ?_, ?_, ?_, ?_, ?_, ?_, ?_, ?_, ?_, ?_, ?_, ?_, ?_, ?_, ?_, ?_, ?_, ?_, ?_, ?_, ?_, ?_, ?_⟩
  · simpa [lr_K1, lr_w, lr_w2] using h1
  · simpa [lr_K2, lr_w, lr_w2] using h2
  · simpa [lr_K3, lr_w, lr_w2] using h3
  · simpa [lr_K4, lr_w, lr_w2] using h4
  · exact h5
  · simpa [lr_K6, lr_w, lr_w2] using h6
  · simpa [lr_K7, lr_w, lr_w2] using h7
  · exact h7v
  · simpa [lr_K8, lr_w, lr_w2] using h8
  · exact h9
  · simpa [lr_K10, lr_w, lr_w2] using h10
  · exact h11
  · simpa [lr_K12, lr_w, lr_w2] using h12
  · simpa [lr_K13, lr_w, lr_w2] using h13
  · exact h14
  · simpa [lr_K15, lr_w, lr_w2] using h15
  · simpa [lr_K16, lr_w, lr_w2] using h16
  · simpa [lr_K17, lr_w, lr_w2] using h17
  · exact h18
  · simpa [lr_K19, lr_w, lr_w2] using h19
  · exact h20
  · simpa [lr_P1, lr_w, lr_w2] using p1
  · simpa [lr_P2, lr_w, lr_w2] using p2
  · exact p3
  · simpa [lr_P4, lr_w, lr_w2] using p4
  · simpa [lr_P5, lr_w, lr_w2] using p5
  · exact h22
  · exact h23
theorem lr_s_taken {c ns np cnt tt : Nat} {ow : Nat → Nat} {a b : lr_S} (R : lr_Rel c ns np cnt tt ow a b) {j : Nat} {v : Int32} : lr_Rel c ns np cnt tt ow (lr_wr a 3 32 j v) b := by
  obtain ⟨h1, h2, h3, h4, h5, h6, h7, h7v, h8, h9, h10, h11, h12, h13, h14, h15, h16, h17, h18, h19, h20, p1, p2, p3, p4, p5, h22, h23⟩ := R
  refine ⟨?_, ?_, ?_, ?_, ?_, ?_, ?_, ?_, ?_, ?_, ?_, ?_, ?_, ?_, ?_, ?_, ?_, ?_, ?_, ?_, ?_, ?_, ?_, ?_, ?_, ?_, ?_, ?_⟩
  · simpa [lr_K1, lr_w, lr_w2] using h1
  · simpa [lr_K2, lr_w, lr_w2] using h2
  · simpa [lr_K3, lr_w, lr_w2] using h3
  · simpa [lr_K4, lr_w, lr_w2] using h4
  · simpa [lr_K5, lr_w, lr_w2] using h5
  · simpa [lr_K6, lr_w, lr_w2] using h6
  · simpa [lr_K7, lr_w, lr_w2] using h7
  · simpa [lr_K7v, lr_w, lr_w2] using h7v
  · simpa [lr_K8, lr_w, lr_w2] using h8
  · simpa [lr_K9, lr_w, lr_w2] using h9
  · simpa [lr_K10, lr_w, lr_w2] using h10
  · simpa [lr_K11, lr_w, lr_w2] using h11
  · simpa [lr_K12, lr_w, lr_w2] using h12
  · simpa [lr_K13, lr_w, lr_w2] using h13
  · simpa [lr_K14, lr_w, lr_w2] using h14
  · simpa [lr_K15, lr_w, lr_w2] using h15
  · simpa [lr_K16, lr_w, lr_w2] using h16
  · intro m s hm hs
    have h := h17 m s hm hs
    have e : ¬ (33 + 4 * m + s = 32) := by omega
    simpa [lr_w, e] using h
  · simpa [lr_K18, lr_w, lr_w2] using h18
  · intro p j hp hj
    have h := h19 p j hp hj
    have e : ¬ (a.2 p = 32) := by have := h18.1 p (by have := h2.2.2; omega); omega
    simpa [lr_w, lr_w2, e] using h
  · intro p hp
    have h := h20 p hp
    have e : ¬ (a.2 p = 32) := by have := h18.1 p (by have := h2.2.2; omega); omega
    simpa [lr_w, lr_w2, e] using h
  · simpa [lr_P1, lr_w, lr_w2] using p1
  · simpa [lr_P2, lr_w, lr_w2] using p2
  · simpa [lr_P3, lr_w, lr_w2] using p3
  · exact p4
  · exact p5
  · exact h22
  · simpa [lr_K23, lr_w, lr_w2] using h23
