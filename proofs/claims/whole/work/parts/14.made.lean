def lr_ow (ow : Nat → Nat) (ns n : Nat) : Nat → Nat := fun s => if s = ns then n else ow s
theorem lr_ow_eq (ow : Nat → Nat) (ns n : Nat) : lr_ow ow ns n ns = n := if_pos rfl
theorem lr_ow_ne (ow : Nat → Nat) (ns n : Nat) {s : Nat} (h : ¬ s = ns) : lr_ow ow ns n s = ow s := if_neg h
def lr_ho (a : lr_S) (q : Nat) (s : Int32) : lr_S := lr_wr (lr_wr (lr_wr (lr_wr (lr_wr (lr_wr (lr_wr (lr_wr (lr_wr (lr_wr (lr_wr (lr_wr (lr_wr a 7 q 0 1) 7 q 1 s) 7 q 2 0) 8 q 0 (-1)) 8 q 1 (-1)) 9 q 0 0) 10 q 0 0) 9 q 1 0) 10 q 1 0) 9 q 2 0) 10 q 2 0) 9 q 3 0) 10 q 3 0
def lr_hm (b : lr_S) (q : Nat) (s : Int32) : lr_S := lr_wr (lr_wr (lr_wr (lr_wr (lr_wr (lr_wr (lr_wr (lr_wr (lr_wr (lr_wr (lr_wr (lr_wr (lr_wr b 24 0 q 1) 25 0 q s) 26 0 q 0) 27 0 (2 * q) (-1)) 27 0 (2 * q + 1) (-1)) 28 0 (4 * q) 0) 29 0 (4 * q) 0) 28 0 (4 * q + 1) 0) 29 0 (4 * q + 1) 0) 28 0 (4 * q + 2) 0) 29 0 (4 * q + 2) 0) 28 0 (4 * q + 3) 0) 29 0 (4 * q + 3) 0
theorem lr_x_hno (a : lr_S) (q : Nat) (s : Int32) : lr_G_Slot_holdNewObject q s a = some (lr_ho a q s) := by
  unfold lr_G_Slot_holdNewObject
  rw [show Int32.toNatClampNeg 0 = 0 by decide, show Int32.toNatClampNeg 1 = 1 by decide, show Int32.toNatClampNeg 2 = 2 by decide, show Int32.toNatClampNeg 3 = 3 by decide]
  rfl
theorem lr_mv_mono {ns : Nat} {ow ow2 : Nat → Nat} {f : Nat → Int32} (h : ∀ e, e < ns → ow2 e = ow e) (hv : lr_mv ns ow f) : lr_mv (ns + 1) ow2 f := by
  obtain ⟨kd, s, d, g1, g2, g3, g4, g5, g6, g7, g8, g9, g10⟩ := hv
  refine ⟨kd, s, d, g1, g2, g3, g4, g5, g6, fun z => ?_, fun z => ?_, fun z => ?_, fun z => ?_⟩
  · obtain ⟨e, i, q1, q2, q3, q4⟩ := g7 z
    exact ⟨e, i, by omega, q2, q3, by rw [h e q1]; exact q4⟩
  · obtain ⟨e, q1, q2, q3, q4⟩ := g8 z
    exact ⟨e, by omega, q2, by rw [h e q1]; exact q3, by rw [h e q1]; exact q4⟩
  · obtain ⟨e, m, q1, q2, q3, q4⟩ := g9 z
    exact ⟨e, m, by omega, q2, by rw [h e q1]; exact q3, q4⟩
  · obtain ⟨e, q1, q2, q3⟩ := g10 z
    exact ⟨e, by omega, q2, by rw [h e q1]; exact q3⟩
theorem lr_s_new {c ns np cnt tt : Nat} {ow : Nat → Nat} {a b : lr_S} (R : lr_Rel c ns np cnt tt ow a b) {n k : Nat} (hn : n < 4) (hk : k < 8) (hz : a.1 7 (8 * n + k) 0 = 0) (hns : ns < c) : lr_Rel c (ns + 1) np cnt tt (lr_ow ow ns n) (lr_ho (lr_wr a 0 0 3 (nI (ns + 1))) (8 * n + k) (nI ns)) (lr_wr (lr_hm b (8 * n + k) (nI ns)) 20 0 17 (nI (ns + 1))) := by
  obtain ⟨h1, h2, h3, h4, h5, h6, h7, h7v, h8, h9, h10, h11, h12, h13, h14, h15, h16, h17, h18, h19, h20, p1, p2, p3, p4, p5, h22, h23⟩ := R
  refine ⟨?_, ?_, ?_, ?_, ?_, ?_, ?_, ?_, ?_, ?_, ?_, ?_, ?_, ?_, ?_, ?_, ?_, ?_, ?_, ?_, ?_, ?_, ?_, ?_, ?_, ?_, ?_, ?_⟩
  · simpa [lr_K1, lr_ho, lr_hm, lr_w, lr_w2] using h1
  · simpa [lr_K2, lr_ho, lr_hm, lr_w, lr_w2] using h2
  · exact ⟨by simp [lr_ho, lr_hm, lr_w, lr_w2], by simp [lr_ho, lr_hm, lr_w, lr_w2], by omega⟩
  · simpa [lr_K4, lr_ho, lr_hm, lr_w, lr_w2] using h4
  · simpa [lr_K5, lr_ho, lr_hm, lr_w, lr_w2] using h5
  · simpa [lr_K6, lr_ho, lr_hm, lr_w, lr_w2] using h6
  · simpa [lr_K7, lr_ho, lr_hm, lr_w, lr_w2] using h7
  · intro m r hm hr
    rcases h7v m r hm hr with e | ⟨j, hj, e, ej⟩
    · left
      simpa [lr_ho, lr_hm, lr_w, lr_w2] using e
    · right
      refine ⟨j, hj, by simpa [lr_ho, lr_hm, lr_w, lr_w2] using e, ?_⟩
      by_cases q : 8 * m + j = 8 * n + k
      · simp [lr_ho, lr_hm, lr_w, lr_w2, q]
      · simpa [lr_ho, lr_hm, lr_w, lr_w2, q] using ej
  · intro m hm
    have h := h8 m hm
    by_cases e : m = 8 * n + k
    · subst e
      obtain ⟨g0, g1, g2, g6, g7, g8, g9, g10, g11, g12⟩ := h
      simp [lr_ho, lr_hm, lr_w, lr_w2, g6, g7, g8, g9, g10, g11, g12]
    · simpa [lr_ho, lr_hm, lr_w, lr_w2, e] using h
  · intro m hm
    by_cases e : m = 8 * n + k
    · subst e
      right; left
      simp [lr_ho, lr_hm, lr_w, lr_w2]
    · simpa [lr_ho, lr_hm, lr_w, lr_w2, e] using h9 m hm
  · intro m f hm hf
    by_cases e : m = 8 * n + k
    · subst e
      rcases (show f = 0 ∨ f = 1 by omega) with rfl | rfl <;> simp [lr_ho, lr_hm, lr_w, lr_w2]
    · have e1 : ¬ (2 * m + f = 2 * (8 * n + k)) := by omega
      have e2 : ¬ (2 * m + f = 2 * (8 * n + k) + 1) := by omega
      simpa [lr_ho, lr_hm, lr_w, lr_w2, e, e1, e2] using h10 m f hm hf
  · intro m j f hm hj hf ho
    by_cases e : 8 * m + j = 8 * n + k
    · left
      rcases (show f = 0 ∨ f = 1 by omega) with rfl | rfl <;> simp [lr_ho, lr_hm, lr_w, lr_w2, e]
    · have ho : a.1 7 (8 * m + j) 0 = 1 := by simpa [lr_ho, lr_hm, lr_w, lr_w2, e] using ho
      rcases h11 m j f hm hj hf ho with g | ⟨i, hi, g, gi⟩
      · left
        simpa [lr_ho, lr_hm, lr_w, lr_w2, e] using g
      · right
        refine ⟨i, hi, by simpa [lr_ho, lr_hm, lr_w, lr_w2, e] using g, ?_⟩
        by_cases q : 8 * m + i = 8 * n + k
        · simp [lr_ho, lr_hm, lr_w, lr_w2, q]
        · simpa [lr_ho, lr_hm, lr_w, lr_w2, q] using gi
  · intro m d hm hd
    by_cases e : m = 8 * n + k
    · subst e
      rcases (show d = 0 ∨ d = 1 ∨ d = 2 ∨ d = 3 by omega) with rfl | rfl | rfl | rfl <;> simp [lr_ho, lr_hm, lr_w, lr_w2]
    · have e0 : ¬ (4 * m + d = 4 * (8 * n + k)) := by omega
      have e1 : ¬ (4 * m + d = 4 * (8 * n + k) + 1) := by omega
      have e2 : ¬ (4 * m + d = 4 * (8 * n + k) + 2) := by omega
      have e3 : ¬ (4 * m + d = 4 * (8 * n + k) + 3) := by omega
      simpa [lr_ho, lr_hm, lr_w, lr_w2, e, e0, e1, e2, e3] using h12 m d hm hd
  · intro m d hm hd
    by_cases e : m = 8 * n + k
    · subst e
      left
      rcases (show d = 0 ∨ d = 1 ∨ d = 2 ∨ d = 3 by omega) with rfl | rfl | rfl | rfl <;> simp [lr_ho, lr_hm, lr_w, lr_w2]
    · have e0 : ¬ (4 * m + d = 4 * (8 * n + k)) := by omega
      have e1 : ¬ (4 * m + d = 4 * (8 * n + k) + 1) := by omega
      have e2 : ¬ (4 * m + d = 4 * (8 * n + k) + 2) := by omega
      have e3 : ¬ (4 * m + d = 4 * (8 * n + k) + 3) := by omega
      simpa [lr_ho, lr_hm, lr_w, lr_w2, e, e0, e1, e2, e3] using h13 m d hm hd
  · intro m j hm hj
    by_cases e : 8 * m + j = 8 * n + k
    · refine ⟨fun _ => ⟨ns, by omega, by simp [lr_ho, lr_hm, lr_w, lr_w2, e], ?_⟩, fun z => ?_⟩
      · rw [lr_ow_eq]
        omega
      · simp [lr_ho, lr_hm, lr_w, lr_w2, e] at z
    · obtain ⟨g1, g2⟩ := h14 m j hm hj
      refine ⟨fun z => ?_, fun z => ?_⟩
      · obtain ⟨s, q1, q2, q3⟩ := g1 (by simpa [lr_ho, lr_hm, lr_w, lr_w2, e] using z)
        exact ⟨s, by omega, by simpa [lr_ho, lr_hm, lr_w, lr_w2, e] using q2, by rw [lr_ow_ne _ _ _ (by omega)]; exact q3⟩
      · obtain ⟨s, q1, q2, q3, q4⟩ := g2 (by simpa [lr_ho, lr_hm, lr_w, lr_w2, e] using z)
        exact ⟨s, by omega, by simpa [lr_ho, lr_hm, lr_w, lr_w2, e] using q2, by rw [lr_ow_ne _ _ _ (by omega)]; exact q3, by rw [lr_ow_ne _ _ _ (by omega)]; simpa [lr_ho, lr_hm, lr_w, lr_w2, e] using q4⟩
  · simpa [lr_K15, lr_ho, lr_hm, lr_w, lr_w2] using h15
  · intro m hm
    obtain ⟨u, g1, g2, g3⟩ := h16 m hm
    refine ⟨u, g1, by simpa [lr_ho, lr_hm, lr_w, lr_w2] using g2, fun z => ?_⟩
    obtain ⟨w1, j, hj, w2, w3, w4⟩ := g3 (by simpa [lr_ho, lr_hm, lr_w, lr_w2] using z)
    refine ⟨w1, j, hj, by simpa [lr_ho, lr_hm, lr_w, lr_w2] using w2, by simpa [lr_ho, lr_hm, lr_w, lr_w2] using w3, fun y => ?_⟩
    have q := w4 (by simpa [lr_ho, lr_hm, lr_w, lr_w2] using y)
    have e : ¬ (8 * m + j = 8 * n + k) := fun e => by rw [e, hz] at q; exact absurd q (by decide)
    simpa [lr_ho, lr_hm, lr_w, lr_w2, e] using q
  · simpa [lr_K17, lr_ho, lr_hm, lr_w, lr_w2] using h17
  · simpa [lr_K18, lr_ho, lr_hm, lr_w, lr_w2] using h18
  · simpa [lr_K19, lr_ho, lr_hm, lr_w, lr_w2] using h19
  · intro p hp
    refine lr_mv_mono (ow := ow) (fun e he => lr_ow_ne _ _ _ (by omega)) ?_
    simpa [lr_ho, lr_hm, lr_w, lr_w2] using h20 p hp
  · simpa [lr_P1, lr_ho, lr_hm, lr_w, lr_w2] using p1
  · simpa [lr_P2, lr_ho, lr_hm, lr_w, lr_w2] using p2
  · simpa [lr_P3, lr_ho, lr_hm, lr_w, lr_w2] using p3
  · simpa [lr_P4, lr_ho, lr_hm, lr_w, lr_w2] using p4
  · simpa [lr_P5, lr_ho, lr_hm, lr_w, lr_w2] using p5
  · refine ⟨h22.1, fun s => ?_⟩
    by_cases e : s = ns
    · rw [e, lr_ow_eq]; exact hn
    · rw [lr_ow_ne _ _ _ e]; exact h22.2 s
  · simpa [lr_K23, lr_ho, lr_hm, lr_w, lr_w2] using h23
def lr_hs (a : lr_S) (q : Nat) (s w : Int32) : lr_S := lr_wr (lr_wr (lr_wr (lr_wr a 7 q 0 2) 7 q 1 s) 7 q 6 w) 7 q 9 0
theorem lr_x_hns (a : lr_S) (q : Nat) (s w : Int32) : lr_G_Slot_holdNewSurrogate q s w a = some (lr_hs a q s w) := rfl
theorem lr_s_sur {c ns np cnt tt : Nat} {ow : Nat → Nat} {a b : lr_S} (R : lr_Rel c ns np cnt tt ow a b) {n k e0 : Nat} (hn : n < 4) (hk : k < 8) (hz : a.1 7 (8 * n + k) 0 = 0) (he0 : e0 < ns) (hne : ¬ ow e0 = n) (v : Int32) : lr_Rel c ns np cnt tt ow (lr_wr (lr_hs a (8 * n + k) (nI e0) (nI (ow e0))) 7 (8 * n + k) 9 v) (lr_wr (lr_wr (lr_wr (lr_wr b 24 0 (8 * n + k) 2) 25 0 (8 * n + k) (nI e0)) 30 0 (8 * n + k) (nI (ow e0))) 33 0 (8 * n + k) v) := by
  obtain ⟨h1, h2, h3, h4, h5, h6, h7, h7v, h8, h9, h10, h11, h12, h13, h14, h15, h16, h17, h18, h19, h20, p1, p2, p3, p4, p5, h22, h23⟩ := R
  refine ⟨?_, ?_, ?_, ?_, ?_, ?_, ?_, ?_, ?_, ?_, ?_, ?_, ?_, ?_, ?_, ?_, ?_, ?_, ?_, ?_, ?_, ?_, ?_, ?_, ?_, ?_, ?_, ?_⟩
  · simpa [lr_K1, lr_hs, lr_w, lr_w2] using h1
  · simpa [lr_K2, lr_hs, lr_w, lr_w2] using h2
  · simpa [lr_K3, lr_hs, lr_w, lr_w2] using h3
  · simpa [lr_K4, lr_hs, lr_w, lr_w2] using h4
  · simpa [lr_K5, lr_hs, lr_w, lr_w2] using h5
  · simpa [lr_K6, lr_hs, lr_w, lr_w2] using h6
  · simpa [lr_K7, lr_hs, lr_w, lr_w2] using h7
  · intro m r hm hr
    rcases h7v m r hm hr with e | ⟨j, hj, e, ej⟩
    · left
      simpa [lr_hs, lr_w, lr_w2] using e
    · right
      refine ⟨j, hj, by simpa [lr_hs, lr_w, lr_w2] using e, ?_⟩
      by_cases q : 8 * m + j = 8 * n + k
      · simp [lr_hs, lr_w, lr_w2, q]
      · simpa [lr_hs, lr_w, lr_w2, q] using ej
  · intro m hm
    have h := h8 m hm
    by_cases e : m = 8 * n + k
    · subst e
      obtain ⟨g0, g1, g2, g6, g7, g8, g9, g10, g11, g12⟩ := h
      simp [lr_hs, lr_w, lr_w2, g2, g7, g8, g10, g11, g12]
    · simpa [lr_hs, lr_w, lr_w2, e] using h
  · intro m hm
    by_cases e : m = 8 * n + k
    · subst e
      right; right
      simp [lr_hs, lr_w, lr_w2]
    · simpa [lr_hs, lr_w, lr_w2, e] using h9 m hm
  · simpa [lr_K10, lr_hs, lr_w, lr_w2] using h10
  · intro m j f hm hj hf ho
    by_cases e : 8 * m + j = 8 * n + k
    · simp [lr_hs, lr_w, lr_w2, e] at ho
    · have ho : a.1 7 (8 * m + j) 0 = 1 := by simpa [lr_hs, lr_w, lr_w2, e] using ho
      rcases h11 m j f hm hj hf ho with g | ⟨i, hi, g, gi⟩
      · left
        simpa [lr_hs, lr_w, lr_w2, e] using g
      · right
        refine ⟨i, hi, by simpa [lr_hs, lr_w, lr_w2, e] using g, ?_⟩
        by_cases q : 8 * m + i = 8 * n + k
        · simp [lr_hs, lr_w, lr_w2, q]
        · simpa [lr_hs, lr_w, lr_w2, q] using gi
  · simpa [lr_K12, lr_hs, lr_w, lr_w2] using h12
  · simpa [lr_K13, lr_hs, lr_w, lr_w2] using h13
  · intro m j hm hj
    by_cases e : 8 * m + j = 8 * n + k
    · obtain ⟨rfl, rfl⟩ : m = n ∧ j = k := by omega
      refine ⟨fun z => ?_, fun _ => ⟨e0, he0, by simp [lr_hs, lr_w, lr_w2], hne, by simp [lr_hs, lr_w, lr_w2]⟩⟩
      simp [lr_hs, lr_w, lr_w2] at z
    · simpa [lr_hs, lr_w, lr_w2, e] using h14 m j hm hj
  · simpa [lr_K15, lr_hs, lr_w, lr_w2] using h15
  · intro m hm
    obtain ⟨u, g1, g2, g3⟩ := h16 m hm
    refine ⟨u, g1, by simpa [lr_hs, lr_w, lr_w2] using g2, fun z => ?_⟩
    obtain ⟨w1, j, hj, w2, w3, w4⟩ := g3 (by simpa [lr_hs, lr_w, lr_w2] using z)
    refine ⟨w1, j, hj, by simpa [lr_hs, lr_w, lr_w2] using w2, by simpa [lr_hs, lr_w, lr_w2] using w3, fun y => ?_⟩
    have q := w4 (by simpa [lr_hs, lr_w, lr_w2] using y)
    have e : ¬ (8 * m + j = 8 * n + k) := fun e => by rw [e, hz] at q; exact absurd q (by decide)
    simpa [lr_hs, lr_w, lr_w2, e] using q
  · simpa [lr_K17, lr_hs, lr_w, lr_w2] using h17
  · simpa [lr_K18, lr_hs, lr_w, lr_w2] using h18
  · simpa [lr_K19, lr_hs, lr_w, lr_w2] using h19
  · simpa [lr_K20, lr_hs, lr_w, lr_w2] using h20
  · simpa [lr_P1, lr_hs, lr_w, lr_w2] using p1
  · simpa [lr_P2, lr_hs, lr_w, lr_w2] using p2
  · simpa [lr_P3, lr_hs, lr_w, lr_w2] using p3
  · simpa [lr_P4, lr_hs, lr_w, lr_w2] using p4
  · simpa [lr_P5, lr_hs, lr_w, lr_w2] using p5
  · exact h22
  · simpa [lr_K23, lr_hs, lr_w, lr_w2] using h23
