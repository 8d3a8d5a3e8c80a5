theorem lr_mv_c {ns : Nat} {ow : Nat → Nat} {f g : Nat → Int32} (h : ∀ j, j < 6 → f j = g j) (hg : lr_mv ns ow g) : lr_mv ns ow f := by
  obtain ⟨kd, s, d, hh⟩ := hg
  refine ⟨kd, s, d, ?_⟩
  rw [h 0 (by decide), h 1 (by decide), h 2 (by decide), h 3 (by decide), h 4 (by decide), h 5 (by decide)]
  exact hh
def lr_row (a : lr_S) (i : Nat) (f0 f1 f2 f3 f4 f5 : Int32) : lr_S := lr_wr (lr_wr (lr_wr (lr_wr (lr_wr (lr_wr a 3 i 0 f0) 3 i 1 f1) 3 i 2 f2) 3 i 3 f3) 3 i 4 f4) 3 i 5 f5
def lr_sx (a : lr_S) (cnt : Nat) (f0 f1 f2 f3 f4 f5 : Int32) : lr_S := lr_wr (lr_row a (a.2 cnt) f0 f1 f2 f3 f4 f5) 1 0 1 (nI (cnt + 1))
def lr_sm (b : lr_S) (cnt : Nat) (f0 f1 f2 f3 f4 f5 : Int32) : lr_S := lr_wr (lr_wr (lr_wr (lr_wr (lr_wr (lr_wr (lr_wr b 38 0 (6 * cnt) f0) 38 0 (6 * cnt + 1) f1) 38 0 (6 * cnt + 2) f2) 38 0 (6 * cnt + 3) f3) 38 0 (6 * cnt + 4) f4) 38 0 (6 * cnt + 5) f5) 20 0 19 (nI (cnt + 1))
theorem lr_x_send {a : lr_S} {cnt : Nat} (h : a.1 1 0 1 = nI cnt) (hc : cnt < 32) (hp : a.2 cnt < 49) (f0 f1 f2 f3 f4 f5 : Int32) : lr_G_Network_send f0 f1 f2 f3 f4 f5 a = some (lr_sx a cnt f0 f1 f2 f3 f4 f5) := by
  unfold lr_G_Network_send
  rw [lr_r, h, if_neg (lr_nle (x := 32) (m := 32) rfl hc (by decide)), if_pos (lr_nin hc (by decide)), lr_ncl (by omega), if_pos hp]
  unfold lr_G_Message_write
  rw [lr_bs, lr_bs]
  have e : lr_rd (lr_wr (lr_wr (lr_wr (lr_wr (lr_wr (lr_wr a 3 (a.2 cnt) 0 f0) 3 (a.2 cnt) 1 f1) 3 (a.2 cnt) 2 f2) 3 (a.2 cnt) 3 f3) 3 (a.2 cnt) 4 f4) 3 (a.2 cnt) 5 f5) 1 0 1 + 1 = nI (cnt + 1) := by
    have e0 : lr_rd (lr_wr (lr_wr (lr_wr (lr_wr (lr_wr (lr_wr a 3 (a.2 cnt) 0 f0) 3 (a.2 cnt) 1 f1) 3 (a.2 cnt) 2 f2) 3 (a.2 cnt) 3 f3) 3 (a.2 cnt) 4 f4) 3 (a.2 cnt) 5 f5) 1 0 1 = nI cnt := by
      simp only [lr_r, lr_w]
      simpa using h
    rw [e0, nI_1]
  rw [e]
  rfl
theorem lr_x_send32 {a : lr_S} (h : a.1 1 0 1 = nI 32) (f0 f1 f2 f3 f4 f5 : Int32) : lr_G_Network_send f0 f1 f2 f3 f4 f5 a = some a := by
  unfold lr_G_Network_send
  rw [lr_r, h, if_pos (lr_yle (x := 32) (m := 32) rfl (Nat.le_refl _) (by decide))]
theorem lr_six {cnt : Nat} (j : Nat) (x : Int32) (hx : x = nI j) : (6 : Int32) * nI cnt + x = nI (6 * cnt + j) := by
  rw [lr_mul 6 (m := 6) rfl, hx, nI_add]
theorem lr_m_send {b : lr_S} {cnt : Nat} (h : b.1 20 0 19 = nI cnt) (hc : cnt < 32) (f0 f1 f2 f3 f4 f5 : Int32) : lr_G_M_send f0 f1 f2 f3 f4 f5 b = some (lr_sm b cnt f0 f1 f2 f3 f4 f5) := by
  unfold lr_G_M_send
  rw [lr_r, h, if_neg (show ¬ nI cnt = 32 from lr_neq (m := 32) (by omega) (by decide) (by omega))]
  rw [lr_six 1 1 rfl, lr_six 2 2 rfl, lr_six 3 3 rfl, lr_six 4 4 rfl, lr_six 5 5 rfl, lr_mul 6 (m := 6) rfl]
  rw [if_pos (lr_nin (by omega) (by decide)), if_pos (lr_nin (by omega) (by decide)), lr_bs, if_pos (lr_nin (by omega) (by decide)), if_pos (lr_nin (by omega) (by decide)), lr_bs, if_pos (lr_nin (by omega) (by decide)), if_pos (lr_nin (by omega) (by decide)), lr_bs]
  rw [lr_ncl (by omega), lr_ncl (by omega), lr_ncl (by omega), lr_ncl (by omega), lr_ncl (by omega), lr_ncl (by omega)]
  have e : lr_rd (lr_wr (lr_wr (lr_wr (lr_wr (lr_wr (lr_wr b 38 0 (6 * cnt) f0) 38 0 (6 * cnt + 1) f1) 38 0 (6 * cnt + 2) f2) 38 0 (6 * cnt + 3) f3) 38 0 (6 * cnt + 4) f4) 38 0 (6 * cnt + 5) f5) 20 0 19 = nI cnt := by
    simp only [lr_r, lr_w]
    simpa using h
  rw [e, nI_1]
  rfl
theorem lr_m_send32 {b : lr_S} (h : b.1 20 0 19 = nI 32) (f0 f1 f2 f3 f4 f5 : Int32) : lr_G_M_send f0 f1 f2 f3 f4 f5 b = some b := by
  unfold lr_G_M_send
  rw [lr_r, h, if_pos (show nI 32 = 32 from rfl)]
/-- the six values of a message, by number -/
def lr_f6 (f0 f1 f2 f3 f4 f5 : Int32) (j : Nat) : Int32 := match j with
  | 0 => f0
  | 1 => f1
  | 2 => f2
  | 3 => f3
  | 4 => f4
  | _ => f5
theorem lr_row_at (a : lr_S) (i : Nat) (f0 f1 f2 f3 f4 f5 : Int32) {j : Nat} (hj : j < 6) : (lr_row a i f0 f1 f2 f3 f4 f5).1 3 i j = lr_f6 f0 f1 f2 f3 f4 f5 j := by
  rcases (show j = 0 ∨ j = 1 ∨ j = 2 ∨ j = 3 ∨ j = 4 ∨ j = 5 by omega) with rfl | rfl | rfl | rfl | rfl | rfl <;> simp [lr_row, lr_w, lr_f6]
theorem lr_row_ne (a : lr_S) (i : Nat) (f0 f1 f2 f3 f4 f5 : Int32) {k i2 j : Nat} (h : ¬ (k = 3 ∧ i2 = i)) : (lr_row a i f0 f1 f2 f3 f4 f5).1 k i2 j = a.1 k i2 j := by
  by_cases hk : k = 3
  · have hi : ¬ i2 = i := fun e => h ⟨hk, e⟩
    simp [lr_row, lr_w, hi]
  · simp [lr_row, lr_w, hk]
theorem lr_row_2 (a : lr_S) (i : Nat) (f0 f1 f2 f3 f4 f5 : Int32) : (lr_row a i f0 f1 f2 f3 f4 f5).2 = a.2 := rfl
theorem lr_sm_at (b : lr_S) (cnt : Nat) (f0 f1 f2 f3 f4 f5 : Int32) {j : Nat} (hj : j < 6) : (lr_sm b cnt f0 f1 f2 f3 f4 f5).1 38 0 (6 * cnt + j) = lr_f6 f0 f1 f2 f3 f4 f5 j := by
  rcases (show j = 0 ∨ j = 1 ∨ j = 2 ∨ j = 3 ∨ j = 4 ∨ j = 5 by omega) with rfl | rfl | rfl | rfl | rfl | rfl <;> simp [lr_sm, lr_w, lr_f6]
theorem lr_sm_ne (b : lr_S) (cnt : Nat) (f0 f1 f2 f3 f4 f5 : Int32) {k i j : Nat} (h : ¬ (k = 38 ∧ i = 0 ∧ 6 * cnt ≤ j ∧ j < 6 * cnt + 6)) (h2 : ¬ (k = 20 ∧ i = 0 ∧ j = 19)) : (lr_sm b cnt f0 f1 f2 f3 f4 f5).1 k i j = b.1 k i j := by
  have e0 : ¬ (k = 38 ∧ i = 0 ∧ j = 6 * cnt) := fun z => h ⟨z.1, z.2.1, by omega, by omega⟩
  have e1 : ¬ (k = 38 ∧ i = 0 ∧ j = 6 * cnt + 1) := fun z => h ⟨z.1, z.2.1, by omega, by omega⟩
  have e2 : ¬ (k = 38 ∧ i = 0 ∧ j = 6 * cnt + 2) := fun z => h ⟨z.1, z.2.1, by omega, by omega⟩
  have e3 : ¬ (k = 38 ∧ i = 0 ∧ j = 6 * cnt + 3) := fun z => h ⟨z.1, z.2.1, by omega, by omega⟩
  have e4 : ¬ (k = 38 ∧ i = 0 ∧ j = 6 * cnt + 4) := fun z => h ⟨z.1, z.2.1, by omega, by omega⟩
  have e5 : ¬ (k = 38 ∧ i = 0 ∧ j = 6 * cnt + 5) := fun z => h ⟨z.1, z.2.1, by omega, by omega⟩
  simp only [lr_sm, lr_w]
  rw [if_neg h2, if_neg e5, if_neg e4, if_neg e3, if_neg e2, if_neg e1, if_neg e0]
theorem lr_sx_ne (a : lr_S) (cnt : Nat) (f0 f1 f2 f3 f4 f5 : Int32) {k i j : Nat} (h : ¬ (k = 3 ∧ i = a.2 cnt)) (h2 : ¬ (k = 1 ∧ i = 0 ∧ j = 1)) : (lr_sx a cnt f0 f1 f2 f3 f4 f5).1 k i j = a.1 k i j := by
  unfold lr_sx
  rw [lr_w, if_neg h2, lr_row_ne _ _ _ _ _ _ _ _ h]
theorem lr_sx_at (a : lr_S) (cnt : Nat) (f0 f1 f2 f3 f4 f5 : Int32) {j : Nat} (hj : j < 6) : (lr_sx a cnt f0 f1 f2 f3 f4 f5).1 3 (a.2 cnt) j = lr_f6 f0 f1 f2 f3 f4 f5 j := by
  unfold lr_sx
  rw [lr_w, if_neg (by simp), lr_row_at _ _ _ _ _ _ _ _ hj]
theorem lr_sx_2 (a : lr_S) (cnt : Nat) (f0 f1 f2 f3 f4 f5 : Int32) : (lr_sx a cnt f0 f1 f2 f3 f4 f5).2 = a.2 := rfl
theorem lr_s_send {c ns np cnt tt : Nat} {ow : Nat → Nat} {a b : lr_S} (R : lr_Rel c ns np cnt tt ow a b) (hc : cnt < 32) {f0 f1 f2 f3 f4 f5 : Int32} (hv : lr_mv ns ow (lr_f6 f0 f1 f2 f3 f4 f5)) : lr_Rel c ns np (cnt + 1) tt ow (lr_sx a cnt f0 f1 f2 f3 f4 f5) (lr_sm b cnt f0 f1 f2 f3 f4 f5) := by
  obtain ⟨h1, h2, h3, h4, h5, h6, h7, h7v, h8, h9, h10, h11, h12, h13, h14, h15, h16, h17, h18, h19, h20, p1, p2, p3, p4, p5, h22, h23⟩ := R
  have hx : ∀ k i j, ¬ k = 3 → ¬ (k = 1 ∧ j = 1) → (lr_sx a cnt f0 f1 f2 f3 f4 f5).1 k i j = a.1 k i j := fun k i j z1 z2 => lr_sx_ne _ _ _ _ _ _ _ _ (fun z => z1 z.1) (fun z => z2 ⟨z.1, z.2.2⟩)
  have hm : ∀ k i j, ¬ k = 38 → ¬ (k = 20 ∧ j = 19) → (lr_sm b cnt f0 f1 f2 f3 f4 f5).1 k i j = b.1 k i j := fun k i j z1 z2 => lr_sm_ne _ _ _ _ _ _ _ _ (fun z => z1 z.1) (fun z => z2 ⟨z.1, z.2.2⟩)
  have hpi : ∀ p, p < cnt → ¬ a.2 p = a.2 cnt := fun p hp e => by
    have := h18.2 p cnt (by omega) hc e
    omega
  refine ⟨?_, ?_, ?_, ?_, ?_, ?_, ?_, ?_, ?_, ?_, ?_, ?_, ?_, ?_, ?_, ?_, ?_, ?_, ?_, ?_, ?_, ?_, ?_, ?_, ?_, ?_, ?_, ?_⟩
  · simpa [lr_K1, hx, hm, lr_sx_2] using h1
  · exact ⟨by simp [lr_sx, lr_w], by simp [lr_sm, lr_w], by omega⟩
  · simpa [lr_K3, hx, hm, lr_sx_2] using h3
  · simpa [lr_K4, hx, hm, lr_sx_2] using h4
  · simpa [lr_K5, hx, hm, lr_sx_2] using h5
  · simpa [lr_K6, hx, hm, lr_sx_2] using h6
  · simpa [lr_K7, hx, hm, lr_sx_2] using h7
  · simpa [lr_K7v, hx, hm, lr_sx_2] using h7v
  · simpa [lr_K8, hx, hm, lr_sx_2] using h8
  · simpa [lr_K9, hx, hm, lr_sx_2] using h9
  · simpa [lr_K10, hx, hm, lr_sx_2] using h10
  · simpa [lr_K11, hx, hm, lr_sx_2] using h11
  · simpa [lr_K12, hx, hm, lr_sx_2] using h12
  · simpa [lr_K13, hx, hm, lr_sx_2] using h13
  · simpa [lr_K14, hx, hm, lr_sx_2] using h14
  · simpa [lr_K15, hx, hm, lr_sx_2] using h15
  · simpa [lr_K16, hx, hm, lr_sx_2] using h16
  · intro m s hm1 hs
    have e : ∀ j, (lr_sx a cnt f0 f1 f2 f3 f4 f5).1 3 (33 + 4 * m + s) j = a.1 3 (33 + 4 * m + s) j := fun j => lr_sx_ne _ _ _ _ _ _ _ _ (fun z => by have := h18.1 cnt hc; omega) (by simp)
    simpa [e, hm] using h17 m s hm1 hs
  · exact h18
  · intro p j hp hj
    rw [lr_sx_2]
    by_cases e : p = cnt
    · subst e
      rw [lr_sx_at _ _ _ _ _ _ _ _ hj, lr_sm_at _ _ _ _ _ _ _ _ hj]
    · rw [lr_sx_ne _ _ _ _ _ _ _ _ (fun z => hpi p (by omega) z.2) (by simp), lr_sm_ne _ _ _ _ _ _ _ _ (fun z => by omega) (by simp)]
      exact h19 p j (by omega) hj
  · intro p hp
    rw [lr_sx_2]
    by_cases e : p = cnt
    · subst e
      exact lr_mv_c (fun j hj => lr_sx_at _ _ _ _ _ _ _ _ hj) hv
    · have e2 : (fun j => (lr_sx a cnt f0 f1 f2 f3 f4 f5).1 3 (a.2 p) j) = fun j => a.1 3 (a.2 p) j := by
        funext j
        exact lr_sx_ne _ _ _ _ _ _ _ _ (fun z => hpi p (by omega) z.2) (by simp)
      rw [e2]
      exact h20 p (by omega)
  · simpa [lr_P1, hx, hm, lr_sx_2] using p1
  · simpa [lr_P2, hx, hm, lr_sx_2] using p2
  · simpa [lr_P3, hx, hm, lr_sx_2] using p3
  · simpa [lr_P4, hx, hm, lr_sx_2] using p4
  · simpa [lr_P5, hx, hm, lr_sx_2] using p5
  · exact h22
  · simpa [lr_K23, hx, hm, lr_sx_2] using h23
/-- what sending leaves: all but the flight's free row and its count -/
def lr_fx (a a2 : lr_S) : Prop := (∀ k i j, ¬ k = 3 → ¬ (k = 1 ∧ j = 1) → a2.1 k i j = a.1 k i j) ∧ (∀ i j, 32 ≤ i → a2.1 3 i j = a.1 3 i j) ∧ a2.2 = a.2
def lr_fm (b b2 : lr_S) : Prop := ∀ k i j, ¬ k = 38 → ¬ (k = 20 ∧ j = 19) → b2.1 k i j = b.1 k i j
theorem lr_send {c ns np cnt tt : Nat} {ow : Nat → Nat} {a b : lr_S} (R : lr_Rel c ns np cnt tt ow a b) {f0 f1 f2 f3 f4 f5 : Int32} (hv : lr_mv ns ow (lr_f6 f0 f1 f2 f3 f4 f5)) : ∃ cnt2 a2 b2, lr_G_Network_send f0 f1 f2 f3 f4 f5 a = some a2 ∧ lr_G_M_send f0 f1 f2 f3 f4 f5 b = some b2 ∧ lr_Rel c ns np cnt2 tt ow a2 b2 ∧ lr_fx a a2 ∧ lr_fm b b2 := by
  have h2 := R.2.1
  have h18 : lr_K18 a := by obtain ⟨h1, h2, h3, h4, h5, h6, h7, h7v, h8, h9, h10, h11, h12, h13, h14, h15, h16, h17, h18, h19, h20, p1, p2, p3, p4, p5, h22, h23⟩ := R; exact h18
  by_cases hc : cnt < 32
  · refine ⟨cnt + 1, _, _, lr_x_send h2.1 hc (by have := h18.1 cnt hc; omega) _ _ _ _ _ _, lr_m_send h2.2.1 hc _ _ _ _ _ _, lr_s_send R hc hv, ⟨fun k i j z1 z2 => lr_sx_ne _ _ _ _ _ _ _ _ (fun z => z1 z.1) (fun z => z2 ⟨z.1, z.2.2⟩), fun i j hi => lr_sx_ne _ _ _ _ _ _ _ _ (fun z => by have := h18.1 cnt hc; omega) (by simp), rfl⟩, fun k i j z1 z2 => lr_sm_ne _ _ _ _ _ _ _ _ (fun z => z1 z.1) (fun z => z2 ⟨z.1, z.2.2⟩)⟩
  · obtain rfl : cnt = 32 := by have := h2.2.2; omega
    exact ⟨32, a, b, lr_x_send32 h2.1 _ _ _ _ _ _, lr_m_send32 h2.2.1 _ _ _ _ _ _, R, ⟨fun _ _ _ _ _ => rfl, fun _ _ _ => rfl, rfl⟩, fun _ _ _ _ _ => rfl⟩
