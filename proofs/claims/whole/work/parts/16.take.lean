/-! a message taken out of the flight -/
def lr_tk (a : lr_S) (k i : Nat) : lr_S := (a.1, fun p => if k ≤ p ∧ p + 1 < i then a.2 (p + 1) else a.2 p)
theorem lr_tk_0 (a : lr_S) (k : Nat) : lr_tk a k (k + 1) = a := by
  unfold lr_tk
  have e : (fun p => if k ≤ p ∧ p + 1 < k + 1 then a.2 (p + 1) else a.2 p) = a.2 := by
    funext p
    exact if_neg (by omega)
  rw [e]
theorem lr_tk_s (a : lr_S) (k i : Nat) (hi : k + 1 ≤ i) : lr_wp (lr_tk a k i) (i - 1) (a.2 i) = lr_tk a k (i + 1) := by
  unfold lr_tk lr_wp
  congr 1
  funext p
  by_cases e : p = i - 1
  · subst e
    rw [if_pos rfl, if_pos (by omega), show i - 1 + 1 = i by omega]
  · rw [if_neg e]
    dsimp only
    by_cases q : k ≤ p ∧ p + 1 < i
    · rw [if_pos q, if_pos (by omega)]
    · rw [if_neg q, if_neg (by omega)]
theorem lr_x_tkl (a : lr_S) (z : Int32) (r : Nat) {k cnt : Nat} (h : a.1 1 0 1 = nI cnt) (hc : cnt ≤ 32) (hp : ∀ p, p < 32 → a.2 p < 32) : ∀ (c i f : Nat), i + c = cnt → k + 1 ≤ i → c < f → lr_L_Network_takeOut_11 z r f (nI i) (lr_tk a k i) = some (nI cnt, lr_tk a k cnt)
  | 0, i, f, e, hi, hf => by
    obtain ⟨f, rfl⟩ : ∃ g, f = g + 1 := ⟨f - 1, by omega⟩
    unfold lr_L_Network_takeOut_11
    obtain rfl : i = cnt := by omega
    rw [lr_r, if_pos (lr_yle (x := (lr_tk a k i).1 1 0 1) h (by omega) (by omega))]
  | c + 1, i, f, e, hi, hf => by
    obtain ⟨f, rfl⟩ : ∃ g, f = g + 1 := ⟨f - 1, by omega⟩
    unfold lr_L_Network_takeOut_11
    have ih := lr_x_tkl a z r (k := k) h hc hp c (i + 1) f (by omega) (by omega) (by omega)
    have e2 : (lr_tk a k i).2 i = a.2 i := if_neg (by omega)
    have e3 : nI i - 1 = nI (i - 1) := pk_sub (b := 1) (by omega)
    have hpi := hp i (by omega)
    rw [lr_r, if_neg (lr_nle (x := (lr_tk a k i).1 1 0 1) h (by omega) (by omega)), if_pos (lr_nin (by omega) (by decide)), lr_ncl (m := i) (by omega), e2, if_pos (show a.2 i < 49 by omega), e3, if_pos (lr_nin (by omega) (by decide)), lr_ncl (m := i - 1) (by omega), lr_tk_s a k i hi, nI_1]
    exact ih
def lr_sg (k cnt p : Nat) : Nat := if p = cnt - 1 then k else if k ≤ p ∧ p + 1 < cnt then p + 1 else p
def lr_tx (a : lr_S) (k cnt : Nat) : lr_S := ((lr_wr a 1 0 1 (nI (cnt - 1))).1, fun p => a.2 (lr_sg k cnt p))
theorem lr_x_takeOut {a : lr_S} {k cnt : Nat} (h : a.1 1 0 1 = nI cnt) (hc : cnt ≤ 32) (hp : ∀ p, p < 32 → a.2 p < 32) (hk : k < cnt) : lr_G_Network_takeOut (nI k) a = some (lr_tx a k cnt) := by
  unfold lr_G_Network_takeOut
  have hpk := hp k (by omega)
  have hl := lr_x_tkl a (nI k) (a.2 k) (k := k) h hc hp (cnt - (k + 1)) (k + 1) 600 (by omega) (by omega) (by omega)
  rw [lr_tk_0] at hl
  rw [if_pos (lr_nin (by omega) (by decide)), lr_ncl (by omega), if_pos (show a.2 k < 49 by omega), nI_1, hl, lr_bs]
  have e : lr_rd (lr_tk a k cnt) 1 0 1 - 1 = nI (cnt - 1) := by
    rw [lr_r, show (lr_tk a k cnt).1 1 0 1 = nI cnt from h]
    exact pk_sub (b := 1) (by omega)
  rw [e]
  have e2 : lr_rd (lr_wr (lr_tk a k cnt) 1 0 1 (nI (cnt - 1))) 1 0 1 = nI (cnt - 1) := by simp [lr_r, lr_w]
  rw [e2, if_pos (lr_nin (by omega) (by decide)), lr_ncl (by omega), lr_bs]
  congr 1
  unfold lr_tx lr_wp lr_tk
  congr 1
  funext p
  unfold lr_sg
  by_cases q : p = cnt - 1
  · rw [if_pos q, if_pos q]
  · rw [if_neg q, if_neg q]
    show (if k ≤ p ∧ p + 1 < cnt then a.2 (p + 1) else a.2 p) = _
    by_cases q2 : k ≤ p ∧ p + 1 < cnt
    · rw [if_pos q2, if_pos q2]
    · rw [if_neg q2, if_neg q2]
def lr_am (b : lr_S) (k i : Nat) : lr_S := (fun x y z => if x = 38 ∧ y = 0 ∧ 6 * k ≤ z ∧ z < i then b.1 38 0 (z + 6) else b.1 x y z, b.2)
theorem lr_am_0 (b : lr_S) (k : Nat) : lr_am b k (6 * k) = b := by
  unfold lr_am
  have e : (fun x y z => if x = 38 ∧ y = 0 ∧ 6 * k ≤ z ∧ z < 6 * k then b.1 38 0 (z + 6) else b.1 x y z) = b.1 := by
    funext x y z
    exact if_neg (by omega)
  rw [e]
theorem lr_am_s (b : lr_S) (k i : Nat) (hi : 6 * k ≤ i) : lr_wr (lr_am b k i) 38 0 i (b.1 38 0 (i + 6)) = lr_am b k (i + 1) := by
  unfold lr_am lr_wr
  congr 1
  funext x y z
  by_cases e : x = 38 ∧ y = 0 ∧ z = i
  · obtain ⟨rfl, rfl, rfl⟩ := e
    rw [if_pos ⟨rfl, rfl, rfl⟩, if_pos (by omega)]
  · rw [if_neg e]
    dsimp only
    by_cases q : x = 38 ∧ y = 0 ∧ 6 * k ≤ z ∧ z < i
    · rw [if_pos q, if_pos (by omega)]
    · rw [if_neg q, if_neg (by omega)]
theorem lr_m_tkl (b : lr_S) (w : Int32) {k cnt : Nat} (h : b.1 20 0 19 = nI cnt) (hc : cnt ≤ 32) (hk : k < cnt) : ∀ (c i f : Nat), i + c = 6 * cnt - 6 → 6 * k ≤ i → c < f → lr_L_M_takeOut_5 w f (nI i) (lr_am b k i) = some (nI (6 * cnt - 6), lr_am b k (6 * cnt - 6))
  | 0, i, f, e, hi, hf => by
    obtain ⟨f, rfl⟩ : ∃ g, f = g + 1 := ⟨f - 1, by omega⟩
    unfold lr_L_M_takeOut_5
    obtain rfl : i = 6 * cnt - 6 := by omega
    have e1 : (6 : Int32) * nI cnt - 6 = nI (6 * cnt - 6) := by rw [lr_mul 6 (m := 6) rfl]; exact pk_sub (b := 6) (by omega)
    rw [lr_r, show (lr_am b k (6 * cnt - 6)).1 20 0 19 = nI cnt from h, e1, if_pos (lr_yle rfl (by omega) (by omega))]
  | c + 1, i, f, e, hi, hf => by
    obtain ⟨f, rfl⟩ : ∃ g, f = g + 1 := ⟨f - 1, by omega⟩
    unfold lr_L_M_takeOut_5
    have ih := lr_m_tkl b w h hc hk c (i + 1) f (by omega) (by omega) (by omega)
    have e1 : (6 : Int32) * nI cnt - 6 = nI (6 * cnt - 6) := by rw [lr_mul 6 (m := 6) rfl]; exact pk_sub (b := 6) (by omega)
    have e2 : nI i + 6 = nI (i + 6) := nI_add i 6
    have e3 : lr_rd (lr_am b k i) 38 0 (i + 6) = b.1 38 0 (i + 6) := if_neg (by omega)
    rw [lr_r, show (lr_am b k i).1 20 0 19 = nI cnt from h, e1, if_neg (lr_nle rfl (by omega) (by omega)), e2, if_pos (lr_nin (m := i + 6) (by omega) (by decide)), if_pos (lr_nin (m := i) (by omega) (by decide)), lr_ncl (m := i) (by omega), lr_ncl (m := i + 6) (by omega), e3, lr_am_s b k i hi, nI_1]
    exact ih
def lr_tm (b : lr_S) (k cnt : Nat) : lr_S := lr_wr (lr_am b k (6 * cnt - 6)) 20 0 19 (nI (cnt - 1))
theorem lr_m_takeOut {b : lr_S} {k cnt : Nat} (h : b.1 20 0 19 = nI cnt) (hc : cnt ≤ 32) (hk : k < cnt) : lr_G_M_takeOut (nI k) b = some (lr_tm b k cnt) := by
  unfold lr_G_M_takeOut
  have hl := lr_m_tkl b (nI k) h hc hk (6 * cnt - 6 - 6 * k) (6 * k) 600 (by omega) (by omega) (by omega)
  rw [lr_am_0] at hl
  rw [lr_mul 6 (m := 6) rfl, hl, lr_bs]
  have e : lr_rd (lr_am b k (6 * cnt - 6)) 20 0 19 - 1 = nI (cnt - 1) := by
    rw [lr_r, show (lr_am b k (6 * cnt - 6)).1 20 0 19 = nI cnt from h]
    exact pk_sub (b := 1) (by omega)
  rw [e]
  rfl
theorem lr_am_ne (b : lr_S) (k i : Nat) {x y z : Nat} (h : ¬ x = 38) : (lr_am b k i).1 x y z = b.1 x y z := if_neg (fun q => h q.1)
theorem lr_sg_lt {k cnt p : Nat} (hk : k < cnt) (hc : cnt ≤ 32) (hp : p < 32) : lr_sg k cnt p < 32 := by
  unfold lr_sg
  split
  · omega
  · split <;> omega
theorem lr_sg_inj {k cnt p q : Nat} (hk : k < cnt) (e : lr_sg k cnt p = lr_sg k cnt q) : p = q := by
  have key : ∀ p, (p = cnt - 1 ∧ lr_sg k cnt p = k) ∨ (¬ p = cnt - 1 ∧ k ≤ p ∧ p + 1 < cnt ∧ lr_sg k cnt p = p + 1) ∨ (¬ p = cnt - 1 ∧ ¬ (k ≤ p ∧ p + 1 < cnt) ∧ lr_sg k cnt p = p) := by
    intro p
    unfold lr_sg
    by_cases h1 : p = cnt - 1
    · exact Or.inl ⟨h1, if_pos h1⟩
    · rw [if_neg h1]
      by_cases h2 : k ≤ p ∧ p + 1 < cnt
      · exact Or.inr (Or.inl ⟨h1, h2.1, h2.2, if_pos h2⟩)
      · exact Or.inr (Or.inr ⟨h1, h2, if_neg h2⟩)
  rcases key p with ⟨a1, a2⟩ | ⟨a1, a2, a3, a4⟩ | ⟨a1, a2, a3⟩ <;> rcases key q with ⟨b1, b2⟩ | ⟨b1, b2, b3, b4⟩ | ⟨b1, b2, b3⟩ <;> omega
theorem lr_sg_go {k cnt p : Nat} (hk : k < cnt) (hp : p < cnt - 1) : lr_sg k cnt p < cnt ∧ ((p < k ∧ lr_sg k cnt p = p) ∨ (k ≤ p ∧ lr_sg k cnt p = p + 1)) := by
  unfold lr_sg
  rw [if_neg (by omega)]
  split <;> omega
theorem lr_s_take {c ns np cnt tt : Nat} {ow : Nat → Nat} {a b : lr_S} (R : lr_Rel c ns np cnt tt ow a b) {k : Nat} (hk : k < cnt) : lr_Rel c ns np (cnt - 1) tt ow (lr_tx a k cnt) (lr_tm b k cnt) := by
  obtain ⟨h1, h2, h3, h4, h5, h6, h7, h7v, h8, h9, h10, h11, h12, h13, h14, h15, h16, h17, h18, h19, h20, p1, p2, p3, p4, p5, h22, h23⟩ := R
  refine ⟨?_, ?_, ?_, ?_, ?_, ?_, ?_, ?_, ?_, ?_, ?_, ?_, ?_, ?_, ?_, ?_, ?_, ?_, ?_, ?_, ?_, ?_, ?_, ?_, ?_, ?_, ?_, ?_⟩
  · simpa [lr_K1, lr_tx, lr_tm, lr_am_ne, lr_w, lr_w2] using h1
  · exact ⟨by simp [lr_tx, lr_tm, lr_am_ne, lr_w, lr_w2], by simp [lr_tx, lr_tm, lr_am_ne, lr_w, lr_w2], by have := h2.2.2; omega⟩
  · simpa [lr_K3, lr_tx, lr_tm, lr_am_ne, lr_w, lr_w2] using h3
  · simpa [lr_K4, lr_tx, lr_tm, lr_am_ne, lr_w, lr_w2] using h4
  · simpa [lr_K5, lr_tx, lr_tm, lr_am_ne, lr_w, lr_w2] using h5
  · simpa [lr_K6, lr_tx, lr_tm, lr_am_ne, lr_w, lr_w2] using h6
  · simpa [lr_K7, lr_tx, lr_tm, lr_am_ne, lr_w, lr_w2] using h7
  · simpa [lr_K7v, lr_tx, lr_tm, lr_am_ne, lr_w, lr_w2] using h7v
  · simpa [lr_K8, lr_tx, lr_tm, lr_am_ne, lr_w, lr_w2] using h8
  · simpa [lr_K9, lr_tx, lr_tm, lr_am_ne, lr_w, lr_w2] using h9
  · simpa [lr_K10, lr_tx, lr_tm, lr_am_ne, lr_w, lr_w2] using h10
  · simpa [lr_K11, lr_tx, lr_tm, lr_am_ne, lr_w, lr_w2] using h11
  · simpa [lr_K12, lr_tx, lr_tm, lr_am_ne, lr_w, lr_w2] using h12
  · simpa [lr_K13, lr_tx, lr_tm, lr_am_ne, lr_w, lr_w2] using h13
  · simpa [lr_K14, lr_tx, lr_tm, lr_am_ne, lr_w, lr_w2] using h14
  · simpa [lr_K15, lr_tx, lr_tm, lr_am_ne, lr_w, lr_w2] using h15
  · simpa [lr_K16, lr_tx, lr_tm, lr_am_ne, lr_w, lr_w2] using h16
  · simpa [lr_K17, lr_tx, lr_tm, lr_am_ne, lr_w, lr_w2] using h17
  · have hc := h2.2.2
    refine ⟨fun p hp => h18.1 _ (lr_sg_lt hk hc hp), fun p p2 hp hp2 e => lr_sg_inj hk (h18.2 _ _ (lr_sg_lt hk hc hp) (lr_sg_lt hk hc hp2) e)⟩
  · intro p j hp hj
    obtain ⟨g1, g2⟩ := lr_sg_go hk hp
    have h := h19 (lr_sg k cnt p) j g1 hj
    have e1 : (lr_tx a k cnt).1 3 ((lr_tx a k cnt).2 p) j = a.1 3 (a.2 (lr_sg k cnt p)) j := by simp [lr_tx, lr_w]
    rw [e1, h]
    have e2 : ∀ z, (lr_tm b k cnt).1 38 0 z = (lr_am b k (6 * cnt - 6)).1 38 0 z := fun z => by simp [lr_tm, lr_w]
    rw [e2]
    unfold lr_am
    dsimp only
    rcases g2 with ⟨q1, q2⟩ | ⟨q1, q2⟩
    · rw [q2, if_neg (by omega)]
    · rw [q2, if_pos (by omega), show 6 * (p + 1) + j = 6 * p + j + 6 by omega]
  · intro p hp
    obtain ⟨g1, g2⟩ := lr_sg_go hk hp
    refine lr_mv_c (fun j hj => ?_) (h20 (lr_sg k cnt p) g1)
    simp [lr_tx, lr_w]
  · simpa [lr_P1, lr_tx, lr_tm, lr_am_ne, lr_w, lr_w2] using p1
  · simpa [lr_P2, lr_tx, lr_tm, lr_am_ne, lr_w, lr_w2] using p2
  · simpa [lr_P3, lr_tx, lr_tm, lr_am_ne, lr_w, lr_w2] using p3
  · simpa [lr_P4, lr_tx, lr_tm, lr_am_ne, lr_w, lr_w2] using p4
  · simpa [lr_P5, lr_tx, lr_tm, lr_am_ne, lr_w, lr_w2] using p5
  · exact h22
  · simpa [lr_K23, lr_tx, lr_tm, lr_am_ne, lr_w, lr_w2] using h23
theorem lr_sim_lose (x : Int32) : lr_Sim (lr_G_X_lose x) (lr_G_M_lose x) := by
  rintro c a b ⟨ns, np, cnt, tt, ow, R⟩ hc
  obtain ⟨h1, h2, h3, h4, h5, h6, h7, h7v, h8, h9, h10, h11, h12, h13, h14, h15, h16, h17, h18, h19, h20, p1, p2, p3, p4, p5, h22, h23⟩ := id R
  have hc32 := h2.2.2
  unfold lr_G_X_lose lr_G_M_lose
  rcases lr_arg x (N := cnt) (by omega) with hx | ⟨p, hp, rfl⟩
  · rw [lr_x_hasPlace_o h2.1 hx, lr_r, lr_m_within_o h2.2.1 hx]
    exact lr_same R hc rfl rfl
  · rw [lr_x_hasPlace_i h2.1 hp (by omega), lr_r, lr_m_within_i h2.2.1 hp (by omega), lr_bs, lr_bs, if_neg lr_1ne0, if_neg lr_1ne0, lr_x_takeOut h2.1 hc32 h18.1 hp, lr_m_takeOut h2.2.1 hc32 hp]
    exact lr_fin (lr_s_take R hp) hc rfl rfl
theorem lr_m_copy_go {b : lr_S} {p cnt : Nat} (h : b.1 20 0 19 = nI cnt) (hc : cnt < 32) (hp : p < cnt) : lr_G_M_copy (nI p) b = some (1, lr_sm b cnt (b.1 38 0 (6 * p)) (b.1 38 0 (6 * p + 1)) (b.1 38 0 (6 * p + 2)) (b.1 38 0 (6 * p + 3)) (b.1 38 0 (6 * p + 4)) (b.1 38 0 (6 * p + 5))) := by
  have q0 : ∀ m, (6 : Int32) * nI m + 0 = nI (6 * m) := fun m => by rw [lr_mul 6 (m := 6) rfl, lr_i0, nI_add]; rfl
  have q : ∀ (m j : Nat) (x : Int32), x = nI j → (6 : Int32) * nI m + x = nI (6 * m + j) := fun m j x hx => lr_six j x hx
  unfold lr_G_M_copy
  rw [lr_r, h, lr_m_within_i rfl hp (by omega), lr_bs, if_neg lr_1ne0, lr_r, show (1, b).2.1 20 0 19 = nI cnt from h, if_neg (show ¬ nI cnt = 32 from lr_neq (m := 32) (by omega) (by decide) (by omega)), q0, q0, if_pos (lr_nin (by omega) (by decide)), if_pos (lr_nin (by omega) (by decide)), lr_ncl (by omega), lr_ncl (by omega), lr_bs]
  have go : ∀ (t : lr_S) (z : Nat) (v : Int32), t.1 20 0 19 = nI cnt → (lr_wr t 38 0 z v).1 20 0 19 = nI cnt := fun t z v ht => by
    rw [lr_w, if_neg (fun e => absurd e.1 (by decide))]; exact ht
  have rdo : ∀ (t : lr_S) (z y : Nat) (v : Int32), ¬ y = z → (lr_wr t 38 0 z v).1 38 0 y = t.1 38 0 y := fun t z y v hy => by
    rw [lr_w, if_neg (fun e => hy e.2.2)]
  have t1 := go b (6 * cnt) (lr_rd b 38 0 (6 * p)) h
  rw [lr_r _ 20, t1, q p 1 1 rfl, q cnt 1 1 rfl, if_pos (lr_nin (by omega) (by decide)), if_pos (lr_nin (by omega) (by decide)), lr_ncl (by omega), lr_ncl (by omega), lr_bs]
  have t2 := go _ (6 * cnt + 1) (lr_rd (lr_wr b 38 0 (6 * cnt) (lr_rd b 38 0 (6 * p))) 38 0 (6 * p + 1)) t1
  rw [lr_r _ 20, t2, q p 2 2 rfl, q cnt 2 2 rfl, if_pos (lr_nin (by omega) (by decide)), if_pos (lr_nin (by omega) (by decide)), lr_ncl (by omega), lr_ncl (by omega), lr_bs]
  rw [lr_r _ 38, lr_r _ 38, lr_r _ 38, rdo _ _ (6 * p + 2) _ (by omega), rdo _ _ (6 * p + 2) _ (by omega), rdo _ _ (6 * p + 1) _ (by omega)]
  have t3 := go _ (6 * cnt + 2) (b.1 38 0 (6 * p + 2)) (go _ (6 * cnt + 1) (b.1 38 0 (6 * p + 1)) (go _ (6 * cnt) (b.1 38 0 (6 * p)) h))
  rw [lr_r _ 20, t3, q p 3 3 rfl, q cnt 3 3 rfl, if_pos (lr_nin (by omega) (by decide)), if_pos (lr_nin (by omega) (by decide)), lr_ncl (by omega), lr_ncl (by omega), lr_bs]
  rw [lr_r _ 38, rdo _ _ (6 * p + 3) _ (by omega), rdo _ _ (6 * p + 3) _ (by omega), rdo _ _ (6 * p + 3) _ (by omega)]
  have t4 := go _ (6 * cnt + 3) (b.1 38 0 (6 * p + 3)) t3
  rw [lr_r _ 20, t4, q p 4 4 rfl, q cnt 4 4 rfl, if_pos (lr_nin (by omega) (by decide)), if_pos (lr_nin (by omega) (by decide)), lr_ncl (by omega), lr_ncl (by omega), lr_bs]
  rw [lr_r _ 38, rdo _ _ (6 * p + 4) _ (by omega), rdo _ _ (6 * p + 4) _ (by omega), rdo _ _ (6 * p + 4) _ (by omega), rdo _ _ (6 * p + 4) _ (by omega)]
  have t5 := go _ (6 * cnt + 4) (b.1 38 0 (6 * p + 4)) t4
  rw [lr_r _ 20, t5, q p 5 5 rfl, q cnt 5 5 rfl, if_pos (lr_nin (by omega) (by decide)), if_pos (lr_nin (by omega) (by decide)), lr_ncl (by omega), lr_ncl (by omega), lr_bs]
  rw [lr_r _ 38, rdo _ _ (6 * p + 5) _ (by omega), rdo _ _ (6 * p + 5) _ (by omega), rdo _ _ (6 * p + 5) _ (by omega), rdo _ _ (6 * p + 5) _ (by omega), rdo _ _ (6 * p + 5) _ (by omega)]
  have t6 := go _ (6 * cnt + 5) (b.1 38 0 (6 * p + 5)) t5
  rw [lr_r _ 20, t6, nI_1]
  rfl
theorem lr_sim_copy (x : Int32) : lr_Sim (lr_G_X_copy x) (lr_G_M_copy x) := by
  rintro c a b ⟨ns, np, cnt, tt, ow, R⟩ hc
  obtain ⟨h1, h2, h3, h4, h5, h6, h7, h7v, h8, h9, h10, h11, h12, h13, h14, h15, h16, h17, h18, h19, h20, p1, p2, p3, p4, p5, h22, h23⟩ := id R
  have hc32 := h2.2.2
  rcases lr_arg x (N := cnt) (by omega) with hx | ⟨p, hp, rfl⟩
  · unfold lr_G_X_copy lr_G_M_copy
    rw [lr_x_hasPlace_o h2.1 hx, lr_r, lr_m_within_o h2.2.1 hx]
    exact lr_same R hc rfl rfl
  · have hpp := h18.1 p (by omega)
    by_cases hf : cnt = 32
    · unfold lr_G_X_copy lr_G_M_copy
      subst hf
      rw [lr_x_hasPlace_i h2.1 hp (by omega), lr_r, lr_m_within_i h2.2.1 hp (by omega), lr_bs, lr_bs, if_neg lr_1ne0, if_neg lr_1ne0, lr_r, lr_r, show (1, a).2.1 1 0 1 = nI 32 from h2.1, show (1, b).2.1 20 0 19 = nI 32 from h2.2.1, if_pos (show nI 32 = 32 from rfl), if_pos (show nI 32 = 32 from rfl)]
      exact lr_same R hc rfl rfl
    · have hlt : cnt < 32 := by omega
      have hx1 : lr_G_X_copy (nI p) a = some (1, lr_sx a cnt (a.1 3 (a.2 p) 0) (a.1 3 (a.2 p) 1) (a.1 3 (a.2 p) 2) (a.1 3 (a.2 p) 3) (a.1 3 (a.2 p) 4) (a.1 3 (a.2 p) 5)) := by
        unfold lr_G_X_copy
        rw [lr_x_hasPlace_i h2.1 hp (by omega), lr_bs, if_neg lr_1ne0, lr_r, show (1, a).2.1 1 0 1 = nI cnt from h2.1, if_neg (show ¬ nI cnt = 32 from lr_neq (m := 32) (by omega) (by decide) hf), if_pos (lr_nin (by omega) (by decide)), lr_ncl (by omega), if_pos (show a.2 p < 49 by omega)]
        unfold lr_G_Network_sendAgain
        rw [lr_x_send (a := a) h2.1 hlt (by have := h18.1 cnt hlt; omega)]
        rfl
      have e : ∀ j, j < 6 → b.1 38 0 (6 * p + j) = a.1 3 (a.2 p) j := fun j hj => (h19 p j hp hj).symm
      have hm1 := lr_m_copy_go h2.2.1 hlt hp
      rw [show b.1 38 0 (6 * p) = a.1 3 (a.2 p) 0 from e 0 (by decide), e 1 (by decide), e 2 (by decide), e 3 (by decide), e 4 (by decide), e 5 (by decide)] at hm1
      refine lr_fin (lr_s_send R hlt (lr_mv_c (fun j hj => ?_) (h20 p hp))) hc hx1 hm1
      rcases (show j = 0 ∨ j = 1 ∨ j = 2 ∨ j = 3 ∨ j = 4 ∨ j = 5 by omega) with rfl | rfl | rfl | rfl | rfl | rfl <;> rfl
