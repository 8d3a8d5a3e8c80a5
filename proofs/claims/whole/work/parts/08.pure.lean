/-! numbers, and loops that only look -/
theorem lr_w (t : lr_S) (k i j : Nat) (v : Int32) (k' i' j' : Nat) : (lr_wr t k i j v).1 k' i' j' = if k' = k ∧ i' = i ∧ j' = j then v else t.1 k' i' j' := rfl
theorem lr_w2 (t : lr_S) (k i j : Nat) (v : Int32) : (lr_wr t k i j v).2 = t.2 := rfl
theorem lr_r (t : lr_S) (k i j : Nat) : lr_rd t k i j = t.1 k i j := rfl
theorem lr_p1 (t : lr_S) (j r : Nat) : (lr_wp t j r).1 = t.1 := rfl
theorem lr_p2 (t : lr_S) (j r j' : Nat) : (lr_wp t j r).2 j' = if j' = j then r else t.2 j' := rfl
theorem lr_bs {α β : Type} (x : α) (f : α → Option β) : (some x).bind f = f x := rfl
theorem lr_nin {m N : Nat} (h : m < N) (hN : N < 2 ^ 31) : lr_in (nI m) N = true := by
  have e := nI_toInt (n := m) (by omega)
  simp only [lr_in, Bool.and_eq_true, decide_eq_true_eq, e]
  omega
theorem lr_ncl {m : Nat} (h : m < 2 ^ 31) : (nI m).toNatClampNeg = m := nI_clamp h
/-- x is no place among the first N -/
def lr_out (x : Int32) (N : Nat) : Prop := x < 0 ∨ nI N ≤ x
theorem lr_arg (x : Int32) {N : Nat} (hN : N < 2 ^ 31) : lr_out x N ∨ ∃ j : Nat, j < N ∧ x = nI j := by
  rcases pk_ix x hN with h | h | h
  · exact Or.inl (Or.inl h)
  · exact Or.inl (Or.inr h)
  · exact Or.inr h
theorem lr_nneg {m : Nat} (h : m < 2 ^ 31) : ¬ nI m < 0 := nI_pos h
theorem lr_nle {x : Int32} {k m : Nat} (hx : x = nI m) (h : k < m) (hm : m < 2 ^ 31) : ¬ x ≤ nI k := by
  rw [hx]; exact nI_ge h hm
theorem lr_yle {x : Int32} {k m : Nat} (hx : x = nI m) (h : m ≤ k) (hk : k < 2 ^ 31) : x ≤ nI k := by
  rw [hx]; exact nI_le h hk
theorem lr_neq {k m : Nat} (hk : k < 2 ^ 31) (hm : m < 2 ^ 31) (h : k ≠ m) : ¬ nI k = nI m := fun e => h ((nI_eq hk hm).mp e)
theorem lr_n1 {k : Nat} (h : k < 2 ^ 31) : ¬ nI k = -1 := by
  intro e
  have h1 := nI_toInt h
  rw [e] at h1
  have h2 : (-1 : Int32).toInt = -1 := by decide
  omega
theorem lr_i0 : (0 : Int32) = nI 0 := rfl
theorem lr_mul (c : Int32) {m n : Nat} (h : c = nI m) : c * nI n = nI (m * n) := by rw [h, pk_mul]
theorem lr_div8 {q : Nat} (h : q < 2 ^ 31) : nI q / (8 : Int32) = nI (q / 8) := pk_div (d := 8) h (by decide) (by decide)
theorem lr_mod8 {q : Nat} (h : q < 2 ^ 31) : nI q - nI q / (8 : Int32) * (8 : Int32) = nI (q % 8) := pk_rem (d := 8) h (by decide) (by decide)
theorem lr_div4 {q : Nat} (h : q < 2 ^ 31) : nI q / (4 : Int32) = nI (q / 4) := pk_div (d := 4) h (by decide) (by decide)
theorem lr_mod4 {q : Nat} (h : q < 2 ^ 31) : nI q - nI q / (4 : Int32) * (4 : Int32) = nI (q % 4) := pk_rem (d := 4) h (by decide) (by decide)
theorem lr_1ne0 : ¬ (1 : Int32) = 0 := by decide
theorem lr_m1ne (x : Int32) (h : x = -1) : x < 0 := by rw [h]; decide
/-- the first of c places from s on that p picks -/
def lr_lf (p : Nat → Bool) : Nat → Nat → Option Nat
  | _, 0 => none
  | s, c + 1 => if p s = true then some s else lr_lf p (s + 1) c
def lr_on (x : Option Nat) : Int32 := match x with
  | none => -1
  | some k => nI k
theorem lr_lf_some {p : Nat → Bool} : ∀ (c s k : Nat), lr_lf p s c = some k → s ≤ k ∧ k < s + c ∧ p k = true ∧ ∀ j, s ≤ j → j < k → p j = false
  | 0, s, k, h => by cases h
  | c + 1, s, k, h => by
    unfold lr_lf at h
    by_cases hp : p s = true
    · rw [if_pos hp] at h
      cases h
      exact ⟨Nat.le_refl _, by omega, hp, fun j h1 h2 => by omega⟩
    · rw [if_neg hp] at h
      obtain ⟨h1, h2, h3, h4⟩ := lr_lf_some c (s + 1) k h
      refine ⟨by omega, by omega, h3, fun j g1 g2 => ?_⟩
      by_cases e : j = s
      · subst e
        simpa using hp
      · exact h4 j (by omega) g2
theorem lr_lf_none {p : Nat → Bool} : ∀ (c s : Nat), lr_lf p s c = none → ∀ j, s ≤ j → j < s + c → p j = false
  | 0, s, h, j, h1, h2 => by omega
  | c + 1, s, h, j, h1, h2 => by
    unfold lr_lf at h
    by_cases hp : p s = true
    · rw [if_pos hp] at h
      cases h
    · rw [if_neg hp] at h
      by_cases e : j = s
      · subst e
        simpa using hp
      · exact lr_lf_none c (s + 1) h j (by omega) (by omega)
theorem lr_lf_shift {p q : Nat → Bool} (d : Nat) : ∀ (c s : Nat), (∀ j, s ≤ j → j < s + c → p (d + j) = q j) → lr_lf p (d + s) c = (lr_lf q s c).map (fun k => d + k)
  | 0, s, h => rfl
  | c + 1, s, h => by
    unfold lr_lf
    rw [h s (Nat.le_refl _) (by omega)]
    by_cases hq : q s = true
    · rw [if_pos hq, if_pos hq]
      rfl
    · rw [if_neg hq, if_neg hq]
      exact lr_lf_shift d c (s + 1) (fun j h1 h2 => h j (by omega) (by omega))
theorem lr_x_les (a : lr_S) (n : Nat) : ∀ (c k f : Nat), k + c = 8 → c < f → lr_L_Node_leastEmptySlot_2 n f (nI k) a = some (match lr_lf (fun k => decide (a.1 7 (8 * n + k) 0 = 0)) k c with
    | some j => .inl (nI j, a)
    | none => .inr (nI 8, a))
  | 0, k, f, h, hf => by
    obtain ⟨f, rfl⟩ : ∃ g, f = g + 1 := ⟨f - 1, by omega⟩
    unfold lr_L_Node_leastEmptySlot_2
    obtain rfl : k = 8 := by omega
    rw [if_pos (lr_yle (x := 8) (m := 8) rfl (by omega) (by decide))]
    rfl
  | c + 1, k, f, h, hf => by
    obtain ⟨f, rfl⟩ : ∃ g, f = g + 1 := ⟨f - 1, by omega⟩
    unfold lr_L_Node_leastEmptySlot_2
    rw [if_neg (lr_nle (x := 8) (m := 8) rfl (by omega) (by decide)), if_pos (lr_nin (by omega) (by decide)), lr_ncl (by omega), lr_r]
    unfold lr_lf
    by_cases hz : a.1 7 (8 * n + k) 0 = 0
    · rw [if_pos hz, if_pos (by simpa using hz)]
    · rw [if_neg hz, if_neg (by simpa using hz), nI_1]
      exact lr_x_les a n c (k + 1) f (by omega) (by omega)
theorem lr_x_leastEmptySlot (a : lr_S) (n : Nat) : lr_G_Node_leastEmptySlot n a = some (lr_on (lr_lf (fun k => decide (a.1 7 (8 * n + k) 0 = 0)) 0 8), a) := by
  unfold lr_G_Node_leastEmptySlot
  rw [show lr_L_Node_leastEmptySlot_2 n 600 (0 : Int32) a = _ from lr_x_les a n 8 0 600 (by omega) (by omega), lr_bs]
  cases lr_lf (fun k => decide (a.1 7 (8 * n + k) 0 = 0)) 0 8 <;> rfl
theorem lr_x_sw (a : lr_S) (n : Nat) (v : Int32) : ∀ (c k f : Nat), k + c = 8 → c < f → lr_L_Node_slotWith_2 n v f (nI k) a = some (match lr_lf (fun k => decide (¬ a.1 7 (8 * n + k) 0 = 0 ∧ a.1 7 (8 * n + k) 1 = v)) k c with
    | some j => .inl (nI j, a)
    | none => .inr (nI 8, a))
  | 0, k, f, h, hf => by
    obtain ⟨f, rfl⟩ : ∃ g, f = g + 1 := ⟨f - 1, by omega⟩
    unfold lr_L_Node_slotWith_2
    obtain rfl : k = 8 := by omega
    rw [if_pos (lr_yle (x := 8) (m := 8) rfl (by omega) (by decide))]
    rfl
  | c + 1, k, f, h, hf => by
    obtain ⟨f, rfl⟩ : ∃ g, f = g + 1 := ⟨f - 1, by omega⟩
    unfold lr_L_Node_slotWith_2
    have ih := lr_x_sw a n v c (k + 1) f (by omega) (by omega)
    rw [if_neg (lr_nle (x := 8) (m := 8) rfl (by omega) (by decide)), if_pos (lr_nin (by omega) (by decide)), lr_ncl (by omega), lr_r, lr_r, nI_1]
    unfold lr_lf
    by_cases hz : a.1 7 (8 * n + k) 0 = 0
    · rw [if_pos hz, if_neg (by simp [hz])]
      exact ih
    · rw [if_neg hz]
      by_cases hv : a.1 7 (8 * n + k) 1 = v
      · rw [if_pos hv, if_pos (by simp [hz, hv])]
      · rw [if_neg hv, if_neg (by simp [hv])]
        exact ih
theorem lr_x_slotWith (a : lr_S) (n : Nat) (v : Int32) : lr_G_Node_slotWith n v a = some (lr_on (lr_lf (fun k => decide (¬ a.1 7 (8 * n + k) 0 = 0 ∧ a.1 7 (8 * n + k) 1 = v)) 0 8), a) := by
  unfold lr_G_Node_slotWith
  rw [show lr_L_Node_slotWith_2 n v 600 (0 : Int32) a = _ from lr_x_sw a n v 8 0 600 (by omega) (by omega), lr_bs]
  cases lr_lf (fun k => decide (¬ a.1 7 (8 * n + k) 0 = 0 ∧ a.1 7 (8 * n + k) 1 = v)) 0 8 <;> rfl
theorem lr_m_es (b : lr_S) {n : Nat} (hn : n < 4) : ∀ (c k f : Nat), k + c = 8 * n + 8 → c < f → c ≤ 8 → lr_L_M_emptySlot_5 (nI n) f (nI k) b = some (match lr_lf (fun k => decide (b.1 24 0 k = 0)) k c with
    | some j => .inl (nI j, b)
    | none => .inr (nI (8 * n + 8), b))
  | 0, k, f, h, hf, hc => by
    obtain ⟨f, rfl⟩ : ∃ g, f = g + 1 := ⟨f - 1, by omega⟩
    unfold lr_L_M_emptySlot_5
    obtain rfl : k = 8 * n + 8 := by omega
    rw [lr_mul 8 (m := 8) rfl, show (8 : Int32) = nI 8 from rfl, nI_add, if_pos (lr_yle rfl (by omega) (by omega))]
    rfl
  | c + 1, k, f, h, hf, hc => by
    obtain ⟨f, rfl⟩ : ∃ g, f = g + 1 := ⟨f - 1, by omega⟩
    unfold lr_L_M_emptySlot_5
    have ih := lr_m_es b hn c (k + 1) f (by omega) (by omega) (by omega)
    rw [lr_mul 8 (m := 8) rfl, show (8 : Int32) = nI 8 from rfl, nI_add, if_neg (lr_nle rfl (by omega) (by omega)), if_pos (lr_nin (by omega) (by decide)), lr_ncl (by omega), lr_r, nI_1]
    unfold lr_lf
    by_cases hz : b.1 24 0 k = 0
    · rw [if_pos hz, if_pos (by simpa using hz)]
    · rw [if_neg hz, if_neg (by simpa using hz)]
      exact ih
theorem lr_m_emptySlot (b : lr_S) {n : Nat} (hn : n < 4) : lr_G_M_emptySlot (nI n) b = some (lr_on (lr_lf (fun k => decide (b.1 24 0 k = 0)) (8 * n) 8), b) := by
  unfold lr_G_M_emptySlot
  rw [lr_mul 8 (m := 8) rfl, lr_m_es b hn 8 (8 * n) 600 (by omega) (by omega) (by omega), lr_bs]
  cases lr_lf (fun k => decide (b.1 24 0 k = 0)) (8 * n) 8 <;> rfl
theorem lr_m_fi (b : lr_S) {n : Nat} (hn : n < 4) (w v : Int32) : ∀ (c k f : Nat), k + c = 8 * n + 8 → c < f → c ≤ 8 → lr_L_M_find_6 (nI n) w v f (nI k) b = some (match lr_lf (fun k => decide (b.1 24 0 k = w ∧ b.1 25 0 k = v)) k c with
    | some j => .inl (nI j, b)
    | none => .inr (nI (8 * n + 8), b))
  | 0, k, f, h, hf, hc => by
    obtain ⟨f, rfl⟩ : ∃ g, f = g + 1 := ⟨f - 1, by omega⟩
    unfold lr_L_M_find_6
    obtain rfl : k = 8 * n + 8 := by omega
    rw [lr_mul 8 (m := 8) rfl, show (8 : Int32) = nI 8 from rfl, nI_add, if_pos (lr_yle rfl (by omega) (by omega))]
    rfl
  | c + 1, k, f, h, hf, hc => by
    obtain ⟨f, rfl⟩ : ∃ g, f = g + 1 := ⟨f - 1, by omega⟩
    unfold lr_L_M_find_6
    have ih := lr_m_fi b hn w v c (k + 1) f (by omega) (by omega) (by omega)
    rw [lr_mul 8 (m := 8) rfl, show (8 : Int32) = nI 8 from rfl, nI_add, if_neg (lr_nle rfl (by omega) (by omega)), if_pos (lr_nin (by omega) (by decide)), lr_ncl (by omega), lr_r, lr_r, nI_1]
    unfold lr_lf
    by_cases hz : b.1 24 0 k = w
    · rw [if_pos hz]
      by_cases hv : b.1 25 0 k = v
      · rw [if_pos hv, if_pos (by simp [hz, hv])]
      · rw [if_neg hv, if_neg (by simp [hv])]
        exact ih
    · rw [if_neg hz, if_neg (by simp [hz])]
      exact ih
theorem lr_m_find (b : lr_S) {n : Nat} (hn : n < 4) (w v : Int32) : lr_G_M_find (nI n) w v b = some (lr_on (lr_lf (fun k => decide (b.1 24 0 k = w ∧ b.1 25 0 k = v)) (8 * n) 8), b) := by
  unfold lr_G_M_find
  rw [lr_mul 8 (m := 8) rfl, lr_m_fi b hn w v 8 (8 * n) 600 (by omega) (by omega) (by omega), lr_bs]
  cases lr_lf (fun k => decide (b.1 24 0 k = w ∧ b.1 25 0 k = v)) (8 * n) 8 <;> rfl
/-! arguments -/
theorem lr_x_isNode_o {x : Int32} {t : lr_S} (h : lr_out x 4) : lr_G_X_isNode x t = some (0, t) := by
  unfold lr_G_X_isNode
  rcases h with h | h
  · rw [if_pos h]
  · by_cases h0 : x < 0
    · rw [if_pos h0]
    · rw [if_neg h0, if_pos (show (4 : Int32) ≤ x from h)]
theorem lr_x_isNode_i {n : Nat} {t : lr_S} (h : n < 4) : lr_G_X_isNode (nI n) t = some (1, t) := by
  unfold lr_G_X_isNode
  rw [if_neg (lr_nneg (by omega)), if_neg (lr_nle (x := 4) (m := 4) rfl h (by decide))]
theorem lr_x_isRoot_o {x : Int32} {t : lr_S} (h : lr_out x 3) : lr_G_X_isRoot x t = some (0, t) := by
  unfold lr_G_X_isRoot
  rcases h with h | h
  · rw [if_pos h]
  · by_cases h0 : x < 0
    · rw [if_pos h0]
    · rw [if_neg h0, if_pos (show (3 : Int32) ≤ x from h)]
theorem lr_x_isRoot_i {n : Nat} {t : lr_S} (h : n < 3) : lr_G_X_isRoot (nI n) t = some (1, t) := by
  unfold lr_G_X_isRoot
  rw [if_neg (lr_nneg (by omega)), if_neg (lr_nle (x := 3) (m := 3) rfl h (by decide))]
theorem lr_x_isSlot_o {x : Int32} {t : lr_S} (h : lr_out x 8) : lr_G_X_isSlot x t = some (0, t) := by
  unfold lr_G_X_isSlot
  rcases h with h | h
  · rw [if_pos h]
  · by_cases h0 : x < 0
    · rw [if_pos h0]
    · rw [if_neg h0, if_pos (show (8 : Int32) ≤ x from h)]
theorem lr_x_isSlot_i {n : Nat} {t : lr_S} (h : n < 8) : lr_G_X_isSlot (nI n) t = some (1, t) := by
  unfold lr_G_X_isSlot
  rw [if_neg (lr_nneg (by omega)), if_neg (lr_nle (x := 8) (m := 8) rfl h (by decide))]
theorem lr_x_isField_o {x : Int32} {t : lr_S} (h : lr_out x 2) : lr_G_X_isField x t = some (0, t) := by
  unfold lr_G_X_isField
  rcases h with h | h
  · rw [if_pos h]
  · by_cases h0 : x < 0
    · rw [if_pos h0]
    · rw [if_neg h0, if_pos (show (2 : Int32) ≤ x from h)]
theorem lr_x_isField_i {n : Nat} {t : lr_S} (h : n < 2) : lr_G_X_isField (nI n) t = some (1, t) := by
  unfold lr_G_X_isField
  rw [if_neg (lr_nneg (by omega)), if_neg (lr_nle (x := 2) (m := 2) rfl h (by decide))]
theorem lr_m_within_o {x y : Int32} {N : Nat} {t : lr_S} (hy : y = nI N) (h : lr_out x N) : lr_G_M_within x y t = some (0, t) := by
  unfold lr_G_M_within
  rcases h with h | h
  · rw [if_pos h]
  · by_cases h0 : x < 0
    · rw [if_pos h0]
    · rw [if_neg h0, hy, if_pos h]
theorem lr_m_within_i {y : Int32} {n N : Nat} {t : lr_S} (hy : y = nI N) (h : n < N) (hN : N < 2 ^ 31) : lr_G_M_within (nI n) y t = some (1, t) := by
  unfold lr_G_M_within
  rw [if_neg (lr_nneg (by omega)), if_neg (lr_nle hy h hN)]
theorem lr_x_hasPlace_o {x : Int32} {N : Nat} {t : lr_S} (hy : t.1 1 0 1 = nI N) (h : lr_out x N) : lr_G_Network_hasPlace x t = some (0, t) := by
  unfold lr_G_Network_hasPlace
  rcases h with h | h
  · rw [if_pos h]
  · by_cases h0 : x < 0
    · rw [if_pos h0]
    · rw [if_neg h0, lr_r, hy, if_pos h]
theorem lr_x_hasPlace_i {n N : Nat} {t : lr_S} (hy : t.1 1 0 1 = nI N) (h : n < N) (hN : N < 2 ^ 31) : lr_G_Network_hasPlace (nI n) t = some (1, t) := by
  unfold lr_G_Network_hasPlace
  rw [if_neg (lr_nneg (by omega)), lr_r, if_neg (lr_nle hy h hN)]
theorem lr_x_acts_o {x : Int32} {t : lr_S} (h : lr_out x 4) : lr_G_X_acts x t = some (0, t) := by
  unfold lr_G_X_acts
  rw [lr_x_isNode_o h, lr_bs, if_pos rfl]
theorem lr_x_acts_i {n : Nat} {t : lr_S} (h : n < 4) : lr_G_X_acts (nI n) t = some (if t.1 5 n 9 = 0 then 1 else 0, t) := by
  unfold lr_G_X_acts
  rw [lr_x_isNode_i h, lr_bs, if_neg lr_1ne0, if_pos (lr_nin h (by decide)), lr_ncl (by omega), lr_r]
  by_cases hz : t.1 5 n 9 = 0
  · rw [if_pos hz, if_pos hz]
  · rw [if_neg hz, if_neg hz]
theorem lr_m_lives_o {x : Int32} {t : lr_S} (h : lr_out x 4) : lr_G_M_lives x t = some (0, t) := by
  unfold lr_G_M_lives
  rw [lr_m_within_o (y := 4) (N := 4) rfl h, lr_bs, if_pos rfl]
theorem lr_m_lives_i {n : Nat} {t : lr_S} (h : n < 4) : lr_G_M_lives (nI n) t = some (if t.1 21 0 n = 0 then 1 else 0, t) := by
  unfold lr_G_M_lives
  rw [lr_m_within_i (y := 4) (N := 4) rfl h (by decide), lr_bs, if_neg lr_1ne0, if_pos (lr_nin h (by decide)), lr_ncl (by omega), lr_r]
  by_cases hz : t.1 21 0 n = 0
  · rw [if_pos hz, if_pos hz]
  · rw [if_neg hz, if_neg hz]
/-! counting -/
def lr_ct (p : Nat → Bool) : Nat → Nat
  | 0 => 0
  | n + 1 => lr_ct p n + (if p n = true then 1 else 0)
theorem lr_ct_le (p : Nat → Bool) : ∀ n, lr_ct p n ≤ n
  | 0 => Nat.le_refl _
  | n + 1 => by
    have ih := lr_ct_le p n
    unfold lr_ct
    split <;> omega
/-- the places below n that p picks -/
def lr_pl (p : Nat → Bool) : Nat → List Nat
  | 0 => []
  | n + 1 => if p n = true then n :: lr_pl p n else lr_pl p n
theorem lr_pl_len (p : Nat → Bool) : ∀ n, (lr_pl p n).length = lr_ct p n
  | 0 => rfl
  | n + 1 => by
    have ih := lr_pl_len p n
    unfold lr_pl lr_ct
    by_cases h : p n = true
    · rw [if_pos h, if_pos h, List.length_cons, ih]
    · rw [if_neg h, if_neg h, ih]
      rfl
theorem lr_pl_mem {p : Nat → Bool} : ∀ {n j : Nat}, j ∈ lr_pl p n ↔ j < n ∧ p j = true
  | 0, j => by simp [lr_pl]
  | n + 1, j => by
    have ih := lr_pl_mem (p := p) (n := n) (j := j)
    unfold lr_pl
    by_cases h : p n = true
    · rw [if_pos h, List.mem_cons, ih]
      constructor
      · rintro (rfl | ⟨h1, h2⟩)
        · exact ⟨by omega, h⟩
        · exact ⟨by omega, h2⟩
      · rintro ⟨h1, h2⟩
        by_cases e : j = n
        · exact Or.inl e
        · exact Or.inr ⟨by omega, h2⟩
    · rw [if_neg h, ih]
      constructor
      · rintro ⟨h1, h2⟩
        exact ⟨by omega, h2⟩
      · rintro ⟨h1, h2⟩
        by_cases e : j = n
        · subst e
          exact absurd h2 h
        · exact ⟨by omega, h2⟩
theorem lr_pl_nd (p : Nat → Bool) : ∀ n, (lr_pl p n).Nodup
  | 0 => List.nodup_nil
  | n + 1 => by
    have ih := lr_pl_nd p n
    unfold lr_pl
    by_cases h : p n = true
    · rw [if_pos h, List.nodup_cons]
      exact ⟨fun hm => by have := (lr_pl_mem.mp hm).1; omega, ih⟩
    · rw [if_neg h]
      exact ih
theorem lr_sub_len : ∀ (l1 l2 : List Nat), l1.Nodup → (∀ x ∈ l1, x ∈ l2) → l1.length ≤ l2.length
  | [], l2, _, _ => Nat.zero_le _
  | x :: l1, l2, hn, h => by
    rw [List.nodup_cons] at hn
    have hx := h x List.mem_cons_self
    have ih := lr_sub_len l1 (l2.erase x) hn.2 (fun y hy => by
      have hne : y ≠ x := fun e => hn.1 (e ▸ hy)
      exact (List.mem_erase_of_ne hne).mpr (h y (List.mem_cons_of_mem _ hy)))
    rw [List.length_erase_of_mem hx] at ih
    have hp : 0 < l2.length := List.length_pos_of_mem hx
    simp only [List.length_cons]
    omega
/-- as many here as there, when each one here has its own there -/
theorem lr_ct_inj {p q : Nat → Bool} {n m : Nat} (f : Nat → Nat) (h1 : ∀ i, i < n → p i = true → f i < m ∧ q (f i) = true) (h2 : ∀ i j, i < n → j < n → p i = true → p j = true → f i = f j → i = j) : lr_ct p n ≤ lr_ct q m := by
  rw [← lr_pl_len, ← lr_pl_len, ← List.length_map (f := f)]
  refine lr_sub_len _ _ ?_ ?_
  · have hnd := lr_pl_nd p n
    have hmem : ∀ i ∈ lr_pl p n, i < n ∧ p i = true := fun i hi => lr_pl_mem.mp hi
    revert hnd hmem
    generalize lr_pl p n = l
    intro hnd hmem
    induction l with
    | nil => exact List.nodup_nil
    | cons x l ih =>
      rw [List.nodup_cons] at hnd
      rw [List.map_cons, List.nodup_cons]
      refine ⟨fun hm => ?_, ih hnd.2 (fun i hi => hmem i (List.mem_cons_of_mem _ hi))⟩
      obtain ⟨y, hy, e⟩ := List.mem_map.mp hm
      have a1 := hmem x List.mem_cons_self
      have a2 := hmem y (List.mem_cons_of_mem _ hy)
      have := h2 y x a2.1 a1.1 a2.2 a1.2 e
      subst this
      exact hnd.1 hy
  · intro x hx
    obtain ⟨i, hi, rfl⟩ := List.mem_map.mp hx
    have a1 := lr_pl_mem.mp hi
    exact lr_pl_mem.mpr (h1 i a1.1 a1.2)
theorem lr_x_isLive (a : lr_S) (n i : Nat) : lr_G_Node_isLive n i a = some (if a.1 13 i 2 ≤ a.1 1 0 0 then 0 else 1, a) := by
  unfold lr_G_Node_isLive
  rw [lr_r, lr_r]
  by_cases h : a.1 13 i 2 ≤ a.1 1 0 0
  · rw [if_pos h, if_pos h]
  · rw [if_neg h, if_neg h]
/-- which pins of a node did not end -/
def lr_xl (a : lr_S) (n : Nat) (i : Nat) : Bool := decide (¬ a.1 13 (6 * n + i) 2 ≤ a.1 1 0 0)
def lr_mp (b : lr_S) (j : Nat) : Prop := b.1 43 0 j = 0 ∧ ¬ b.1 42 0 j + 24 ≤ b.1 20 0 0
def lr_ml2 (b : lr_S) (n : Nat) (j : Nat) : Bool := decide (b.1 41 0 j / 8 = nI n ∧ b.1 43 0 j = 0 ∧ ¬ b.1 42 0 j + 24 ≤ b.1 20 0 0)
theorem lr_x_lp (a : lr_S) (n : Nat) : ∀ (c k f : Nat), k + c = 6 → c < f → lr_L_Node_livePins_4 n f (nI (lr_ct (lr_xl a n) k)) (nI k) a = some (nI (lr_ct (lr_xl a n) 6), nI 6, a)
  | 0, k, f, h, hf => by
    obtain ⟨f, rfl⟩ : ∃ g, f = g + 1 := ⟨f - 1, by omega⟩
    unfold lr_L_Node_livePins_4
    obtain rfl : k = 6 := by omega
    rw [if_pos (lr_yle (x := 6) (m := 6) rfl (by omega) (by decide))]
  | c + 1, k, f, h, hf => by
    obtain ⟨f, rfl⟩ : ∃ g, f = g + 1 := ⟨f - 1, by omega⟩
    unfold lr_L_Node_livePins_4
    have ih := lr_x_lp a n c (k + 1) f (by omega) (by omega)
    rw [if_neg (lr_nle (x := 6) (m := 6) rfl (by omega) (by decide)), if_pos (lr_nin (by omega) (by decide)), lr_ncl (by omega), lr_x_isLive, lr_bs]
    by_cases hz : a.1 13 (6 * n + k) 2 ≤ a.1 1 0 0
    · rw [if_pos hz, if_pos rfl, nI_1]
      have e : lr_ct (lr_xl a n) (k + 1) = lr_ct (lr_xl a n) k := by
        show lr_ct (lr_xl a n) k + (if lr_xl a n k = true then 1 else 0) = _
        rw [if_neg (by simp [lr_xl, hz])]
        rfl
      rw [e] at ih
      exact ih
    · rw [if_neg hz, if_neg lr_1ne0, nI_1, nI_1]
      have e : lr_ct (lr_xl a n) (k + 1) = lr_ct (lr_xl a n) k + 1 := by
        show lr_ct (lr_xl a n) k + (if lr_xl a n k = true then 1 else 0) = _
        rw [if_pos (by simp only [lr_xl, hz]; decide)]
      rw [e] at ih
      exact ih
theorem lr_x_livePins (a : lr_S) (n : Nat) : lr_G_Node_livePins n a = some (nI (lr_ct (lr_xl a n) 6), a) := by
  unfold lr_G_Node_livePins
  rw [show lr_L_Node_livePins_4 n 600 (0 : Int32) (0 : Int32) a = _ from lr_x_lp a n 6 0 600 (by omega) (by omega), lr_bs]
theorem lr_m_pinned (b : lr_S) {j : Nat} (hj : j < 512) : lr_G_M_pinned (nI j) b = some (if b.1 43 0 j = 0 ∧ ¬ b.1 42 0 j + 24 ≤ b.1 20 0 0 then 1 else 0, b) := by
  unfold lr_G_M_pinned
  rw [if_pos (lr_nin hj (by decide)), lr_ncl (by omega), lr_r, lr_r, lr_r]
  by_cases h1 : b.1 43 0 j = 0
  · rw [if_pos h1]
    by_cases h2 : b.1 42 0 j + 24 ≤ b.1 20 0 0
    · rw [if_pos h2, if_neg (fun h => h.2 h2)]
    · rw [if_neg h2, if_pos ⟨h1, h2⟩]
  · rw [if_neg h1, if_neg (fun h => h1 h.1)]
theorem lr_m_po (b : lr_S) (n : Nat) {np : Nat} (hnp : b.1 20 0 24 = nI np) (hle : np ≤ 512) : ∀ (c k f : Nat), k + c = np → c < f → lr_L_M_pinsOf_4 (nI n) f (nI (lr_ct (lr_ml2 b n) k)) (nI k) b = some (nI (lr_ct (lr_ml2 b n) np), nI np, b)
  | 0, k, f, h, hf => by
    obtain ⟨f, rfl⟩ : ∃ g, f = g + 1 := ⟨f - 1, by omega⟩
    unfold lr_L_M_pinsOf_4
    obtain rfl : k = np := by omega
    rw [lr_r, if_pos (lr_yle hnp (by omega) (by omega))]
  | c + 1, k, f, h, hf => by
    obtain ⟨f, rfl⟩ : ∃ g, f = g + 1 := ⟨f - 1, by omega⟩
    unfold lr_L_M_pinsOf_4
    have ih := lr_m_po b n hnp hle c (k + 1) f (by omega) (by omega)
    rw [lr_r, lr_r, if_neg (lr_nle hnp (by omega) (by omega)), if_pos (lr_nin (by omega) (by decide)), lr_ncl (by omega), lr_m_pinned b (by omega), lr_bs]
    have es : lr_ct (lr_ml2 b n) (k + 1) = lr_ct (lr_ml2 b n) k + (if lr_ml2 b n k = true then 1 else 0) := rfl
    by_cases h1 : b.1 41 0 k / 8 = nI n
    · rw [if_pos h1]
      by_cases h2 : b.1 43 0 k = 0 ∧ ¬ b.1 42 0 k + 24 ≤ b.1 20 0 0
      · rw [if_pos h2, if_neg lr_1ne0, nI_1, nI_1]
        rw [es, if_pos (by simp only [lr_ml2, decide_eq_true_eq]; exact ⟨h1, h2⟩)] at ih
        exact ih
      · rw [if_neg h2, if_pos rfl, nI_1]
        rw [es, if_neg (by simp only [lr_ml2, decide_eq_true_eq]; exact fun h => h2 h.2)] at ih
        exact ih
    · rw [if_neg h1, nI_1]
      rw [es, if_neg (by simp only [lr_ml2, decide_eq_true_eq]; exact fun h => h1 h.1)] at ih
      exact ih
theorem lr_m_pinsOf (b : lr_S) (n : Nat) {np : Nat} (hnp : b.1 20 0 24 = nI np) (hle : np ≤ 512) : lr_G_M_pinsOf (nI n) b = some (nI (lr_ct (lr_ml2 b n) np), b) := by
  unfold lr_G_M_pinsOf
  rw [show lr_L_M_pinsOf_4 (nI n) 600 (0 : Int32) (0 : Int32) b = _ from lr_m_po b n hnp hle np 0 600 (by omega) (by omega), lr_bs]
