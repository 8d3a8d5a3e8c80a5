theorem lr_m_mk1 {n : Nat} (hn : n < 4) (b0 : lr_S) : ∀ (r k f : Nat) (b : lr_S), k + r = 8 → r < f → lr_X55 b0 b → lr_MB k b (fun k => (b0.1 24 0 (8 * n + k) = 1 ∧ ∃ d, d < 4 ∧ b0.1 20 0 0 < b0.1 29 0 (4 * (8 * n + k) + d)) ∨ (b0.1 45 0 n = 1 ∧ b0.1 47 0 n = nI (8 * n + k))) → ∃ b2, lr_L_M_mark_2 (nI n) f (nI k) b = some (nI 8, b2) ∧ lr_X55 b0 b2 ∧ lr_MB 8 b2 (fun k => (b0.1 24 0 (8 * n + k) = 1 ∧ ∃ d, d < 4 ∧ b0.1 20 0 0 < b0.1 29 0 (4 * (8 * n + k) + d)) ∨ (b0.1 45 0 n = 1 ∧ b0.1 47 0 n = nI (8 * n + k)))
  | 0, k, f, b, e, hf, X, h => by
    obtain ⟨f, rfl⟩ : ∃ g, f = g + 1 := ⟨f - 1, by omega⟩
    obtain rfl : k = 8 := by omega
    unfold lr_L_M_mark_2
    rw [if_pos (lr_yle (x := 8) (m := 8) rfl (by omega) (by decide))]
    exact ⟨b, rfl, X, h⟩
  | r + 1, k, f, b, e, hf, X, h => by
    obtain ⟨f, rfl⟩ : ∃ g, f = g + 1 := ⟨f - 1, by omega⟩
    have hq : 8 * n + k < 32 := by omega
    unfold lr_L_M_mark_2
    obtain ⟨y, g1, g2⟩ := lr_m_listed b hq
    have x24 := X.1 24 0 (8 * n + k) (by decide)
    have x20 := X.1 20 0 0 (by decide)
    have x45 := X.1 45 0 n (by decide)
    have x47 := X.1 47 0 n (by decide)
    have x29 : ∀ d, b.1 29 0 (4 * (8 * n + k) + d) = b0.1 29 0 (4 * (8 * n + k) + d) := fun d => X.1 29 0 _ (by decide)
    have hk8 : lr_in (nI k) 8 = true := lr_nin (by omega) (by decide)
    have hn4 : lr_in (nI n) 4 = true := lr_nin hn (by decide)
    rw [if_neg (lr_nle (x := 8) (m := 8) rfl (by omega) (by decide)), lr_mul 8 (m := 8) rfl, nI_add, if_pos (lr_nin (m := 8 * n + k) hq (by decide)), lr_ncl (m := 8 * n + k) (by omega), lr_ncl (m := k) (by omega), lr_ncl (m := n) (by omega), lr_r b 24, x24, g1, lr_bs (y, b)]
    simp only [hk8, hn4, if_true]
    rw [lr_r b 45, lr_r b 47, x45, x47, nI_1, lr_nb0, lr_nb1]
    simp only [x20, x29] at g2
    have go1 : ((b0.1 24 0 (8 * n + k) = 1 ∧ ∃ d, d < 4 ∧ b0.1 20 0 0 < b0.1 29 0 (4 * (8 * n + k) + d)) ∨ (b0.1 45 0 n = 1 ∧ b0.1 47 0 n = nI (8 * n + k))) → ∃ b2, lr_L_M_mark_2 (nI n) f (nI (k + 1)) (lr_wr b 55 0 k 1) = some (nI 8, b2) ∧ lr_X55 b0 b2 ∧ lr_MB 8 b2 (fun k => (b0.1 24 0 (8 * n + k) = 1 ∧ ∃ d, d < 4 ∧ b0.1 20 0 0 < b0.1 29 0 (4 * (8 * n + k) + d)) ∨ (b0.1 45 0 n = 1 ∧ b0.1 47 0 n = nI (8 * n + k))) := by
      intro w
      refine lr_m_mk1 hn b0 r (k + 1) f _ (by omega) (by omega) (X.tr (lr_X55.w b k 1)) (fun j hj => ?_)
      by_cases ej : j = k
      · subst ej
        exact Or.inl ⟨by simp [lr_w], w⟩
      · rcases h j (by omega) with ⟨w1, w2⟩ | ⟨w1, w2⟩
        · exact Or.inl ⟨by simpa [lr_w, ej] using w1, w2⟩
        · exact Or.inr ⟨by simpa [lr_w, ej] using w1, w2⟩
    have go0 : ¬ ((b0.1 24 0 (8 * n + k) = 1 ∧ ∃ d, d < 4 ∧ b0.1 20 0 0 < b0.1 29 0 (4 * (8 * n + k) + d)) ∨ (b0.1 45 0 n = 1 ∧ b0.1 47 0 n = nI (8 * n + k))) → ∃ b2, lr_L_M_mark_2 (nI n) f (nI (k + 1)) (lr_wr b 55 0 k 0) = some (nI 8, b2) ∧ lr_X55 b0 b2 ∧ lr_MB 8 b2 (fun k => (b0.1 24 0 (8 * n + k) = 1 ∧ ∃ d, d < 4 ∧ b0.1 20 0 0 < b0.1 29 0 (4 * (8 * n + k) + d)) ∨ (b0.1 45 0 n = 1 ∧ b0.1 47 0 n = nI (8 * n + k))) := by
      intro w
      refine lr_m_mk1 hn b0 r (k + 1) f _ (by omega) (by omega) (X.tr (lr_X55.w b k 0)) (fun j hj => ?_)
      by_cases ej : j = k
      · subst ej
        exact Or.inr ⟨by simp [lr_w], w⟩
      · rcases h j (by omega) with ⟨w1, w2⟩ | ⟨w1, w2⟩
        · exact Or.inl ⟨by simpa [lr_w, ej] using w1, w2⟩
        · exact Or.inr ⟨by simpa [lr_w, ej] using w1, w2⟩
    by_cases q1 : b0.1 24 0 (8 * n + k) = 1
    · rw [if_pos q1]
      rcases g2 with ⟨rfl, w⟩ | ⟨rfl, w⟩
      · rw [if_neg lr_1ne0]
        exact go1 (Or.inl ⟨q1, w⟩)
      · rw [if_pos rfl]
        by_cases q2 : b0.1 45 0 n = 1
        · rw [if_pos q2]
          by_cases q3 : b0.1 47 0 n = nI (8 * n + k)
          · rw [if_pos q3]
            exact go1 (Or.inr ⟨q2, q3⟩)
          · rw [if_neg q3]
            exact go0 (fun z => z.elim (fun z => w z.2) (fun z => q3 z.2))
        · rw [if_neg q2]
          exact go0 (fun z => z.elim (fun z => w z.2) (fun z => q2 z.1))
    · rw [if_neg q1]
      by_cases q2 : b0.1 45 0 n = 1
      · rw [if_pos q2]
        by_cases q3 : b0.1 47 0 n = nI (8 * n + k)
        · rw [if_pos q3]
          exact go1 (Or.inr ⟨q2, q3⟩)
        · rw [if_neg q3]
          exact go0 (fun z => z.elim (fun z => q1 z.1) (fun z => q3 z.2))
      · rw [if_neg q2]
        exact go0 (fun z => z.elim (fun z => q1 z.1) (fun z => q2 z.1))
theorem lr_m_mk2 {n : Nat} (hn : n < 4) (b0 : lr_S) (hv : ∀ r, r < 3 → b0.1 22 0 (3 * n + r) = -1 ∨ ∃ k, k < 8 ∧ b0.1 22 0 (3 * n + r) = nI k) : ∀ (c r f : Nat) (b : lr_S) (S : Nat → Prop), r + c = 3 → c < f → lr_X55 b0 b → lr_MB 8 b S → ∃ b2, lr_L_M_mark_72 (nI n) f (nI r) b = some (nI 3, b2) ∧ lr_X55 b0 b2 ∧ lr_MB 8 b2 (fun k => S k ∨ ∃ s, r ≤ s ∧ s < 3 ∧ b0.1 22 0 (3 * n + s) = nI k)
  | 0, r, f, b, S, e, hf, X, h => by
    obtain ⟨f, rfl⟩ : ∃ g, f = g + 1 := ⟨f - 1, by omega⟩
    obtain rfl : r = 3 := by omega
    unfold lr_L_M_mark_72
    rw [if_pos (lr_yle (x := 3) (m := 3) rfl (by omega) (by decide))]
    exact ⟨b, rfl, X, h.c (fun k hk => ⟨fun z => Or.inl z, fun z => z.elim id (fun ⟨s, s1, s2, _⟩ => by omega)⟩)⟩
  | c + 1, r, f, b, S, e, hf, X, h => by
    obtain ⟨f, rfl⟩ : ∃ g, f = g + 1 := ⟨f - 1, by omega⟩
    unfold lr_L_M_mark_72
    have x11 := X.1 22 0 (3 * n + r) (by decide)
    obtain ⟨b1, g1, g2, g3⟩ := lr_m_keep h (v := b.1 22 0 (3 * n + r)) (by rw [x11]; exact hv r (by omega))
    rw [if_neg (lr_nle (x := 3) (m := 3) rfl (by omega) (by decide)), lr_mul 3 (m := 3) rfl, nI_add, if_pos (lr_nin (m := 3 * n + r) (by omega) (by decide)), lr_ncl (by omega), lr_r b 22, g1, lr_bs, nI_1]
    obtain ⟨b2, u1, u2, u3⟩ := lr_m_mk2 hn b0 hv c (r + 1) f b1 _ (by omega) (by omega) (X.tr g2) g3
    refine ⟨b2, u1, u2, u3.c (fun k hk => ?_)⟩
    rw [x11]
    constructor
    · rintro ((z | z) | ⟨s, s1, s2, s3⟩)
      · exact Or.inl z
      · exact Or.inr ⟨r, Nat.le_refl _, by omega, z⟩
      · exact Or.inr ⟨s, by omega, s2, s3⟩
    · rintro (z | ⟨s, s1, s2, s3⟩)
      · exact Or.inl (Or.inl z)
      · by_cases es : s = r
        · subst es
          exact Or.inl (Or.inr s3)
        · exact Or.inr ⟨s, by omega, s2, s3⟩
theorem lr_m_mk3 {n np : Nat} (hn : n < 4) (b0 : lr_S) (hnp : b0.1 20 0 24 = nI np) (hle : np ≤ 512) (hv : ∀ j, j < np → ∃ m k, m < 4 ∧ k < 8 ∧ b0.1 41 0 j = nI (8 * m + k)) : ∀ (c r f : Nat) (b : lr_S) (S : Nat → Prop), r + c = np → c < f → lr_X55 b0 b → lr_MB 8 b S → ∃ b2, lr_L_M_mark_99 (nI n) f (nI r) b = some (nI np, b2) ∧ lr_X55 b0 b2 ∧ lr_MB 8 b2 (fun k => S k ∨ ∃ s, r ≤ s ∧ s < np ∧ b0.1 41 0 s = nI (8 * n + k) ∧ b0.1 43 0 s = 0 ∧ ¬ b0.1 42 0 s + 24 ≤ b0.1 20 0 0)
  | 0, r, f, b, S, e, hf, X, h => by
    obtain ⟨f, rfl⟩ : ∃ g, f = g + 1 := ⟨f - 1, by omega⟩
    obtain rfl : r = np := by omega
    unfold lr_L_M_mark_99
    rw [lr_r b 20, X.1 20 0 24 (by decide), if_pos (lr_yle hnp (by omega) (by omega))]
    exact ⟨b, rfl, X, h.c (fun k hk => ⟨fun z => Or.inl z, fun z => z.elim id (fun ⟨s, s1, s2, _⟩ => by omega)⟩)⟩
  | c + 1, r, f, b, S, e, hf, X, h => by
    obtain ⟨f, rfl⟩ : ∃ g, f = g + 1 := ⟨f - 1, by omega⟩
    unfold lr_L_M_mark_99
    obtain ⟨m, k0, hm, hk0, e41⟩ := hv r (by omega)
    have x41 := X.1 41 0 r (by decide)
    have x42 := X.1 42 0 r (by decide)
    have x43 := X.1 43 0 r (by decide)
    have x20 := X.1 20 0 0 (by decide)
    rw [lr_r b 20, X.1 20 0 24 (by decide), if_neg (lr_nle hnp (by omega) (by omega)), if_pos (lr_nin (m := r) (by omega) (by decide)), lr_ncl (by omega), lr_r b 41, x41, e41, lr_div8 (by omega), show (8 * m + k0) / 8 = m by omega, nI_1]
    have skip : (∀ k, k < 8 → ¬ (b0.1 41 0 r = nI (8 * n + k) ∧ b0.1 43 0 r = 0 ∧ ¬ b0.1 42 0 r + 24 ≤ b0.1 20 0 0)) → ∃ b2, lr_L_M_mark_99 (nI n) f (nI (r + 1)) b = some (nI np, b2) ∧ lr_X55 b0 b2 ∧ lr_MB 8 b2 (fun k => S k ∨ ∃ s, r ≤ s ∧ s < np ∧ b0.1 41 0 s = nI (8 * n + k) ∧ b0.1 43 0 s = 0 ∧ ¬ b0.1 42 0 s + 24 ≤ b0.1 20 0 0) := by
      intro hno
      obtain ⟨b2, u1, u2, u3⟩ := lr_m_mk3 hn b0 hnp hle hv c (r + 1) f b S (by omega) (by omega) X h
      refine ⟨b2, u1, u2, u3.c (fun k hk => ?_)⟩
      constructor
      · rintro (z | ⟨s, s1, s2, s3⟩)
        · exact Or.inl z
        · exact Or.inr ⟨s, by omega, s2, s3⟩
      · rintro (z | ⟨s, s1, s2, s3⟩)
        · exact Or.inl z
        · by_cases es : s = r
          · subst es
            exact absurd s3 (hno k hk)
          · exact Or.inr ⟨s, by omega, s2, s3⟩
    by_cases em : m = n
    · subst em
      rw [if_pos rfl, lr_m_pinned b (by omega), x43, x42, x20, lr_bs (_, b)]
      by_cases z : b0.1 43 0 r = 0 ∧ ¬ b0.1 42 0 r + 24 ≤ b0.1 20 0 0
      · rw [if_pos z, if_neg lr_1ne0, lr_r b 41, show ((1 : Int32), b).2.1 41 0 r = nI (8 * m + k0) from x41.trans e41, lr_mod8 (by omega), show (8 * m + k0) % 8 = k0 by omega]
        obtain ⟨b1, g1, g2, g3⟩ := lr_m_keep h (v := nI k0) (Or.inr ⟨k0, hk0, rfl⟩)
        rw [show lr_G_M_keep (nI k0) ((1 : Int32), b).2 = some b1 from g1, lr_bs b1]
        obtain ⟨b2, u1, u2, u3⟩ := lr_m_mk3 hn b0 hnp hle hv c (r + 1) f b1 _ (by omega) (by omega) (X.tr g2) g3
        refine ⟨b2, u1, u2, u3.c (fun k hk => ?_)⟩
        constructor
        · rintro ((w | w) | ⟨s, s1, s2, s3⟩)
          · exact Or.inl w
          · refine Or.inr ⟨r, Nat.le_refl _, by omega, ?_, z.1, z.2⟩
            rw [e41]
            have := (nI_eq (by omega) (by omega)).mp w
            rw [this]
          · exact Or.inr ⟨s, by omega, s2, s3⟩
        · rintro (w | ⟨s, s1, s2, s3⟩)
          · exact Or.inl (Or.inl w)
          · by_cases es : s = r
            · subst es
              have := s3.1
              rw [e41, nI_eq (by omega) (by omega)] at this
              exact Or.inl (Or.inr (congrArg nI (by omega)))
            · exact Or.inr ⟨s, by omega, s2, s3⟩
      · rw [if_neg z, if_pos rfl]
        exact skip (fun k hk w => z w.2)
    · rw [if_neg (lr_neq (by omega) (by omega) em)]
      exact skip (fun k hk w => by
        have := w.1
        rw [e41, nI_eq (by omega) (by omega)] at this
        omega)
/-! going round -/
def lr_st (a0 : lr_S) (n : Nat) (S : Nat → Prop) (k : Nat) : Nat → Prop := fun j => S j ∨ (S k ∧ a0.1 7 (8 * n + k) 0 = 1 ∧ (a0.1 8 (8 * n + k) 0 = nI j ∨ a0.1 8 (8 * n + k) 1 = nI j))
def lr_rn (a0 : lr_S) (n : Nat) : (Nat → Prop) → Nat → Nat → (Nat → Prop)
  | S, _, 0 => S
  | S, k, c + 1 => lr_rn a0 n (lr_st a0 n S k) (k + 1) c
def lr_rr (a0 : lr_S) (n : Nat) : (Nat → Prop) → Nat → (Nat → Prop)
  | S, 0 => S
  | S, r + 1 => lr_rr a0 n (lr_rn a0 n S 0 8) r
def lr_cd (a0 : lr_S) (n : Nat) (S : Nat → Prop) : Prop := ∀ k, k < 8 → S k → a0.1 7 (8 * n + k) 0 = 1 → ∀ j, j < 8 → (a0.1 8 (8 * n + k) 0 = nI j ∨ a0.1 8 (8 * n + k) 1 = nI j) → S j
theorem lr_rn_mono (a0 : lr_S) (n : Nat) : ∀ (c k : Nat) (S : Nat → Prop) (j : Nat), S j → lr_rn a0 n S k c j
  | 0, _, _, _, h => h
  | c + 1, k, S, j, h => lr_rn_mono a0 n c (k + 1) _ j (Or.inl h)
theorem lr_rn_do (a0 : lr_S) (n : Nat) : ∀ (c k : Nat) (S : Nat → Prop) (k2 j : Nat), k ≤ k2 → k2 < k + c → S k2 → a0.1 7 (8 * n + k2) 0 = 1 → (a0.1 8 (8 * n + k2) 0 = nI j ∨ a0.1 8 (8 * n + k2) 1 = nI j) → lr_rn a0 n S k c j
  | 0, _, _, _, _, h1, h2, _, _, _ => by omega
  | c + 1, k, S, k2, j, h1, h2, h3, h4, h5 => by
    unfold lr_rn
    by_cases e : k2 = k
    · subst e
      exact lr_rn_mono a0 n c (k2 + 1) _ j (Or.inr ⟨h3, h4, h5⟩)
    · exact lr_rn_do a0 n c (k + 1) _ k2 j (by omega) (by omega) (Or.inl h3) h4 h5
theorem lr_rn_cd (a0 : lr_S) (n : Nat) {S0 : Nat → Prop} (hc : lr_cd a0 n S0) : ∀ (c k : Nat) (S : Nat → Prop) (j : Nat), k + c ≤ 8 → j < 8 → (∀ i, i < 8 → S i → S0 i) → lr_rn a0 n S k c j → S0 j
  | 0, _, _, j, _, hj, hs, h => hs j hj h
  | c + 1, k, S, j, hk, hj, hs, h => by
    unfold lr_rn at h
    refine lr_rn_cd a0 n hc c (k + 1) _ j (by omega) hj (fun i hi8 hi => ?_) h
    rcases hi with hi | ⟨w1, w2, w3⟩
    · exact hs i hi8 hi
    · exact hc k (by omega) (hs k (by omega) w1) w2 i hi8 w3
theorem lr_ct_mono {p q : Nat → Bool} : ∀ n, (∀ i, i < n → p i = true → q i = true) → lr_ct p n ≤ lr_ct q n
  | 0, _ => Nat.le_refl _
  | n + 1, h => by
    have ih := lr_ct_mono n (fun i hi => h i (by omega))
    unfold lr_ct
    by_cases hp : p n = true
    · rw [if_pos hp, if_pos (h n (by omega) hp)]
      omega
    · rw [if_neg hp]
      omega
theorem lr_ct_lt {p q : Nat → Bool} : ∀ n, (∀ i, i < n → p i = true → q i = true) → (∃ i, i < n ∧ q i = true ∧ ¬ p i = true) → lr_ct p n < lr_ct q n
  | 0, _, h => by obtain ⟨i, hi, -⟩ := h; omega
  | n + 1, h, hx => by
    obtain ⟨i, hi, q1, q2⟩ := hx
    unfold lr_ct
    by_cases e : i = n
    · subst e
      have := lr_ct_mono i (fun j hj => h j (by omega))
      rw [if_pos q1, if_neg q2]
      omega
    · have ih := lr_ct_lt n (fun j hj => h j (by omega)) ⟨i, by omega, q1, q2⟩
      by_cases hp : p n = true
      · rw [if_pos hp, if_pos (h n (by omega) hp)]
        omega
      · rw [if_neg hp]
        omega
theorem lr_ct_full {p : Nat → Bool} : ∀ n, n ≤ lr_ct p n → ∀ i, i < n → p i = true
  | 0, _, i, hi => by omega
  | n + 1, h, i, hi => by
    have hle := lr_ct_le p n
    unfold lr_ct at h
    by_cases hp : p n = true
    · rw [if_pos hp] at h
      by_cases e : i = n
      · subst e
        exact hp
      · exact lr_ct_full n (by omega) i (by omega)
    · rw [if_neg hp] at h
      omega
noncomputable def lr_cs (S : Nat → Prop) : Nat := lr_ct (fun k => @decide (S k) (Classical.propDecidable (S k))) 8
theorem lr_rr_cd (a0 : lr_S) (n : Nat) : ∀ (r m : Nat) (S : Nat → Prop), lr_cd a0 n S ∨ m ≤ lr_cs S → lr_cd a0 n (lr_rr a0 n S r) ∨ m + r ≤ lr_cs (lr_rr a0 n S r)
  | 0, m, S, h => h
  | r + 1, m, S, h => by
    unfold lr_rr
    have := lr_rr_cd a0 n r (m + 1) (lr_rn a0 n S 0 8) (by
      by_cases hc : lr_cd a0 n S
      · left
        intro k hk h1 h2 j hj h3
        exact lr_rn_mono a0 n 8 0 S j (hc k hk (lr_rn_cd a0 n hc 8 0 S k (by omega) hk (fun _ _ z => z) h1) h2 j hj h3)
      · right
        have hm : m ≤ lr_cs S := h.resolve_left hc
        have hlt : lr_cs S < lr_cs (lr_rn a0 n S 0 8) := by
          refine lr_ct_lt 8 (fun i hi z => ?_) ?_
          · have z := @of_decide_eq_true _ (Classical.propDecidable _) z
            exact @decide_eq_true _ (Classical.propDecidable _) (lr_rn_mono a0 n 8 0 S i z)
          · apply Classical.byContradiction
            intro hno
            refine hc (fun k hk h1 h2 j hj h3 => ?_)
            have hin := lr_rn_do a0 n 8 0 S k j (Nat.zero_le _) (by omega) h1 h2 h3
            apply Classical.byContradiction
            intro hns
            exact hno ⟨j, hj, @decide_eq_true _ (Classical.propDecidable _) hin, fun z => hns (@of_decide_eq_true _ (Classical.propDecidable _) z)⟩
        omega)
    rw [show m + (r + 1) = m + 1 + r by omega]
    exact this
theorem lr_rr_closed (a0 : lr_S) (n : Nat) (S : Nat → Prop) : lr_cd a0 n (lr_rr a0 n S 8) := by
  rcases lr_rr_cd a0 n 8 0 S (Or.inr (Nat.zero_le _)) with h | h
  · exact h
  · intro k hk _ _ j hj _
    have := lr_ct_full 8 (p := fun k => @decide (lr_rr a0 n S 8 k) (Classical.propDecidable _)) (by unfold lr_cs at h; omega) j hj
    exact @of_decide_eq_true _ (Classical.propDecidable _) this
theorem lr_rr_mono (a0 : lr_S) (n : Nat) : ∀ (r : Nat) (S : Nat → Prop) (j : Nat), S j → lr_rr a0 n S r j
  | 0, _, _, h => h
  | r + 1, S, j, h => lr_rr_mono a0 n r _ j (lr_rn_mono a0 n 8 0 S j h)
/-- one slot's fields, on the system's side -/
theorem lr_x_kf {n k : Nat} (hk : k < 8) (a0 : lr_S) (hv : ∀ f, f < 2 → a0.1 8 (8 * n + k) f = -1 ∨ ∃ j, j < 8 ∧ a0.1 8 (8 * n + k) f = nI j) : ∀ (c i f : Nat) (a : lr_S) (S : Nat → Prop), i + c = 2 → c < f → lr_X16 a0 a → lr_KB n 8 a S → ∃ a2, lr_L_Node_keepWhatFieldsReferTo_32 n (nI k) f (nI i) a = some (nI 2, a2) ∧ lr_X16 a0 a2 ∧ lr_KB n 8 a2 (fun j => S j ∨ ∃ s, i ≤ s ∧ s < 2 ∧ a0.1 8 (8 * n + k) s = nI j)
  | 0, i, f, a, S, e, hf, X, h => by
    obtain ⟨f, rfl⟩ : ∃ g, f = g + 1 := ⟨f - 1, by omega⟩
    obtain rfl : i = 2 := by omega
    unfold lr_L_Node_keepWhatFieldsReferTo_32
    rw [if_pos (lr_yle (x := 2) (m := 2) rfl (by omega) (by decide))]
    exact ⟨a, rfl, X, h.c (fun k hk => ⟨fun z => Or.inl z, fun z => z.elim id (fun ⟨s, s1, s2, _⟩ => by omega)⟩)⟩
  | c + 1, i, f, a, S, e, hf, X, h => by
    obtain ⟨f, rfl⟩ : ∃ g, f = g + 1 := ⟨f - 1, by omega⟩
    unfold lr_L_Node_keepWhatFieldsReferTo_32
    have x8 := X.1 8 (8 * n + k) i (by decide)
    obtain ⟨a1, g1, g2, g3⟩ := lr_x_keep h (v := a.1 8 (8 * n + k) i) (by rw [x8]; exact hv i (by omega))
    rw [if_neg (lr_nle (x := 2) (m := 2) rfl (by omega) (by decide)), if_pos (lr_nin hk (by decide)), if_pos (lr_nin (m := i) (by omega) (by decide)), lr_ncl (m := k) (by omega), lr_ncl (m := i) (by omega), lr_r a 8, g1, lr_bs, nI_1]
    obtain ⟨a2, u1, u2, u3⟩ := lr_x_kf hk a0 hv c (i + 1) f a1 _ (by omega) (by omega) (X.tr g2) g3
    refine ⟨a2, u1, u2, u3.c (fun j hj => ?_)⟩
    rw [x8]
    constructor
    · rintro ((z | z) | ⟨s, s1, s2, s3⟩)
      · exact Or.inl z
      · exact Or.inr ⟨i, Nat.le_refl _, by omega, z⟩
      · exact Or.inr ⟨s, by omega, s2, s3⟩
    · rintro (z | ⟨s, s1, s2, s3⟩)
      · exact Or.inl (Or.inl z)
      · by_cases es : s = i
        · subst es
          exact Or.inl (Or.inr s3)
        · exact Or.inr ⟨s, by omega, s2, s3⟩
theorem lr_x_rnd {n : Nat} (a0 : lr_S) (hv : ∀ k f, k < 8 → f < 2 → a0.1 7 (8 * n + k) 0 = 1 → a0.1 8 (8 * n + k) f = -1 ∨ ∃ j, j < 8 ∧ a0.1 8 (8 * n + k) f = nI j) : ∀ (c k f : Nat) (a : lr_S) (S : Nat → Prop), k + c = 8 → c < f → lr_X16 a0 a → lr_KB n 8 a S → ∃ a2, lr_L_Node_keepWhatFieldsReferTo_2 n f (nI k) a = some (nI 8, a2) ∧ lr_X16 a0 a2 ∧ lr_KB n 8 a2 (lr_rn a0 n S k c)
  | 0, k, f, a, S, e, hf, X, h => by
    obtain ⟨f, rfl⟩ : ∃ g, f = g + 1 := ⟨f - 1, by omega⟩
    obtain rfl : k = 8 := by omega
    unfold lr_L_Node_keepWhatFieldsReferTo_2
    rw [if_pos (lr_yle (x := 8) (m := 8) rfl (by omega) (by decide))]
    exact ⟨a, rfl, X, h⟩
  | c + 1, k, f, a, S, e, hf, X, h => by
    obtain ⟨f, rfl⟩ : ∃ g, f = g + 1 := ⟨f - 1, by omega⟩
    have hk : k < 8 := by omega
    unfold lr_L_Node_keepWhatFieldsReferTo_2
    rw [if_neg (lr_nle (x := 8) (m := 8) rfl (by omega) (by decide)), if_pos (lr_nin hk (by decide)), lr_ncl (by omega), lr_r a 16, lr_r a 7, X.1 7 (8 * n + k) 0 (by decide), nI_1]
    have same : (S k → ¬ a0.1 7 (8 * n + k) 0 = 1) → ∃ a2, lr_L_Node_keepWhatFieldsReferTo_2 n f (nI (k + 1)) a = some (nI 8, a2) ∧ lr_X16 a0 a2 ∧ lr_KB n 8 a2 (lr_rn a0 n S k (c + 1)) := by
      intro w
      exact lr_x_rnd a0 hv c (k + 1) f a _ (by omega) (by omega) X (h.c (fun j hj => ⟨fun z => Or.inl z, fun z => z.elim id (fun q => absurd q.2.1 (w q.1))⟩))
    rcases h k hk with ⟨g1, g2⟩ | ⟨g1, g2⟩
    · rw [if_neg (by rw [g1]; decide)]
      by_cases q : a0.1 7 (8 * n + k) 0 = 1
      · rw [if_pos q]
        obtain ⟨a1, u1, u2, u3⟩ := lr_x_kf hk a0 (fun i hi => hv k i hk hi q) 2 0 600 a S (by omega) (by omega) X h
        rw [show lr_L_Node_keepWhatFieldsReferTo_32 n (nI k) 600 (0 : Int32) a = _ from u1, lr_bs (_, a1)]
        refine lr_x_rnd a0 hv c (k + 1) f a1 _ (by omega) (by omega) u2 (u3.c (fun j hj => ?_))
        constructor
        · rintro (z | ⟨s, s1, s2, s3⟩)
          · exact Or.inl z
          · rcases (show s = 0 ∨ s = 1 by omega) with rfl | rfl
            · exact Or.inr ⟨g2, q, Or.inl s3⟩
            · exact Or.inr ⟨g2, q, Or.inr s3⟩
        · rintro (z | ⟨-, -, z | z⟩)
          · exact Or.inl z
          · exact Or.inr ⟨0, Nat.le_refl _, by omega, z⟩
          · exact Or.inr ⟨1, by omega, by omega, z⟩
      · rw [if_neg q]
        exact same (fun _ => q)
    · rw [if_pos g1]
      exact same (fun z => absurd z g2)
theorem lr_m_rnd {n : Nat} (hn : n < 4) (y : Int32) (a0 b0 : lr_S) (e24 : ∀ k, k < 8 → b0.1 24 0 (8 * n + k) = a0.1 7 (8 * n + k) 0) (e27 : ∀ k f, k < 8 → f < 2 → b0.1 27 0 (2 * (8 * n + k) + f) = a0.1 8 (8 * n + k) f) (hv : ∀ k f, k < 8 → f < 2 → a0.1 7 (8 * n + k) 0 = 1 → a0.1 8 (8 * n + k) f = -1 ∨ ∃ j, j < 8 ∧ a0.1 8 (8 * n + k) f = nI j) : ∀ (c k f : Nat) (b : lr_S) (S : Nat → Prop), k + c = 8 → c < f → lr_X55 b0 b → lr_MB 8 b S → ∃ b2, lr_L_M_mark_157 (nI n) y f (nI k) b = some (nI 8, b2) ∧ lr_X55 b0 b2 ∧ lr_MB 8 b2 (lr_rn a0 n S k c)
  | 0, k, f, b, S, e, hf, X, h => by
    obtain ⟨f, rfl⟩ : ∃ g, f = g + 1 := ⟨f - 1, by omega⟩
    obtain rfl : k = 8 := by omega
    unfold lr_L_M_mark_157
    rw [if_pos (lr_yle (x := 8) (m := 8) rfl (by omega) (by decide))]
    exact ⟨b, rfl, X, h⟩
  | c + 1, k, f, b, S, e, hf, X, h => by
    obtain ⟨f, rfl⟩ : ∃ g, f = g + 1 := ⟨f - 1, by omega⟩
    have hk : k < 8 := by omega
    have hq : 8 * n + k < 32 := by omega
    have i0 : (16 : Int32) * nI n + (2 : Int32) * nI k = nI (2 * (8 * n + k)) := by
      rw [lr_mul 16 (m := 16) rfl, lr_mul 2 (m := 2) rfl, nI_add]
      congr 1
      omega
    unfold lr_L_M_mark_157
    rw [if_neg (lr_nle (x := 8) (m := 8) rfl (by omega) (by decide)), if_pos (lr_nin hk (by decide)), i0, nI_1, nI_1, lr_mul 8 (m := 8) rfl, nI_add, if_pos (lr_nin (m := 8 * n + k) (N := 32) hq (by decide)), lr_ncl (m := k) (by omega), lr_ncl (m := 8 * n + k) (by omega), lr_ncl (m := 2 * (8 * n + k)) (by omega), lr_ncl (m := 2 * (8 * n + k) + 1) (by omega), if_pos (lr_nin (m := 2 * (8 * n + k)) (N := 64) (by omega) (by decide)), lr_r b 55, lr_r b 24, X.1 24 0 _ (by decide), e24 k hk]
    have same : (S k → ¬ a0.1 7 (8 * n + k) 0 = 1) → ∃ b2, lr_L_M_mark_157 (nI n) y f (nI (k + 1)) b = some (nI 8, b2) ∧ lr_X55 b0 b2 ∧ lr_MB 8 b2 (lr_rn a0 n S k (c + 1)) := by
      intro w
      exact lr_m_rnd hn y a0 b0 e24 e27 hv c (k + 1) f b _ (by omega) (by omega) X (h.c (fun j hj => ⟨fun z => Or.inl z, fun z => z.elim id (fun q => absurd q.2.1 (w q.1))⟩))
    rcases h k hk with ⟨g1, g2⟩ | ⟨g1, g2⟩
    · rw [if_neg (by rw [g1]; decide)]
      by_cases q : a0.1 7 (8 * n + k) 0 = 1
      · rw [if_pos q]
        have z0 : b.1 27 0 (2 * (8 * n + k)) = a0.1 8 (8 * n + k) 0 := (X.1 27 0 _ (by decide)).trans (e27 k 0 hk (by decide))
        obtain ⟨b1, v1, v2, v3⟩ := lr_m_keep h (v := b.1 27 0 (2 * (8 * n + k))) (by rw [z0]; exact hv k 0 hk (by decide) q)
        have z1 : b1.1 27 0 (2 * (8 * n + k) + 1) = a0.1 8 (8 * n + k) 1 := (v2.1 27 0 _ (by decide)).trans ((X.1 27 0 _ (by decide)).trans (e27 k 1 hk (by decide)))
        obtain ⟨b2, w1, w2, w3⟩ := lr_m_keep v3 (v := b1.1 27 0 (2 * (8 * n + k) + 1)) (by rw [z1]; exact hv k 1 hk (by decide) q)
        rw [lr_r b 27, v1, lr_bs b1, if_pos (lr_nin (m := 2 * (8 * n + k) + 1) (by omega) (by decide)), lr_r b1 27, w1, lr_bs b2]
        refine lr_m_rnd hn y a0 b0 e24 e27 hv c (k + 1) f b2 _ (by omega) (by omega) ((X.tr v2).tr w2) (w3.c (fun j hj => ?_))
        rw [z0, z1]
        constructor
        · rintro ((z | z) | z)
          · exact Or.inl z
          · exact Or.inr ⟨g2, q, Or.inl z⟩
          · exact Or.inr ⟨g2, q, Or.inr z⟩
        · rintro (z | ⟨-, -, z | z⟩)
          · exact Or.inl (Or.inl z)
          · exact Or.inl (Or.inr z)
          · exact Or.inr z
      · rw [if_neg q]
        exact same (fun _ => q)
    · rw [if_pos g1]
      exact same (fun z => absurd z g2)
theorem lr_x_rnds {n : Nat} (a0 : lr_S) (hv : ∀ k f, k < 8 → f < 2 → a0.1 7 (8 * n + k) 0 = 1 → a0.1 8 (8 * n + k) f = -1 ∨ ∃ j, j < 8 ∧ a0.1 8 (8 * n + k) f = nI j) : ∀ (c i f : Nat) (a : lr_S) (S : Nat → Prop), i + c = 8 → c < f → lr_X16 a0 a → lr_KB n 8 a S → ∃ a2, lr_L_Node_markKeptSlots_123 n f (nI i) a = some (nI 8, a2) ∧ lr_X16 a0 a2 ∧ lr_KB n 8 a2 (lr_rr a0 n S c)
  | 0, i, f, a, S, e, hf, X, h => by
    obtain ⟨f, rfl⟩ : ∃ g, f = g + 1 := ⟨f - 1, by omega⟩
    obtain rfl : i = 8 := by omega
    unfold lr_L_Node_markKeptSlots_123
    rw [if_pos (lr_yle (x := 8) (m := 8) rfl (by omega) (by decide))]
    exact ⟨a, rfl, X, h⟩
  | c + 1, i, f, a, S, e, hf, X, h => by
    obtain ⟨f, rfl⟩ : ∃ g, f = g + 1 := ⟨f - 1, by omega⟩
    unfold lr_L_Node_markKeptSlots_123 lr_G_Node_keepWhatFieldsReferTo
    obtain ⟨a1, u1, u2, u3⟩ := lr_x_rnd a0 hv 8 0 600 a S (by omega) (by omega) X h
    rw [if_neg (lr_nle (x := 8) (m := 8) rfl (by omega) (by decide)), show lr_L_Node_keepWhatFieldsReferTo_2 n 600 (0 : Int32) a = _ from u1, lr_bs, lr_bs, nI_1]
    exact lr_x_rnds a0 hv c (i + 1) f a1 _ (by omega) (by omega) u2 u3
theorem lr_m_rnds {n : Nat} (hn : n < 4) (a0 b0 : lr_S) (e24 : ∀ k, k < 8 → b0.1 24 0 (8 * n + k) = a0.1 7 (8 * n + k) 0) (e27 : ∀ k f, k < 8 → f < 2 → b0.1 27 0 (2 * (8 * n + k) + f) = a0.1 8 (8 * n + k) f) (hv : ∀ k f, k < 8 → f < 2 → a0.1 7 (8 * n + k) 0 = 1 → a0.1 8 (8 * n + k) f = -1 ∨ ∃ j, j < 8 ∧ a0.1 8 (8 * n + k) f = nI j) : ∀ (c i f : Nat) (b : lr_S) (S : Nat → Prop), i + c = 8 → c < f → lr_X55 b0 b → lr_MB 8 b S → ∃ b2, lr_L_M_mark_149 (nI n) f (nI i) b = some (nI 8, b2) ∧ lr_X55 b0 b2 ∧ lr_MB 8 b2 (lr_rr a0 n S c)
  | 0, i, f, b, S, e, hf, X, h => by
    obtain ⟨f, rfl⟩ : ∃ g, f = g + 1 := ⟨f - 1, by omega⟩
    obtain rfl : i = 8 := by omega
    unfold lr_L_M_mark_149
    rw [if_pos (lr_yle (x := 8) (m := 8) rfl (by omega) (by decide))]
    exact ⟨b, rfl, X, h⟩
  | c + 1, i, f, b, S, e, hf, X, h => by
    obtain ⟨f, rfl⟩ : ∃ g, f = g + 1 := ⟨f - 1, by omega⟩
    unfold lr_L_M_mark_149
    obtain ⟨b1, u1, u2, u3⟩ := lr_m_rnd hn (nI i) a0 b0 e24 e27 hv 8 0 600 b S (by omega) (by omega) X h
    rw [if_neg (lr_nle (x := 8) (m := 8) rfl (by omega) (by decide)), show lr_L_M_mark_157 (nI n) (nI i) 600 (0 : Int32) b = _ from u1, lr_bs, nI_1]
    exact lr_m_rnds hn a0 b0 e24 e27 hv c (i + 1) f b1 _ (by omega) (by omega) u2 u3
