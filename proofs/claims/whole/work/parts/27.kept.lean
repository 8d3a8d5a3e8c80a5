/-! what is kept, as a set of slots -/
def lr_KB (n m : Nat) (a : lr_S) (S : Nat → Prop) : Prop := ∀ k, k < m → (a.1 16 n k = 1 ∧ S k) ∨ (a.1 16 n k = 0 ∧ ¬ S k)
def lr_MB (m : Nat) (b : lr_S) (S : Nat → Prop) : Prop := ∀ k, k < m → (b.1 55 0 k = 1 ∧ S k) ∨ (b.1 55 0 k = 0 ∧ ¬ S k)
/-- nothing but the marks has changed -/
def lr_X16 (a a2 : lr_S) : Prop := (∀ K i j, ¬ K = 16 → a2.1 K i j = a.1 K i j) ∧ ∀ c ns np cnt tt ow b, lr_Rel c ns np cnt tt ow a b → lr_Rel c ns np cnt tt ow a2 b
def lr_X55 (b b2 : lr_S) : Prop := (∀ K i j, ¬ K = 55 → b2.1 K i j = b.1 K i j) ∧ ∀ c ns np cnt tt ow a, lr_Rel c ns np cnt tt ow a b → lr_Rel c ns np cnt tt ow a b2
theorem lr_X16.rf (a : lr_S) : lr_X16 a a := ⟨fun _ _ _ _ => rfl, fun _ _ _ _ _ _ _ h => h⟩
theorem lr_X55.rf (b : lr_S) : lr_X55 b b := ⟨fun _ _ _ _ => rfl, fun _ _ _ _ _ _ _ h => h⟩
theorem lr_X16.tr {a a2 a3 : lr_S} (h : lr_X16 a a2) (g : lr_X16 a2 a3) : lr_X16 a a3 := ⟨fun K i j z => (g.1 K i j z).trans (h.1 K i j z), fun c ns np cnt tt ow b q => g.2 c ns np cnt tt ow b (h.2 c ns np cnt tt ow b q)⟩
theorem lr_X55.tr {b b2 b3 : lr_S} (h : lr_X55 b b2) (g : lr_X55 b2 b3) : lr_X55 b b3 := ⟨fun K i j z => (g.1 K i j z).trans (h.1 K i j z), fun c ns np cnt tt ow a q => g.2 c ns np cnt tt ow a (h.2 c ns np cnt tt ow a q)⟩
theorem lr_X16.w (a : lr_S) (n k : Nat) (v : Int32) : lr_X16 a (lr_wr a 16 n k v) := ⟨fun K i j z => by rw [lr_w, if_neg (fun q => z q.1)], fun _ _ _ _ _ _ _ h => lr_s_keptx h⟩
theorem lr_X55.w (b : lr_S) (k : Nat) (v : Int32) : lr_X55 b (lr_wr b 55 0 k v) := ⟨fun K i j z => by rw [lr_w, if_neg (fun q => z q.1)], fun _ _ _ _ _ _ _ h => lr_s_keptm h⟩
theorem lr_KB.c {n m : Nat} {a : lr_S} {S S2 : Nat → Prop} (h : lr_KB n m a S) (e : ∀ k, k < m → (S k ↔ S2 k)) : lr_KB n m a S2 := fun k hk => by
  rcases h k hk with ⟨g1, g2⟩ | ⟨g1, g2⟩
  · exact Or.inl ⟨g1, (e k hk).mp g2⟩
  · exact Or.inr ⟨g1, fun z => g2 ((e k hk).mpr z)⟩
theorem lr_MB.c {m : Nat} {b : lr_S} {S S2 : Nat → Prop} (h : lr_MB m b S) (e : ∀ k, k < m → (S k ↔ S2 k)) : lr_MB m b S2 := fun k hk => by
  rcases h k hk with ⟨g1, g2⟩ | ⟨g1, g2⟩
  · exact Or.inl ⟨g1, (e k hk).mp g2⟩
  · exact Or.inr ⟨g1, fun z => g2 ((e k hk).mpr z)⟩
/-- one more slot is kept -/
theorem lr_x_keep {n : Nat} {a : lr_S} {S : Nat → Prop} {v : Int32} (h : lr_KB n 8 a S) (hv : v = -1 ∨ ∃ k, k < 8 ∧ v = nI k) : ∃ a2, lr_G_Node_keep n v a = some a2 ∧ lr_X16 a a2 ∧ lr_KB n 8 a2 (fun k => S k ∨ v = nI k) := by
  unfold lr_G_Node_keep
  rcases hv with rfl | ⟨k, hk, rfl⟩
  · rw [if_pos rfl]
    exact ⟨a, rfl, lr_X16.rf a, h.c (fun j hj => ⟨fun z => Or.inl z, fun z => z.elim id (fun q => absurd q.symm (lr_n1 (by omega)))⟩)⟩
  · rw [if_neg (lr_n1 (by omega)), if_pos (lr_nin hk (by decide)), lr_ncl (by omega), lr_nb1]
    refine ⟨_, rfl, lr_X16.w a n k 1, fun j hj => ?_⟩
    by_cases e : j = k
    · subst e
      exact Or.inl ⟨by simp [lr_w], Or.inr rfl⟩
    · rcases h j hj with ⟨g1, g2⟩ | ⟨g1, g2⟩
      · exact Or.inl ⟨by simpa [lr_w, e] using g1, Or.inl g2⟩
      · exact Or.inr ⟨by simpa [lr_w, e] using g1, fun z => z.elim g2 (fun q => e ((nI_eq (by omega) (by omega)).mp q).symm)⟩
theorem lr_m_keep {b : lr_S} {S : Nat → Prop} {v : Int32} (h : lr_MB 8 b S) (hv : v = -1 ∨ ∃ k, k < 8 ∧ v = nI k) : ∃ b2, lr_G_M_keep v b = some b2 ∧ lr_X55 b b2 ∧ lr_MB 8 b2 (fun k => S k ∨ v = nI k) := by
  unfold lr_G_M_keep
  rcases hv with rfl | ⟨k, hk, rfl⟩
  · rw [if_pos (by decide)]
    exact ⟨b, rfl, lr_X55.rf b, h.c (fun j hj => ⟨fun z => Or.inl z, fun z => z.elim id (fun q => absurd q.symm (lr_n1 (by omega)))⟩)⟩
  · rw [if_neg (lr_nneg (by omega)), if_pos (lr_nin hk (by decide)), lr_ncl (by omega), lr_nb1]
    refine ⟨_, rfl, lr_X55.w b k 1, fun j hj => ?_⟩
    by_cases e : j = k
    · subst e
      exact Or.inl ⟨by simp [lr_w], Or.inr rfl⟩
    · rcases h j hj with ⟨g1, g2⟩ | ⟨g1, g2⟩
      · exact Or.inl ⟨by simpa [lr_w, e] using g1, Or.inl g2⟩
      · exact Or.inr ⟨by simpa [lr_w, e] using g1, fun z => z.elim g2 (fun q => e ((nI_eq (by omega) (by omega)).mp q).symm)⟩
/-! listed -/
theorem lr_x_isl (a : lr_S) (q : Nat) (t : Int32) : ∀ (r k f : Nat) (x : Int32), k + r = 4 → r < f → (x = 0 ∨ x = 1) → ∃ y, lr_L_Slot_isListed_4 q t f x (nI k) a = some (y, nI 4, a) ∧ ((y = 1 ∧ (x = 1 ∨ ∃ d, k ≤ d ∧ d < 4 ∧ t < a.1 10 q d)) ∨ (y = 0 ∧ ¬ (x = 1 ∨ ∃ d, k ≤ d ∧ d < 4 ∧ t < a.1 10 q d)))
  | 0, k, f, x, e, hf, hx => by
    obtain ⟨f, rfl⟩ : ∃ g, f = g + 1 := ⟨f - 1, by omega⟩
    obtain rfl : k = 4 := by omega
    unfold lr_L_Slot_isListed_4
    rw [if_pos (lr_yle (x := 4) (m := 4) rfl (by omega) (by decide))]
    refine ⟨x, rfl, ?_⟩
    rcases hx with rfl | rfl
    · refine Or.inr ⟨rfl, ?_⟩
      rintro (z | ⟨d, d1, d2, -⟩)
      · exact absurd z (by decide)
      · omega
    · exact Or.inl ⟨rfl, Or.inl rfl⟩
  | r + 1, k, f, x, e, hf, hx => by
    obtain ⟨f, rfl⟩ : ∃ g, f = g + 1 := ⟨f - 1, by omega⟩
    unfold lr_L_Slot_isListed_4
    rw [if_neg (lr_nle (x := 4) (m := 4) rfl (by omega) (by decide)), if_pos (lr_nin (m := k) (by omega) (by decide)), lr_ncl (by omega), lr_r a 10, nI_1]
    rcases hx with rfl | rfl
    · rw [if_pos rfl]
      by_cases z : a.1 10 q k ≤ t
      · rw [if_pos z]
        obtain ⟨y, g1, g2⟩ := lr_x_isl a q t r (k + 1) f 0 (by omega) (by omega) (Or.inl rfl)
        refine ⟨y, g1, ?_⟩
        have key : ((0 : Int32) = 1 ∨ ∃ d, k ≤ d ∧ d < 4 ∧ t < a.1 10 q d) ↔ ((0 : Int32) = 1 ∨ ∃ d, k + 1 ≤ d ∧ d < 4 ∧ t < a.1 10 q d) := by
          constructor
          · rintro (w | ⟨d, d1, d2, d3⟩)
            · exact Or.inl w
            · refine Or.inr ⟨d, ?_, d2, d3⟩
              by_cases e : d = k
              · subst e
                exact absurd d3 (Int32.not_lt.mpr z)
              · omega
          · rintro (w | ⟨d, d1, d2, d3⟩)
            · exact Or.inl w
            · exact Or.inr ⟨d, by omega, d2, d3⟩
        rw [key]
        exact g2
      · rw [if_neg z]
        obtain ⟨y, g1, g2⟩ := lr_x_isl a q t r (k + 1) f 1 (by omega) (by omega) (Or.inr rfl)
        refine ⟨y, g1, ?_⟩
        rcases g2 with ⟨w1, -⟩ | ⟨w1, w2⟩
        · exact Or.inl ⟨w1, Or.inr ⟨k, Nat.le_refl _, by omega, Int32.not_le.mp z⟩⟩
        · exact absurd (Or.inl rfl) w2
    · rw [if_neg lr_1ne0]
      obtain ⟨y, g1, g2⟩ := lr_x_isl a q t r (k + 1) f 1 (by omega) (by omega) (Or.inr rfl)
      refine ⟨y, g1, ?_⟩
      rcases g2 with ⟨w1, -⟩ | ⟨w1, w2⟩
      · exact Or.inl ⟨w1, Or.inl rfl⟩
      · exact absurd (Or.inl rfl) w2
theorem lr_x_isListed (a : lr_S) (q : Nat) (t : Int32) : ∃ y, lr_G_Slot_isListed q t a = some (y, a) ∧ ((y = 1 ∧ a.1 7 q 0 = 1 ∧ ∃ d, d < 4 ∧ t < a.1 10 q d) ∨ (y = 0 ∧ ¬ (a.1 7 q 0 = 1 ∧ ∃ d, d < 4 ∧ t < a.1 10 q d))) := by
  obtain ⟨y, g1, g2⟩ := lr_x_isl a q t 4 0 600 0 (by omega) (by omega) (Or.inl rfl)
  unfold lr_G_Slot_isListed
  rw [show lr_L_Slot_isListed_4 q t 600 (0 : Int32) (0 : Int32) a = _ from g1, lr_bs, lr_r]
  by_cases h : a.1 7 q 0 = 1
  · rw [if_pos (show ((y, nI 4, a) : Int32 × Int32 × lr_S).2.2.1 7 q 0 = 1 from h)]
    rcases g2 with ⟨rfl, w⟩ | ⟨rfl, w⟩
    · refine ⟨1, by rw [if_neg lr_1ne0], Or.inl ⟨rfl, h, ?_⟩⟩
      rcases w with w | ⟨d, -, d2, d3⟩
      · exact absurd w (by decide)
      · exact ⟨d, d2, d3⟩
    · refine ⟨0, by rw [if_pos rfl], Or.inr ⟨rfl, fun z => w (Or.inr ?_)⟩⟩
      obtain ⟨d, d2, d3⟩ := z.2
      exact ⟨d, Nat.zero_le _, d2, d3⟩
  · rw [if_neg (show ¬ ((y, nI 4, a) : Int32 × Int32 × lr_S).2.2.1 7 q 0 = 1 from h)]
    exact ⟨0, rfl, Or.inr ⟨rfl, fun z => h z.1⟩⟩
theorem lr_m_isl (b : lr_S) {q : Nat} (hq : q < 32) : ∀ (r k f : Nat) (x : Int32), k + r = 4 → r < f → (x = 0 ∨ x = 1) → ∃ y, lr_L_M_listed_4 (nI q) f x (nI k) b = some (y, nI 4, b) ∧ ((y = 1 ∧ (x = 1 ∨ ∃ d, k ≤ d ∧ d < 4 ∧ b.1 20 0 0 < b.1 29 0 (4 * q + d))) ∨ (y = 0 ∧ ¬ (x = 1 ∨ ∃ d, k ≤ d ∧ d < 4 ∧ b.1 20 0 0 < b.1 29 0 (4 * q + d))))
  | 0, k, f, x, e, hf, hx => by
    obtain ⟨f, rfl⟩ : ∃ g, f = g + 1 := ⟨f - 1, by omega⟩
    obtain rfl : k = 4 := by omega
    unfold lr_L_M_listed_4
    rw [if_pos (lr_yle (x := 4) (m := 4) rfl (by omega) (by decide))]
    refine ⟨x, rfl, ?_⟩
    rcases hx with rfl | rfl
    · refine Or.inr ⟨rfl, ?_⟩
      rintro (z | ⟨d, d1, d2, -⟩)
      · exact absurd z (by decide)
      · omega
    · exact Or.inl ⟨rfl, Or.inl rfl⟩
  | r + 1, k, f, x, e, hf, hx => by
    obtain ⟨f, rfl⟩ : ∃ g, f = g + 1 := ⟨f - 1, by omega⟩
    unfold lr_L_M_listed_4
    rw [if_neg (lr_nle (x := 4) (m := 4) rfl (by omega) (by decide)), lr_mul 4 (m := 4) rfl, nI_add, if_pos (lr_nin (m := 4 * q + k) (by omega) (by decide)), lr_ncl (by omega), lr_r b 29, lr_r b 20, nI_1]
    rcases hx with rfl | rfl
    · rw [if_pos rfl]
      by_cases z : b.1 29 0 (4 * q + k) ≤ b.1 20 0 0
      · rw [if_pos z]
        obtain ⟨y, g1, g2⟩ := lr_m_isl b hq r (k + 1) f 0 (by omega) (by omega) (Or.inl rfl)
        refine ⟨y, g1, ?_⟩
        have key : ((0 : Int32) = 1 ∨ ∃ d, k ≤ d ∧ d < 4 ∧ b.1 20 0 0 < b.1 29 0 (4 * q + d)) ↔ ((0 : Int32) = 1 ∨ ∃ d, k + 1 ≤ d ∧ d < 4 ∧ b.1 20 0 0 < b.1 29 0 (4 * q + d)) := by
          constructor
          · rintro (w | ⟨d, d1, d2, d3⟩)
            · exact Or.inl w
            · refine Or.inr ⟨d, ?_, d2, d3⟩
              by_cases e : d = k
              · subst e
                exact absurd d3 (Int32.not_lt.mpr z)
              · omega
          · rintro (w | ⟨d, d1, d2, d3⟩)
            · exact Or.inl w
            · exact Or.inr ⟨d, by omega, d2, d3⟩
        rw [key]
        exact g2
      · rw [if_neg z]
        obtain ⟨y, g1, g2⟩ := lr_m_isl b hq r (k + 1) f 1 (by omega) (by omega) (Or.inr rfl)
        refine ⟨y, g1, ?_⟩
        rcases g2 with ⟨w1, -⟩ | ⟨w1, w2⟩
        · exact Or.inl ⟨w1, Or.inr ⟨k, Nat.le_refl _, by omega, Int32.not_le.mp z⟩⟩
        · exact absurd (Or.inl rfl) w2
    · rw [if_neg lr_1ne0]
      obtain ⟨y, g1, g2⟩ := lr_m_isl b hq r (k + 1) f 1 (by omega) (by omega) (Or.inr rfl)
      refine ⟨y, g1, ?_⟩
      rcases g2 with ⟨w1, -⟩ | ⟨w1, w2⟩
      · exact Or.inl ⟨w1, Or.inl rfl⟩
      · exact absurd (Or.inl rfl) w2
theorem lr_m_listed (b : lr_S) {q : Nat} (hq : q < 32) : ∃ y, lr_G_M_listed (nI q) b = some (y, b) ∧ ((y = 1 ∧ ∃ d, d < 4 ∧ b.1 20 0 0 < b.1 29 0 (4 * q + d)) ∨ (y = 0 ∧ ¬ ∃ d, d < 4 ∧ b.1 20 0 0 < b.1 29 0 (4 * q + d))) := by
  obtain ⟨y, g1, g2⟩ := lr_m_isl b hq 4 0 600 0 (by omega) (by omega) (Or.inl rfl)
  unfold lr_G_M_listed
  rw [show lr_L_M_listed_4 (nI q) 600 (0 : Int32) (0 : Int32) b = _ from g1, lr_bs]
  rcases g2 with ⟨rfl, w⟩ | ⟨rfl, w⟩
  · refine ⟨1, by rw [if_pos (Or.inr rfl)], Or.inl ⟨rfl, ?_⟩⟩
    rcases w with w | ⟨d, -, d2, d3⟩
    · exact absurd w (by decide)
    · exact ⟨d, d2, d3⟩
  · refine ⟨0, by rw [if_pos (Or.inl rfl)], Or.inr ⟨rfl, fun z => w (Or.inr ?_)⟩⟩
    obtain ⟨d, d2, d3⟩ := z
    exact ⟨d, Nat.zero_le _, d2, d3⟩
/-! the marks, phase by phase -/
theorem lr_x_mk1 {n : Nat} (a0 : lr_S) : ∀ (r k f : Nat) (a : lr_S), k + r = 8 → r < f → lr_X16 a0 a → lr_KB n k a (fun k => a0.1 7 (8 * n + k) 0 = 1 ∧ ∃ d, d < 4 ∧ a0.1 1 0 0 < a0.1 10 (8 * n + k) d) → ∃ a2, lr_L_Node_markKeptSlots_2 n f (nI k) a = some (nI 8, a2) ∧ lr_X16 a0 a2 ∧ lr_KB n 8 a2 (fun k => a0.1 7 (8 * n + k) 0 = 1 ∧ ∃ d, d < 4 ∧ a0.1 1 0 0 < a0.1 10 (8 * n + k) d)
  | 0, k, f, a, e, hf, X, h => by
    obtain ⟨f, rfl⟩ : ∃ g, f = g + 1 := ⟨f - 1, by omega⟩
    obtain rfl : k = 8 := by omega
    unfold lr_L_Node_markKeptSlots_2
    rw [if_pos (lr_yle (x := 8) (m := 8) rfl (by omega) (by decide))]
    exact ⟨a, rfl, X, h⟩
  | r + 1, k, f, a, e, hf, X, h => by
    obtain ⟨f, rfl⟩ : ∃ g, f = g + 1 := ⟨f - 1, by omega⟩
    unfold lr_L_Node_markKeptSlots_2
    obtain ⟨y, g1, g2⟩ := lr_x_isListed a (8 * n + k) (a.1 1 0 0)
    rw [if_neg (lr_nle (x := 8) (m := 8) rfl (by omega) (by decide)), if_pos (lr_nin (m := k) (by omega) (by decide)), lr_ncl (by omega), lr_r a 1, g1, lr_bs, nI_1]
    have x7 := X.1 7 (8 * n + k) 0 (by decide)
    have x1 := X.1 1 0 0 (by decide)
    have x10 : ∀ d, a.1 10 (8 * n + k) d = a0.1 10 (8 * n + k) d := fun d => X.1 10 _ d (by decide)
    refine lr_x_mk1 a0 r (k + 1) f _ (by omega) (by omega) (X.tr (lr_X16.w a n k _)) (fun j hj => ?_)
    by_cases ej : j = k
    · subst ej
      simp only [x7, x1, x10] at g2
      rcases g2 with ⟨rfl, w⟩ | ⟨rfl, w⟩
      · exact Or.inl ⟨by simp [lr_w, lr_nb1], w⟩
      · exact Or.inr ⟨by simp [lr_w, lr_nb0], w⟩
    · rcases h j (by omega) with ⟨w1, w2⟩ | ⟨w1, w2⟩
      · exact Or.inl ⟨by simpa [lr_w, ej] using w1, w2⟩
      · exact Or.inr ⟨by simpa [lr_w, ej] using w1, w2⟩
theorem lr_x_mk2 {n : Nat} (a0 : lr_S) (hv : ∀ r, r < 3 → a0.1 11 n r = -1 ∨ ∃ k, k < 8 ∧ a0.1 11 n r = nI k) : ∀ (c r f : Nat) (a : lr_S) (S : Nat → Prop), r + c = 3 → c < f → lr_X16 a0 a → lr_KB n 8 a S → ∃ a2, lr_L_Node_markKeptSlots_38 n f (nI r) a = some (nI 3, a2) ∧ lr_X16 a0 a2 ∧ lr_KB n 8 a2 (fun k => S k ∨ ∃ s, r ≤ s ∧ s < 3 ∧ a0.1 11 n s = nI k)
  | 0, r, f, a, S, e, hf, X, h => by
    obtain ⟨f, rfl⟩ : ∃ g, f = g + 1 := ⟨f - 1, by omega⟩
    obtain rfl : r = 3 := by omega
    unfold lr_L_Node_markKeptSlots_38
    rw [if_pos (lr_yle (x := 3) (m := 3) rfl (by omega) (by decide))]
    exact ⟨a, rfl, X, h.c (fun k hk => ⟨fun z => Or.inl z, fun z => z.elim id (fun ⟨s, s1, s2, _⟩ => by omega)⟩)⟩
  | c + 1, r, f, a, S, e, hf, X, h => by
    obtain ⟨f, rfl⟩ : ∃ g, f = g + 1 := ⟨f - 1, by omega⟩
    unfold lr_L_Node_markKeptSlots_38
    have x11 := X.1 11 n r (by decide)
    obtain ⟨a1, g1, g2, g3⟩ := lr_x_keep h (v := a.1 11 n r) (by rw [x11]; exact hv r (by omega))
    rw [if_neg (lr_nle (x := 3) (m := 3) rfl (by omega) (by decide)), if_pos (lr_nin (m := r) (by omega) (by decide)), lr_ncl (by omega), lr_r a 11, g1, lr_bs, nI_1]
    obtain ⟨a2, u1, u2, u3⟩ := lr_x_mk2 a0 hv c (r + 1) f a1 _ (by omega) (by omega) (X.tr g2) g3
    refine ⟨a2, u1, u2, u3.c (fun k hk => ?_)⟩
    rw [x11]
    constructor
    · rintro ((z | z) | ⟨s, s1, s2, s3⟩)
      · exact Or.inl z
      · exact Or.inr ⟨r, Nat.le_refl _, by omega, z⟩
      · exact Or.inr ⟨s, by omega, s2, s3⟩
    · rintro (z | ⟨s, s1, s2, s3⟩)
      · exact Or.inl (Or.inl z)
      · by_cases es : s = r
        · subst es
          exact Or.inl (Or.inr s3)
        · exact Or.inr ⟨s, by omega, s2, s3⟩
theorem lr_x_mk3 {n : Nat} (a0 : lr_S) (hv : ∀ i, i < 6 → ¬ a0.1 13 (6 * n + i) 2 ≤ a0.1 1 0 0 → ∃ k, k < 8 ∧ a0.1 13 (6 * n + i) 1 = nI k) : ∀ (c r f : Nat) (a : lr_S) (S : Nat → Prop), r + c = 6 → c < f → lr_X16 a0 a → lr_KB n 8 a S → ∃ a2, lr_L_Node_markKeptSlots_61 n f (nI r) a = some (nI 6, a2) ∧ lr_X16 a0 a2 ∧ lr_KB n 8 a2 (fun k => S k ∨ ∃ s, r ≤ s ∧ s < 6 ∧ ¬ a0.1 13 (6 * n + s) 2 ≤ a0.1 1 0 0 ∧ a0.1 13 (6 * n + s) 1 = nI k)
  | 0, r, f, a, S, e, hf, X, h => by
    obtain ⟨f, rfl⟩ : ∃ g, f = g + 1 := ⟨f - 1, by omega⟩
    obtain rfl : r = 6 := by omega
    unfold lr_L_Node_markKeptSlots_61
    rw [if_pos (lr_yle (x := 6) (m := 6) rfl (by omega) (by decide))]
    exact ⟨a, rfl, X, h.c (fun k hk => ⟨fun z => Or.inl z, fun z => z.elim id (fun ⟨s, s1, s2, _⟩ => by omega)⟩)⟩
  | c + 1, r, f, a, S, e, hf, X, h => by
    obtain ⟨f, rfl⟩ : ∃ g, f = g + 1 := ⟨f - 1, by omega⟩
    unfold lr_L_Node_markKeptSlots_61
    have x2 := X.1 13 (6 * n + r) 2 (by decide)
    have x1 := X.1 13 (6 * n + r) 1 (by decide)
    have xc := X.1 1 0 0 (by decide)
    rw [if_neg (lr_nle (x := 6) (m := 6) rfl (by omega) (by decide)), if_pos (lr_nin (m := r) (by omega) (by decide)), lr_ncl (by omega), lr_x_isLive, lr_bs (_, a), x2, xc, nI_1]
    by_cases l : a0.1 13 (6 * n + r) 2 ≤ a0.1 1 0 0
    · rw [if_pos l, if_pos rfl]
      obtain ⟨a2, u1, u2, u3⟩ := lr_x_mk3 a0 hv c (r + 1) f a S (by omega) (by omega) X h
      refine ⟨a2, u1, u2, u3.c (fun k hk => ?_)⟩
      constructor
      · rintro (z | ⟨s, s1, s2, s3⟩)
        · exact Or.inl z
        · exact Or.inr ⟨s, by omega, s2, s3⟩
      · rintro (z | ⟨s, s1, s2, s3⟩)
        · exact Or.inl z
        · by_cases es : s = r
          · subst es
            exact absurd l s3.1
          · exact Or.inr ⟨s, by omega, s2, s3⟩
    · obtain ⟨a1, g1, g2, g3⟩ := lr_x_keep h (v := a.1 13 (6 * n + r) 1) (by rw [x1]; exact Or.inr (hv r (by omega) l))
      rw [if_neg l, if_neg lr_1ne0, lr_r a 13, g1, lr_bs a1]
      obtain ⟨a2, u1, u2, u3⟩ := lr_x_mk3 a0 hv c (r + 1) f a1 _ (by omega) (by omega) (X.tr g2) g3
      refine ⟨a2, u1, u2, u3.c (fun k hk => ?_)⟩
      rw [x1]
      constructor
      · rintro ((z | z) | ⟨s, s1, s2, s3⟩)
        · exact Or.inl z
        · exact Or.inr ⟨r, Nat.le_refl _, by omega, l, z⟩
        · exact Or.inr ⟨s, by omega, s2, s3⟩
      · rintro (z | ⟨s, s1, s2, s3⟩)
        · exact Or.inl (Or.inl z)
        · by_cases es : s = r
          · subst es
            exact Or.inl (Or.inr s3.2)
          · exact Or.inr ⟨s, by omega, s2, s3⟩
