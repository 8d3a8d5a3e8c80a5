/-- what is not kept is emptied, from slot 0 on -/
theorem lr_empty {c ns np tt : Nat} {ow : Nat → Nat} {n : Nat} (hn : n < 4) (S : Nat → Prop) : ∀ (r k f g cnt : Nat) (x : Int32) (a b : lr_S), k + r = 8 → r < f → r < g → lr_RelG (fun m k => ¬ m = n ∨ S k) c ns np cnt tt ow a b → lr_KB n 8 a S → lr_MB 8 b S → (∀ r k, r < 3 → k < 8 → a.1 11 n r = nI k → S k) → (∀ k, k < 8 → a.1 14 n 0 = 1 → a.1 14 n 2 = nI k → S k) → lr_cd a n S → (∀ j, j < k → ¬ a.1 7 (8 * n + j) 0 = 0 → S j) → ∃ cnt2 a2 b2 y, lr_L_Node_emptyUnkeptSlots_8 n f x (nI k) a = some (y, nI 8, a2) ∧ lr_L_M_collect_19 (nI n) g x (nI k) b = some (y, nI 8, b2) ∧ lr_RelG (fun m k => ¬ m = n ∨ S k) c ns np cnt2 tt ow a2 b2 ∧ ∀ j, j < 8 → ¬ a2.1 7 (8 * n + j) 0 = 0 → S j
  | 0, k, f, g, cnt, x, a, b, e, hf, hg, R, KA, MB, hr, hw, hcd, hd => by
    obtain ⟨f, rfl⟩ : ∃ z, f = z + 1 := ⟨f - 1, by omega⟩
    obtain ⟨g, rfl⟩ : ∃ z, g = z + 1 := ⟨g - 1, by omega⟩
    obtain rfl : k = 8 := by omega
    refine ⟨cnt, a, b, x, ?_, ?_, R, hd⟩
    · unfold lr_L_Node_emptyUnkeptSlots_8
      rw [if_pos (lr_yle (x := 8) (m := 8) rfl (by omega) (by decide))]
    · unfold lr_L_M_collect_19
      rw [if_pos (lr_yle (x := 8) (m := 8) rfl (by omega) (by decide))]
  | r + 1, k, f, g, cnt, x, a, b, e, hf, hg, R, KA, MB, hr, hw, hcd, hd => by
    obtain ⟨f, rfl⟩ : ∃ z, f = z + 1 := ⟨f - 1, by omega⟩
    obtain ⟨g, rfl⟩ : ∃ z, g = z + 1 := ⟨g - 1, by omega⟩
    obtain ⟨h1, h2, h3, h4, h5, h6, h7, h7v, h8, h9, h10, h11, h12, h13, h14, h15, h16, h17, h18, h19, h20, p1, p2, p3, p4, p5, h22, h23⟩ := id R
    have hk : k < 8 := by omega
    have hq : 8 * n + k < 32 := by omega
    obtain ⟨g0, g1, g2, g6, g7', g8, g9, g10, g11, g12⟩ := h8 (8 * n + k) hq
    unfold lr_L_Node_emptyUnkeptSlots_8 lr_L_M_collect_19
    rw [if_neg (lr_nle (x := 8) (m := 8) rfl (by omega) (by decide)), if_neg (lr_nle (x := 8) (m := 8) rfl (by omega) (by decide)), if_pos (lr_nin hk (by decide)), lr_mul 8 (m := 8) rfl, nI_add, if_pos (lr_nin (m := 8 * n + k) (N := 32) hq (by decide)), if_pos (lr_nin hk (by decide)), lr_ncl (m := k) (by omega), lr_ncl (m := 8 * n + k) (by omega), lr_r a 7, lr_r b 24, ← g0, lr_r a 16, lr_r b 55, nI_1]
    by_cases q0 : a.1 7 (8 * n + k) 0 = 0
    · rw [if_pos q0, if_pos q0]
      refine lr_empty hn S r (k + 1) f g cnt x a b (by omega) (by omega) (by omega) R KA MB hr hw hcd (fun j hj hne => ?_)
      by_cases ej : j = k
      · subst ej
        exact absurd q0 hne
      · exact hd j (by omega) hne
    rw [if_neg q0, if_neg q0]
    rcases KA k hk with ⟨ka, kS⟩ | ⟨ka, kS⟩
    · rcases MB k hk with ⟨mb, -⟩ | ⟨-, mS⟩
      rotate_left
      · exact absurd kS mS
      rw [if_neg (by rw [ka]; decide), if_neg (by rw [mb]; decide)]
      refine lr_empty hn S r (k + 1) f g cnt x a b (by omega) (by omega) (by omega) R KA MB hr hw hcd (fun j hj hne => ?_)
      by_cases ej : j = k
      · subst ej
        exact kS
      · exact hd j (by omega) hne
    · rcases MB k hk with ⟨-, mS⟩ | ⟨mb, -⟩
      · exact absurd mS kS
      rw [if_pos ka, if_pos mb]
      -- the slot becomes empty, and the loop goes on
      have go : ∀ (cn : Nat) (A B : lr_S), lr_RelG (fun m k => ¬ m = n ∨ S k) c ns np cn tt ow A B → (∀ K i j, ¬ K = 3 → ¬ (K = 1 ∧ j = 1) → ¬ K = 5 → A.1 K i j = a.1 K i j) → (∀ i j, B.1 55 i j = b.1 55 i j) → ∃ cnt2 a2 b2 y, lr_L_Node_emptyUnkeptSlots_8 n f (x + 1) (nI (k + 1)) (lr_wr A 7 (8 * n + k) 0 0) = some (y, nI 8, a2) ∧ lr_L_M_collect_19 (nI n) g (x + 1) (nI (k + 1)) (lr_wr B 24 0 (8 * n + k) 0) = some (y, nI 8, b2) ∧ lr_RelG (fun m k => ¬ m = n ∨ S k) c ns np cnt2 tt ow a2 b2 ∧ ∀ j, j < 8 → ¬ a2.1 7 (8 * n + j) 0 = 0 → S j := by
        intro cn A B RA fA fB
        have f11 : ∀ r, A.1 11 n r = a.1 11 n r := fun r => fA 11 n r (by decide) (fun z => absurd z.1 (by decide)) (by decide)
        have f14 : ∀ j, A.1 14 n j = a.1 14 n j := fun j => fA 14 n j (by decide) (fun z => absurd z.1 (by decide)) (by decide)
        have f7 : ∀ i j, A.1 7 i j = a.1 7 i j := fun i j => fA 7 i j (by decide) (fun z => absurd z.1 (by decide)) (by decide)
        have f8 : ∀ i j, A.1 8 i j = a.1 8 i j := fun i j => fA 8 i j (by decide) (fun z => absurd z.1 (by decide)) (by decide)
        have f16 : ∀ i j, A.1 16 i j = a.1 16 i j := fun i j => fA 16 i j (by decide) (fun z => absurd z.1 (by decide)) (by decide)
        have RE := lr_s_emptyG RA hn hk (fun r hr3 z => kS (hr r k hr3 hk (by rw [← f11]; exact z))) (fun z1 z2 => kS (hw k hk (by rw [← f14]; exact z1) (by rw [← f14]; exact z2))) (fun k2 i hk2 hi hG hne ho z => by
          have sk2 : S k2 := hG.resolve_left (fun z => z rfl)
          rw [f7] at ho
          rw [f8] at z
          refine kS (hcd k2 hk2 sk2 ho k hk ?_)
          rcases (show i = 0 ∨ i = 1 by omega) with rfl | rfl
          · exact Or.inl z
          · exact Or.inr z)
        refine lr_empty hn S r (k + 1) f g cn (x + 1) _ _ (by omega) (by omega) (by omega) RE (fun j hj => ?_) (fun j hj => ?_) (fun r j hr3 hj z => ?_) (fun j hj z1 z2 => ?_) (fun k2 hk2 s2 ho j hj z => ?_) (fun j hj hne => ?_)
        · have : (lr_wr A 7 (8 * n + k) 0 0).1 16 n j = a.1 16 n j := by rw [lr_w, if_neg (fun z => absurd z.1 (by decide)), f16]
          rw [this]
          exact KA j hj
        · have : (lr_wr B 24 0 (8 * n + k) 0).1 55 0 j = b.1 55 0 j := by rw [lr_w, if_neg (fun z => absurd z.1 (by decide)), fB]
          rw [this]
          exact MB j hj
        · have : (lr_wr A 7 (8 * n + k) 0 0).1 11 n r = a.1 11 n r := by rw [lr_w, if_neg (fun z => absurd z.1 (by decide)), f11]
          rw [this] at z
          exact hr r j hr3 hj z
        · have t0 : (lr_wr A 7 (8 * n + k) 0 0).1 14 n 0 = a.1 14 n 0 := by rw [lr_w, if_neg (fun z => absurd z.1 (by decide)), f14]
          have t2 : (lr_wr A 7 (8 * n + k) 0 0).1 14 n 2 = a.1 14 n 2 := by rw [lr_w, if_neg (fun z => absurd z.1 (by decide)), f14]
          rw [t0] at z1
          rw [t2] at z2
          exact hw j hj z1 z2
        · have t8 : ∀ i, (lr_wr A 7 (8 * n + k) 0 0).1 8 (8 * n + k2) i = a.1 8 (8 * n + k2) i := fun i => by rw [lr_w, if_neg (fun z => absurd z.1 (by decide)), f8]
          rw [t8, t8] at z
          by_cases e2 : k2 = k
          · subst e2
            exact absurd s2 kS
          · have t7 : (lr_wr A 7 (8 * n + k) 0 0).1 7 (8 * n + k2) 0 = a.1 7 (8 * n + k2) 0 := by rw [lr_w, if_neg (fun z => e2 (by omega)), f7]
            rw [t7] at ho
            exact hcd k2 hk2 s2 ho j hj z
        · by_cases ej : j = k
          · subst ej
            exact absurd (by simp [lr_w]) hne
          · have t7 : (lr_wr A 7 (8 * n + k) 0 0).1 7 (8 * n + j) 0 = a.1 7 (8 * n + j) 0 := by rw [lr_w, if_neg (fun z => ej (by omega)), f7]
            rw [t7] at hne
            exact hd j (by omega) hne
      by_cases q2 : a.1 7 (8 * n + k) 0 = 2
      · rw [if_pos q2, if_pos q2]
        obtain ⟨e0, he0, se, one, oe⟩ := (h14 n k hn hk).2 q2
        have hnum := (h6 n hn).1
        have R1 := lr_s_numG R hn (a.1 5 n 8 + 1)
        have hmv : lr_mv ns ow (lr_f6 5 (nI n) (nI (ow e0)) (nI e0) (a.1 5 n 8 + 1) 0) := ⟨5, n, ow e0, by omega, hn, h22.2 e0, rfl, rfl, rfl, fun z => by omega, fun _ => ⟨e0, he0, rfl, rfl, fun z => one z.symm⟩, fun z => by omega, fun z => by omega⟩
        obtain ⟨cnt2, a2, b2, u1, u2, u3, u4, u5⟩ := lr_sendG R1 hmv
        have hx1 : lr_G_Node_sendClean n (8 * n + k) a = some a2 := by
          unfold lr_G_Node_sendClean
          have r1 : lr_rd (lr_wr a 5 n 8 (a.1 5 n 8 + 1)) 5 n 0 = nI n := by simpa [lr_r, lr_w] using h5 n hn
          have r2 : lr_rd (lr_wr a 5 n 8 (a.1 5 n 8 + 1)) 7 (8 * n + k) 6 = nI (ow e0) := by simpa [lr_r, lr_w] using oe
          have r3 : lr_rd (lr_wr a 5 n 8 (a.1 5 n 8 + 1)) 7 (8 * n + k) 1 = nI e0 := by simpa [lr_r, lr_w] using se
          have r4 : lr_rd (lr_wr a 5 n 8 (a.1 5 n 8 + 1)) 5 n 8 = a.1 5 n 8 + 1 := by simp [lr_r, lr_w]
          rw [lr_r a 5 n 8, r1, r2, r3, r4, u1]
          rfl
        have y2 : lr_rd (lr_wr b 23 0 n (a.1 5 n 8 + 1)) 30 0 (8 * n + k) = nI (ow e0) := by rw [← oe, g6]; simp [lr_r, lr_w]
        have y3 : lr_rd (lr_wr b 23 0 n (a.1 5 n 8 + 1)) 25 0 (8 * n + k) = nI e0 := by rw [← se, g1]; simp [lr_r, lr_w]
        rw [hx1, lr_bs a2, lr_m_nn hn, ← hnum, lr_bs (_, lr_wr b 23 0 n (a.1 5 n 8 + 1)), y2, y3, u2, lr_bs b2]
        refine go cnt2 a2 b2 u3 (fun K i j z1 z2 z3 => ?_) (fun i j => ?_)
        · rw [u4.1 K i j z1 z2, lr_w, if_neg (fun z => z3 z.1)]
        · rw [u5 55 i j (by decide) (fun z => absurd z.1 (by decide)), lr_w, if_neg (fun z => absurd z.1 (by decide))]
      · rw [if_neg q2, if_neg q2]
        exact go cnt a b R (fun _ _ _ _ _ _ => rfl) (fun _ _ => rfl)
theorem lr_sim_collect (x : Int32) : lr_Sim (lr_G_X_collect x) (lr_G_M_collect x) := by
  rintro c a b ⟨ns, np, cnt, tt, ow, R⟩ hc
  obtain ⟨h1, h2, h3, h4, h5, h6, h7, h7v, h8, h9, h10, h11, h12, h13, h14, h15, h16, h17, h18, h19, h20, p1, p2, p3, p4, p5, h22, h23⟩ := id R
  rcases lr_arg x (N := 4) (by decide) with hx | ⟨n, hn, rfl⟩
  · unfold lr_G_X_collect lr_G_M_collect
    rw [lr_x_acts_o hx, lr_m_lives_o hx]
    exact lr_same R hc rfl rfl
  by_cases hz : a.1 5 n 9 = 0
  rotate_left
  · unfold lr_G_X_collect lr_G_M_collect
    rw [lr_x_acts_i hn, lr_m_lives_i hn, ← (h6 n hn).2, if_neg hz]
    exact lr_same R hc rfl rfl
  have hd : b.1 21 0 n = 0 := by rw [← (h6 n hn).2]; exact hz
  obtain ⟨a1, b1, S, u1, u2, X, R1, KA, MB, hr, hw, hcd⟩ := lr_mark R hn
  have f11 : ∀ r, a1.1 11 n r = a.1 11 n r := fun r => X.1 11 n r (by decide)
  have f14 : ∀ j, a1.1 14 n j = a.1 14 n j := fun j => X.1 14 n j (by decide)
  have f7 : ∀ i j, a1.1 7 i j = a.1 7 i j := fun i j => X.1 7 i j (by decide)
  have f8 : ∀ i j, a1.1 8 i j = a.1 8 i j := fun i j => X.1 8 i j (by decide)
  obtain ⟨cnt2, a2, b2, y, v1, v2, v3, v4⟩ := lr_empty hn S 8 0 600 600 cnt 0 a1 b1 (by omega) (by omega) (by omega) (lr_toG R1 _) KA MB (fun r k q1 q2 q3 => hr r k q1 q2 (by rw [← f11]; exact q3)) (fun k q1 q2 q3 => hw k q1 (by rw [← f14]; exact q2) (by rw [← f14]; exact q3)) (fun k q1 q2 q3 j q4 q5 => hcd k q1 q2 (by rw [← f7]; exact q3) j q4 (by rw [f8, f8] at q5; exact q5)) (fun j hj => by omega)
  have RF : lr_Rel c ns np cnt2 tt ow a2 b2 := lr_ofG v3 (fun m k hm hk ho => by
    by_cases em : m = n
    · subst em
      exact Or.inr (v4 k hk (by rw [ho]; decide))
    · exact Or.inl em)
  refine lr_fin RF hc (r := y) ?_ ?_
  · unfold lr_G_X_collect lr_G_Node_emptyUnkeptSlots
    rw [lr_x_acts_i hn, if_pos hz, lr_bs, if_neg lr_1ne0, if_pos (lr_nin hn (by decide)), lr_ncl (by omega), u1, lr_bs a1, show lr_L_Node_emptyUnkeptSlots_8 n 600 (0 : Int32) (0 : Int32) a1 = _ from v1]
    rfl
  · unfold lr_G_M_collect
    rw [lr_m_lives_i hn, if_pos hd, lr_bs, if_neg lr_1ne0, u2, lr_bs b1, show lr_L_M_collect_19 (nI n) 600 (0 : Int32) (0 : Int32) b1 = _ from v2]
    rfl
