/-! THE FIRST STATE: what the constructors have made, as a typed world -/
def lr_B2 (D : va_G) (q : Nat) (ws : List va_E) (H : Heap) : Prop := True ∧ ∀ (j : Nat) (e : va_E), ws[j]? = some e → va_at D lr_cl (q + j, e) H
def lr_ofx (k i : Nat) : Nat := match k with
  | 0 => 0
  | 1 => 1
  | 2 => 2
  | 3 => if i < 32 then 3 + i else if i = 32 then 232 else 36 + 49 * ((i - 33) / 4) + (44 + (i - 33) % 4)
  | 4 => 35
  | 5 => 36 + 49 * i + 0
  | 6 => 36 + 49 * i + 1
  | 7 => 36 + 49 * (i / 8) + (2 + 4 * (i % 8))
  | 8 => 36 + 49 * (i / 8) + (3 + 4 * (i % 8))
  | 9 => 36 + 49 * (i / 8) + (4 + 4 * (i % 8))
  | 10 => 36 + 49 * (i / 8) + (5 + 4 * (i % 8))
  | 11 => 36 + 49 * i + 34
  | 12 => 36 + 49 * i + 35
  | 13 => 36 + 49 * (i / 6) + (36 + i % 6)
  | 14 => 36 + 49 * i + 42
  | 15 => 36 + 49 * i + 43
  | 16 => 36 + 49 * i + 48
  | _ => 0
def lr_adx (q k i : Nat) : Nat := q + lr_ofx k i
def lr_t0x : lr_S := (fun k i j => if k = 5 ∧ j = 0 then nI i else if k = 11 then -1 else 0, fun j => j)
def lr_vx : List (Nat × Nat) := [(0, 0), (1, 0), (2, 0), (3, 0), (3, 1), (3, 2), (3, 3), (3, 4), (3, 5), (3, 6), (3, 7), (3, 8), (3, 9), (3, 10), (3, 11), (3, 12), (3, 13), (3, 14), (3, 15), (3, 16), (3, 17), (3, 18), (3, 19), (3, 20), (3, 21), (3, 22), (3, 23), (3, 24), (3, 25), (3, 26), (3, 27), (3, 28), (3, 29), (3, 30), (3, 31), (4, 0), (5, 0), (6, 0), (7, 0), (8, 0), (9, 0), (10, 0), (7, 1), (8, 1), (9, 1), (10, 1), (7, 2), (8, 2), (9, 2), (10, 2), (7, 3), (8, 3), (9, 3), (10, 3), (7, 4), (8, 4), (9, 4), (10, 4), (7, 5), (8, 5), (9, 5), (10, 5), (7, 6), (8, 6), (9, 6), (10, 6), (7, 7), (8, 7), (9, 7), (10, 7), (11, 0), (12, 0), (13, 0), (13, 1), (13, 2), (13, 3), (13, 4), (13, 5), (14, 0), (15, 0), (3, 33), (3, 34), (3, 35), (3, 36), (16, 0), (5, 1), (6, 1), (7, 8), (8, 8), (9, 8), (10, 8), (7, 9), (8, 9), (9, 9), (10, 9), (7, 10), (8, 10), (9, 10), (10, 10), (7, 11), (8, 11), (9, 11), (10, 11), (7, 12), (8, 12), (9, 12), (10, 12), (7, 13), (8, 13), (9, 13), (10, 13), (7, 14), (8, 14), (9, 14), (10, 14), (7, 15), (8, 15), (9, 15), (10, 15), (11, 1), (12, 1), (13, 6), (13, 7), (13, 8), (13, 9), (13, 10), (13, 11), (14, 1), (15, 1), (3, 37), (3, 38), (3, 39), (3, 40), (16, 1), (5, 2), (6, 2), (7, 16), (8, 16), (9, 16), (10, 16), (7, 17), (8, 17), (9, 17), (10, 17), (7, 18), (8, 18), (9, 18), (10, 18), (7, 19), (8, 19), (9, 19), (10, 19), (7, 20), (8, 20), (9, 20), (10, 20), (7, 21), (8, 21), (9, 21), (10, 21), (7, 22), (8, 22), (9, 22), (10, 22), (7, 23), (8, 23), (9, 23), (10, 23), (11, 2), (12, 2), (13, 12), (13, 13), (13, 14), (13, 15), (13, 16), (13, 17), (14, 2), (15, 2), (3, 41), (3, 42), (3, 43), (3, 44), (16, 2), (5, 3), (6, 3), (7, 24), (8, 24), (9, 24), (10, 24), (7, 25), (8, 25), (9, 25), (10, 25), (7, 26), (8, 26), (9, 26), (10, 26), (7, 27), (8, 27), (9, 27), (10, 27), (7, 28), (8, 28), (9, 28), (10, 28), (7, 29), (8, 29), (9, 29), (10, 29), (7, 30), (8, 30), (9, 30), (10, 30), (7, 31), (8, 31), (9, 31), (10, 31), (11, 3), (12, 3), (13, 18), (13, 19), (13, 20), (13, 21), (13, 22), (13, 23), (14, 3), (15, 3), (3, 45), (3, 46), (3, 47), (3, 48), (16, 3), (3, 32)]
set_option maxRecDepth 100000 in
theorem lr_vx_ok : ∀ k, k < 20 → ∀ i, i < 49 → i < lr_n k → lr_vx[lr_ofx k i]? = some (k, i) := by decide +kernel
theorem lr_n_le {k i : Nat} (hk : k < 20) (h : i < lr_n k) : i < 49 := by
  have : ∀ k, k < 20 → lr_n k ≤ 49 := by decide
  have := this k hk
  omega
theorem lr_inj_x {q : Nat} : lr_inj 0 20 (lr_adx q) := by
  intro k i k' i' h h' e
  have e1 : lr_ofx k i = lr_ofx k' i' := by
    have e : q + lr_ofx k i = q + lr_ofx k' i' := e
    omega
  have h1 := lr_vx_ok k h.2.1 i (lr_n_le h.2.1 h.2.2) h.2.2
  have h2 := lr_vx_ok k' h'.2.1 i' (lr_n_le h'.2.1 h'.2.2) h'.2.2
  rw [e1, h2] at h1
  have h3 := Option.some.inj h1
  exact ⟨(congrArg Prod.fst h3).symm, (congrArg Prod.snd h3).symm⟩
theorem lr_A_x {q a : Nat} (h : lr_A 0 20 (lr_adx q) a) : q ≤ a ∧ a < q + 233 := by
  obtain ⟨k, i, h, rfl⟩ := h
  have h1 := lr_vx_ok k h.2.1 i (lr_n_le h.2.1 h.2.2) h.2.2
  have h2 : lr_ofx k i < 233 := (List.getElem?_eq_some_iff.mp h1).1
  show q ≤ q + lr_ofx k i ∧ q + lr_ofx k i < q + 233
  omega
theorem lr_xT_len {aC : Nat → ClassId} {q : Nat} : (lr_xT aC q).length = 231 := by
  rw [lr_xT, List.length_append, List.length_cons, lr_bl_len (sz := 49) (fun _ => rfl)]
  rfl
theorem lr_x_net {D : va_G} {aC : Nat → ClassId} {q : Nat} {H : Heap} (h : lr_B2 D q (lr_xB aC q) H) {r : Nat} {e : va_E} (hr : (lr_netB aC (q + 1))[r]? = some e) : va_at D lr_cl (q + (1 + r), e) H := by
  refine h.2 (1 + r) e ?_
  have hl : r < (lr_netB aC (q + 1)).length := (List.getElem?_eq_some_iff.mp hr).1
  have hl2 : (lr_netB aC (q + 1)).length = 34 := rfl
  rw [lr_xB, Nat.add_comm 1 r, List.getElem?_cons_succ, List.getElem?_append_left (by rw [lr_xT_len]; omega), lr_xT, List.getElem?_append_left hl]
  exact hr
theorem lr_x_node {D : va_G} {aC : Nat → ClassId} {q : Nat} {H : Heap} (h : lr_B2 D q (lr_xB aC q) H) {n r : Nat} {e : va_E} (hn : n < 4) (hr0 : r < 49) (hr : (lr_nodB aC (nI n) (q + 1) (q + 36 + 49 * n))[r]? = some e) : va_at D lr_cl (q + (36 + 49 * n + r), e) H := by
  refine h.2 (36 + 49 * n + r) e ?_
  have hl2 : (lr_netB aC (q + 1)).length = 34 := rfl
  rw [lr_xB, show 36 + 49 * n + r = (35 + 49 * n + r) + 1 by omega, List.getElem?_cons_succ, List.getElem?_append_left (by rw [lr_xT_len]; omega), lr_xT, List.getElem?_append_right (by rw [hl2]; omega), hl2, show 35 + 49 * n + r - 34 = (49 * n + r) + 1 by omega, List.getElem?_cons_succ, lr_bl_get (sz := 49) (fun _ => rfl) hr0 4 hn]
  exact hr
theorem lr_x_35 {D : va_G} {aC : Nat → ClassId} {q : Nat} {H : Heap} (h : lr_B2 D q (lr_xB aC q) H) : va_at D lr_cl (q + 35, .inl (aC 3, 4, lr_rs (fun j => some (q + 36 + 49 * j)))) H := by
  refine h.2 35 _ ?_
  have hl2 : (lr_netB aC (q + 1)).length = 34 := rfl
  rw [lr_xB, show 35 = 34 + 1 by omega, List.getElem?_cons_succ, List.getElem?_append_left (by rw [lr_xT_len]; omega), lr_xT, List.getElem?_append_right (by rw [hl2]; omega), hl2]
  rfl
theorem lr_x_232 {D : va_G} {aC : Nat → ClassId} {q : Nat} {H : Heap} (h : lr_B2 D q (lr_xB aC q) H) : va_at D lr_cl (q + 232, lr_e_Message) H := by
  refine h.2 232 _ ?_
  rw [lr_xB, show 232 = 231 + 1 by omega, List.getElem?_cons_succ, List.getElem?_append_right (by rw [lr_xT_len]; omega), lr_xT_len]
  rfl
theorem lr_of7 {n k : Nat} (h : k < 8) : lr_ofx 7 (8 * n + k) = 36 + 49 * n + (2 + 4 * k) := by
  show 36 + 49 * ((8 * n + k) / 8) + (2 + 4 * ((8 * n + k) % 8)) = _
  omega
theorem lr_of8 {n k : Nat} (h : k < 8) : lr_ofx 8 (8 * n + k) = 36 + 49 * n + (3 + 4 * k) := by
  show 36 + 49 * ((8 * n + k) / 8) + (3 + 4 * ((8 * n + k) % 8)) = _
  omega
theorem lr_of9 {n k : Nat} (h : k < 8) : lr_ofx 9 (8 * n + k) = 36 + 49 * n + (4 + 4 * k) := by
  show 36 + 49 * ((8 * n + k) / 8) + (4 + 4 * ((8 * n + k) % 8)) = _
  omega
theorem lr_of10 {n k : Nat} (h : k < 8) : lr_ofx 10 (8 * n + k) = 36 + 49 * n + (5 + 4 * k) := by
  show 36 + 49 * ((8 * n + k) / 8) + (5 + 4 * ((8 * n + k) % 8)) = _
  omega
theorem lr_of13 {n k : Nat} (h : k < 6) : lr_ofx 13 (6 * n + k) = 36 + 49 * n + (36 + k) := by
  show 36 + 49 * ((6 * n + k) / 6) + (36 + (6 * n + k) % 6) = _
  omega
theorem lr_of3 {n k : Nat} (h : k < 4) : lr_ofx 3 (33 + 4 * n + k) = 36 + 49 * n + (44 + k) := by
  show (if 33 + 4 * n + k < 32 then 3 + (33 + 4 * n + k) else if 33 + 4 * n + k = 32 then 232 else 36 + 49 * ((33 + 4 * n + k - 33) / 4) + (44 + (33 + 4 * n + k - 33) % 4)) = _
  rw [if_neg (by omega), if_neg (by omega)]
  omega
theorem lr_of3a {i : Nat} (h : i < 32) : lr_ofx 3 i = 1 + (2 + i) := by
  show (if i < 32 then 3 + i else _) = _
  rw [if_pos h]
  omega
theorem lr_x_slot {D : va_G} {aC : Nat → ClassId} {q : Nat} {H : Heap} (h : lr_B2 D q (lr_xB aC q) H) {n k s : Nat} {e : va_E} (hn : n < 4) (hk : k < 8) (hs : s < 4) (he : (lr_slotB aC (q + 36 + 49 * n + 2 + 4 * k))[s]? = some e) : va_at D lr_cl (q + (36 + 49 * n + (2 + 4 * k + s)), e) H := by
  refine lr_x_node h hn (by omega) ?_
  have e1 : (lr_nodB aC (nI n) (q + 1) (q + 36 + 49 * n))[2 + 4 * k + s]? = (lr_bl (fun j => lr_slotB aC (q + 36 + 49 * n + 2 + 4 * j)) 8)[4 * k + s]? := by
    have hb : (lr_bl (fun j => lr_slotB aC (q + 36 + 49 * n + 2 + 4 * j)) 8).length = 32 := lr_bl_len (sz := 4) (fun _ => rfl) 8
    have h1 : (lr_nodT1 aC (q + 36 + 49 * n)).length = 33 := by rw [lr_nodT1, List.length_cons, hb]
    have h2 : (lr_nodT2 aC (q + 36 + 49 * n)).length = 34 := by rw [lr_nodT2, List.length_append, h1]; rfl
    have h3 : 41 = (lr_nodT3 aC (q + 36 + 49 * n)).length := by rw [lr_nodT3, List.length_append, h2]; rfl
    have h4 : 47 = (lr_nodT4 aC (q + 36 + 49 * n)).length := by rw [lr_nodT4, List.length_append, List.length_append, ← h3]; rfl
    rw [lr_nodB, show 2 + 4 * k + s = (1 + 4 * k + s) + 1 by omega, List.getElem?_cons_succ, List.getElem?_append_left (by rw [← h4]; omega), lr_nodT4, List.append_assoc, List.getElem?_append_left (by rw [← h3]; omega), lr_nodT3, List.getElem?_append_left (by rw [h2]; omega), lr_nodT2, List.getElem?_append_left (by rw [h1]; omega), lr_nodT1, show 1 + 4 * k + s = (4 * k + s) + 1 by omega, List.getElem?_cons_succ]
  rw [e1, lr_bl_get (sz := 4) (fun _ => rfl) hs 8 hk]
  exact he
theorem lr_lt20 {j : Nat} (h : j < 20) : j = 0 ∨ j = 1 ∨ j = 2 ∨ j = 3 ∨ j = 4 ∨ j = 5 ∨ j = 6 ∨ j = 7 ∨ j = 8 ∨ j = 9 ∨ j = 10 ∨ j = 11 ∨ j = 12 ∨ j = 13 ∨ j = 14 ∨ j = 15 ∨ j = 16 ∨ j = 17 ∨ j = 18 ∨ j = 19 := by omega
theorem lr_lt4 {j : Nat} (h : j < 4) : j = 0 ∨ j = 1 ∨ j = 2 ∨ j = 3 := by omega
set_option maxRecDepth 20000 in
set_option maxHeartbeats 4000000 in
theorem lr_x_first {D : va_G} {aC : Nat → ClassId} {q : Nat} {H : Heap} (h : lr_B2 D q (lr_xB aC q) H) : lr_W 0 20 D aC (lr_adx q) lr_t0x H := by
  intro k i hk
  obtain ⟨-, hk2, hi⟩ := hk
  rcases lr_lt20 hk2 with rfl | rfl | rfl | rfl | rfl | rfl | rfl | rfl | rfl | rfl | rfl | rfl | rfl | rfl | rfl | rfl | rfl | rfl | rfl | rfl
  · -- 0
    obtain rfl : i = 0 := by
      have hi : i < 1 := hi
      omega
    exact h.2 0 _ rfl
  · -- 1
    obtain rfl : i = 0 := by
      have hi : i < 1 := hi
      omega
    exact lr_x_net h (r := 0) rfl
  · -- 2
    obtain rfl : i = 0 := by
      have hi : i < 1 := hi
      omega
    refine lr_aeq_r (f := fun j => some (q + 1 + 2 + 1 * j)) (fun j hj => ?_) D _ H (lr_x_net h (r := 1) rfl)
    show some (q + 1 + 2 + 1 * j) = some (q + lr_ofx 3 j)
    rw [lr_of3a hj]
    congr 1
    omega
  · -- 3
    have hi : i < 49 := hi
    show va_at D lr_cl (q + lr_ofx 3 i, lr_e_Message) H
    by_cases h1 : i < 32
    · rw [lr_of3a h1]
      refine lr_x_net h (r := 2 + i) ?_
      rw [lr_netB, List.getElem?_append_right (by show 1 ≤ 2 + i; omega), show 2 + i - [(Sum.inr (1, [Value.int 0, Value.int 0, Value.ref (q + 1 + 1)]) : va_E)].length = i + 1 by show 2 + i - 1 = i + 1; omega, List.getElem?_cons_succ]
      have := lr_bl_get (f := fun _ => [lr_e_Message]) (sz := 1) (fun _ => rfl) (j := i) (r := 0) (by omega) 32 h1
      rw [show 1 * i + 0 = i by omega] at this
      rw [this]
      rfl
    · by_cases h2 : i = 32
      · subst h2
        exact lr_x_232 h
      · obtain ⟨n, c, hn, hc, rfl⟩ : ∃ n c, n < 4 ∧ c < 4 ∧ i = 33 + 4 * n + c := ⟨(i - 33) / 4, (i - 33) % 4, by omega, by omega, by omega⟩
        rw [lr_of3 hc]
        rcases lr_lt4 hc with rfl | rfl | rfl | rfl <;> exact lr_x_node h hn (by omega) rfl
  · -- 4
    obtain rfl : i = 0 := by
      have hi : i < 1 := hi
      omega
    refine lr_aeq_r (fun j hj => ?_) D _ H (lr_x_35 h)
    show some (q + 36 + 49 * j) = some (q + (36 + 49 * j + 0))
    congr 1
    omega
  · -- 5
    have hi : i < 4 := hi
    have h0 := lr_x_node h (r := 0) hi (by omega) rfl
    have e : lr_cell (lr_adx q) aC lr_t0x 5 i = .inr (2, [.int (nI i), .ref (q + 1), .ref (q + 36 + 49 * i + 1), .ref (q + 36 + 49 * i + 34), .ref (q + 36 + 49 * i + 35), .ref (q + 36 + 49 * i + 42), .ref (q + 36 + 49 * i + 43), .ref (q + 36 + 49 * i + 48), .int 0, .int 0]) := by
      show (Sum.inr (2, [.int (nI i), .ref (q + 1), .ref (q + (36 + 49 * i + 1)), .ref (q + (36 + 49 * i + 34)), .ref (q + (36 + 49 * i + 35)), .ref (q + (36 + 49 * i + 42)), .ref (q + (36 + 49 * i + 43)), .ref (q + (36 + 49 * i + 48)), .int 0, .int 0]) : va_E) = _
      simp only [Nat.add_assoc]
    rw [e]
    exact h0
  · -- 6
    have hi : i < 4 := hi
    refine lr_aeq_r (f := fun j => some (q + 36 + 49 * i + 2 + 4 * j)) (fun j hj => ?_) D _ H (lr_x_node h (r := 1) hi (by omega) rfl)
    show some (q + 36 + 49 * i + 2 + 4 * j) = some (q + lr_ofx 7 (8 * i + j))
    rw [lr_of7 hj]
    congr 1
    omega
  · -- 7
    have hi : i < 32 := hi
    obtain ⟨n, k, hn, hk, rfl⟩ : ∃ n k, n < 4 ∧ k < 8 ∧ i = 8 * n + k := ⟨i / 8, i % 8, by omega, by omega, by omega⟩
    have h0 := lr_x_slot h (s := 0) hn hk (by omega) rfl
    have e : lr_cell (lr_adx q) aC lr_t0x 7 (8 * n + k) = .inr (5, [.int 0, .int 0, .int 0, .ref (q + 36 + 49 * n + 2 + 4 * k + 1), .ref (q + 36 + 49 * n + 2 + 4 * k + 2), .ref (q + 36 + 49 * n + 2 + 4 * k + 3), .int 0, .int 0, .int 0, .int 0, .int 0, .int 0, .int 0]) := by
      show (Sum.inr (5, [.int 0, .int 0, .int 0, .ref (q + lr_ofx 8 (8 * n + k)), .ref (q + lr_ofx 9 (8 * n + k)), .ref (q + lr_ofx 10 (8 * n + k)), .int 0, .int 0, .int 0, .int 0, .int 0, .int 0, .int 0]) : va_E) = _
      rw [lr_of8 hk, lr_of9 hk, lr_of10 hk, show q + (36 + 49 * n + (3 + 4 * k)) = q + 36 + 49 * n + 2 + 4 * k + 1 by omega, show q + (36 + 49 * n + (4 + 4 * k)) = q + 36 + 49 * n + 2 + 4 * k + 2 by omega, show q + (36 + 49 * n + (5 + 4 * k)) = q + 36 + 49 * n + 2 + 4 * k + 3 by omega]
    rw [e]
    show va_at D lr_cl (q + lr_ofx 7 (8 * n + k), _) H
    rw [lr_of7 hk]
    exact h0
  · -- 8
    have hi : i < 32 := hi
    obtain ⟨n, k, hn, hk, rfl⟩ : ∃ n k, n < 4 ∧ k < 8 ∧ i = 8 * n + k := ⟨i / 8, i % 8, by omega, by omega, by omega⟩
    have h0 := lr_x_slot h (s := 1) hn hk (by omega) rfl
    show va_at D lr_cl (q + lr_ofx 8 (8 * n + k), _) H
    rw [lr_of8 hk, show 36 + 49 * n + (3 + 4 * k) = 36 + 49 * n + (2 + 4 * k + 1) by omega]
    refine lr_aeq_i (f := fun _ => 0) (fun j hj => ?_) D _ H h0
    rfl
  · -- 9
    have hi : i < 32 := hi
    obtain ⟨n, k, hn, hk, rfl⟩ : ∃ n k, n < 4 ∧ k < 8 ∧ i = 8 * n + k := ⟨i / 8, i % 8, by omega, by omega, by omega⟩
    have h0 := lr_x_slot h (s := 2) hn hk (by omega) rfl
    show va_at D lr_cl (q + lr_ofx 9 (8 * n + k), _) H
    rw [lr_of9 hk, show 36 + 49 * n + (4 + 4 * k) = 36 + 49 * n + (2 + 4 * k + 2) by omega]
    refine lr_aeq_i (f := fun _ => 0) (fun j hj => ?_) D _ H h0
    rfl
  · -- 10
    have hi : i < 32 := hi
    obtain ⟨n, k, hn, hk, rfl⟩ : ∃ n k, n < 4 ∧ k < 8 ∧ i = 8 * n + k := ⟨i / 8, i % 8, by omega, by omega, by omega⟩
    have h0 := lr_x_slot h (s := 3) hn hk (by omega) rfl
    show va_at D lr_cl (q + lr_ofx 10 (8 * n + k), _) H
    rw [lr_of10 hk, show 36 + 49 * n + (5 + 4 * k) = 36 + 49 * n + (2 + 4 * k + 3) by omega]
    refine lr_aeq_i (f := fun _ => 0) (fun j hj => ?_) D _ H h0
    rfl
  · -- 11
    have hi : i < 4 := hi
    refine lr_aeq_i (f := lr_fi 3) (fun j hj => ?_) D _ H (lr_x_node h (r := 34) hi (by omega) rfl)
    show (if j < 3 then (-1 : Int32) else 0) = -1
    rw [if_pos hj]
  · -- 12
    have hi : i < 4 := hi
    refine lr_aeq_r (f := fun j => some (q + 36 + 49 * i + 36 + 1 * j)) (fun j hj => ?_) D _ H (lr_x_node h (r := 35) hi (by omega) rfl)
    show some (q + 36 + 49 * i + 36 + 1 * j) = some (q + lr_ofx 13 (6 * i + j))
    rw [lr_of13 hj]
    congr 1
    omega
  · -- 13
    have hi : i < 24 := hi
    obtain ⟨n, k, hn, hk, rfl⟩ : ∃ n k, n < 4 ∧ k < 6 ∧ i = 6 * n + k := ⟨i / 6, i % 6, by omega, by omega, by omega⟩
    show va_at D lr_cl (q + lr_ofx 13 (6 * n + k), lr_e_Pin) H
    rw [lr_of13 hk]
    rcases lr_lt6 hk with rfl | rfl | rfl | rfl | rfl | rfl <;> exact lr_x_node h hn (by omega) rfl
  · -- 14
    have hi : i < 4 := hi
    exact lr_x_node h (r := 42) hi (by omega) rfl
  · -- 15
    have hi : i < 4 := hi
    refine lr_aeq_r (f := fun j => some (q + 36 + 49 * i + 44 + 1 * j)) (fun j hj => ?_) D _ H (lr_x_node h (r := 43) hi (by omega) rfl)
    show some (q + 36 + 49 * i + 44 + 1 * j) = some (q + lr_ofx 3 (33 + 4 * i + j))
    rw [lr_of3 hj]
    congr 1
    omega
  · -- 16
    have hi : i < 4 := hi
    exact lr_aeq_i (f := fun _ => 0) (fun j hj => rfl) D _ H (lr_x_node h (r := 48) hi (by omega) rfl)
  · exact absurd hi (Nat.not_lt_zero _)
  · exact absurd hi (Nat.not_lt_zero _)
  · exact absurd hi (Nat.not_lt_zero _)
def lr_ofm (k : Nat) : Nat := [0, 1, 2, 3, 4, 5, 6, 7, 8, 9, 10, 11, 12, 13, 14, 15, 16, 99, 17, 99, 18, 19, 20, 21, 99, 22, 23, 24, 25, 26, 27, 28, 29, 30, 31, 32].getD (k - 20) 0
def lr_adm (q k _i : Nat) : Nat := q + lr_ofm k
def lr_t0m : lr_S := (fun k _ _ => if k = 22 then -1 else 0, fun j => j)
theorem lr_ofm_ok : ∀ k, k < 60 → 20 ≤ k → 0 < lr_n k → lr_ofm k < 33 ∧ lr_n k = 1 := by decide +kernel
theorem lr_ofm_in : ∀ k, k < 60 → ∀ k', k' < 60 → (20 ≤ k ∧ 20 ≤ k' ∧ 0 < lr_n k ∧ 0 < lr_n k' ∧ lr_ofm k = lr_ofm k') → k = k' := by decide +kernel
theorem lr_inj_m {q : Nat} : lr_inj 20 60 (lr_adm q) := by
  intro k i k' i' h h' e
  have e1 : lr_ofm k = lr_ofm k' := by
    have e : q + lr_ofm k = q + lr_ofm k' := e
    omega
  have e2 := lr_ofm_in k h.2.1 k' h'.2.1 ⟨h.1, h'.1, by have := h.2.2; omega, by have := h'.2.2; omega, e1⟩
  have e3 := (lr_ofm_ok k h.2.1 h.1 (by have := h.2.2; omega)).2
  have e4 := (lr_ofm_ok k' h'.2.1 h'.1 (by have := h'.2.2; omega)).2
  have i1 := h.2.2
  have i2 := h'.2.2
  exact ⟨e2, by omega⟩
theorem lr_A_m {q a : Nat} (h : lr_A 20 60 (lr_adm q) a) : q ≤ a ∧ a < q + 33 := by
  obtain ⟨k, i, h, rfl⟩ := h
  have h2 := (lr_ofm_ok k h.2.1 h.1 (by have := h.2.2; omega)).1
  show q ≤ q + lr_ofm k ∧ q + lr_ofm k < q + 33
  omega
theorem lr_mo {k i : Nat} (hk : k < 60) (h2 : 20 ≤ k) (hi : i < lr_n k) : i = 0 := by
  have := (lr_ofm_ok k hk h2 (by omega)).2
  omega
theorem lr_lt2060 {j : Nat} (h0 : 20 ≤ j) (h : j < 60) : j = 20 ∨ j = 21 ∨ j = 22 ∨ j = 23 ∨ j = 24 ∨ j = 25 ∨ j = 26 ∨ j = 27 ∨ j = 28 ∨ j = 29 ∨ j = 30 ∨ j = 31 ∨ j = 32 ∨ j = 33 ∨ j = 34 ∨ j = 35 ∨ j = 36 ∨ j = 37 ∨ j = 38 ∨ j = 39 ∨ j = 40 ∨ j = 41 ∨ j = 42 ∨ j = 43 ∨ j = 44 ∨ j = 45 ∨ j = 46 ∨ j = 47 ∨ j = 48 ∨ j = 49 ∨ j = 50 ∨ j = 51 ∨ j = 52 ∨ j = 53 ∨ j = 54 ∨ j = 55 ∨ j = 56 ∨ j = 57 ∨ j = 58 ∨ j = 59 := by omega
set_option maxRecDepth 20000 in
set_option maxHeartbeats 4000000 in
theorem lr_m_first {D : va_G} {aC : Nat → ClassId} {q : Nat} {H : Heap} (h : lr_B2 D q (lr_modB aC q 12) H) : lr_W 20 60 D aC (lr_adm q) lr_t0m H := by
  intro k i hk
  obtain ⟨hk1, hk2, hi⟩ := hk
  obtain rfl := lr_mo hk2 hk1 hi
  rcases lr_lt2060 hk1 hk2 with rfl | rfl | rfl | rfl | rfl | rfl | rfl | rfl | rfl | rfl | rfl | rfl | rfl | rfl | rfl | rfl | rfl | rfl | rfl | rfl | rfl | rfl | rfl | rfl | rfl | rfl | rfl | rfl | rfl | rfl | rfl | rfl | rfl | rfl | rfl | rfl | rfl | rfl | rfl | rfl
  · exact h.2 0 _ rfl
  · exact h.2 1 _ rfl
  · refine lr_aeq_i (f := lr_fi 12) (fun j hj => ?_) D _ H (h.2 2 _ rfl)
    have hj : j < 12 := hj
    show (if j < 12 then (-1 : Int32) else 0) = -1
    rw [if_pos hj]
  · exact h.2 3 _ rfl
  · exact h.2 4 _ rfl
  · exact h.2 5 _ rfl
  · exact h.2 6 _ rfl
  · exact h.2 7 _ rfl
  · exact h.2 8 _ rfl
  · exact h.2 9 _ rfl
  · exact h.2 10 _ rfl
  · exact h.2 11 _ rfl
  · exact h.2 12 _ rfl
  · exact h.2 13 _ rfl
  · exact h.2 14 _ rfl
  · exact h.2 15 _ rfl
  · exact h.2 16 _ rfl
  · exact absurd hi (Nat.not_lt_zero _)
  · exact h.2 17 _ rfl
  · exact absurd hi (Nat.not_lt_zero _)
  · exact h.2 18 _ rfl
  · exact h.2 19 _ rfl
  · exact h.2 20 _ rfl
  · exact h.2 21 _ rfl
  · exact absurd hi (Nat.not_lt_zero _)
  · exact h.2 22 _ rfl
  · exact h.2 23 _ rfl
  · exact h.2 24 _ rfl
  · exact h.2 25 _ rfl
  · exact h.2 26 _ rfl
  · exact h.2 27 _ rfl
  · exact h.2 28 _ rfl
  · exact h.2 29 _ rfl
  · exact h.2 30 _ rfl
  · exact h.2 31 _ rfl
  · exact h.2 32 _ rfl
  · exact absurd hi (Nat.not_lt_zero _)
  · exact absurd hi (Nat.not_lt_zero _)
  · exact absurd hi (Nat.not_lt_zero _)
  · exact absurd hi (Nat.not_lt_zero _)
theorem lr_first : lr_RX 0 lr_t0x lr_t0m := by
  refine ⟨0, 0, 0, 0, fun _ => 0, ?_⟩
  have x0 : ∀ k i j, ¬ k = 5 → ¬ k = 11 → lr_t0x.1 k i j = 0 := by
    intro k i j h1 h2
    show (if k = 5 ∧ j = 0 then nI i else if k = 11 then -1 else 0) = (0 : Int32)
    rw [if_neg (fun h => h1 h.1), if_neg h2]
  have m0 : ∀ k i j, ¬ k = 22 → lr_t0m.1 k i j = 0 := by
    intro k i j h1
    show (if k = 22 then -1 else 0) = (0 : Int32)
    rw [if_neg h1]
  have z : (0 : Int32) = nI 0 := rfl
  have no : ¬ (0 : Int32) = 1 := by decide
  have no2 : ¬ (0 : Int32) = 2 := by decide
  have le : (0 : Int32) ≤ 0 := by decide
  refine ⟨⟨rfl, rfl, Nat.le_refl _⟩, ⟨rfl, rfl, by omega⟩, ⟨rfl, rfl, Nat.le_refl _⟩, ⟨rfl, rfl, Nat.le_refl _⟩, fun n hn => rfl, fun n hn => ⟨rfl, rfl⟩, fun n r hn hr => rfl, fun n r hn hr => Or.inl rfl, ?_, ?_, ?_, ?_, ?_, ?_, ?_, ?_, ?_, ?_, ?_, ?_, ?_, ?_, ?_, ?_, ?_, ?_, ?_, ?_⟩
  · intro q hq
    exact ⟨rfl, rfl, rfl, rfl, rfl, rfl, rfl, rfl, rfl, rfl⟩
  · intro q hq
    exact Or.inl rfl
  · intro q f hq hf
    rfl
  · intro n k f hn hk hf h
    exact absurd h (by rw [x0 7 _ _ (by decide) (by decide)]; exact no)
  · intro q d hq hd
    rfl
  · intro q d hq hd
    exact Or.inl rfl
  · intro n k hn hk
    rw [x0 7 _ 0 (by decide) (by decide)]
    exact ⟨fun h => absurd h no, fun h => absurd h no2⟩
  · intro n hn
    exact ⟨rfl, rfl, rfl, rfl, rfl⟩
  · intro n hn
    exact ⟨0, Nat.le_refl _, rfl, fun h => absurd rfl h⟩
  · intro n d hn hd
    exact ⟨rfl, rfl, rfl, rfl, fun h => absurd rfl h⟩
  · exact ⟨fun p hp => hp, fun p p2 _ _ h => h⟩
  · intro p j hp
    exact absurd hp (Nat.not_lt_zero _)
  · intro p hp
    exact absurd hp (Nat.not_lt_zero _)
  · intro n i hn hi h
    exact absurd (by rw [x0 13 _ _ (by decide) (by decide), x0 1 _ _ (by decide) (by decide)]; exact le) h
  · intro j n k hj
    exact absurd hj (Nat.not_lt_zero _)
  · intro n i i2 hn hi hi2 h
    exact absurd (by rw [x0 13 _ _ (by decide) (by decide), x0 1 _ _ (by decide) (by decide)]; exact le) h
  · intro j hj
    exact absurd hj (Nat.not_lt_zero _)
  · intro j hj hj2
    rfl
  · exact ⟨by omega, fun _ => by show 0 < 4; omega⟩
  · intro q hq
    exact ⟨0, by omega, rfl⟩
