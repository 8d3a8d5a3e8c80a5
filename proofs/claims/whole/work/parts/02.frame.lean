/-! THE TYPED WORLD. A value is an int or a reference (kind, index); a state: what ints each cell holds, and which message row stands at each place of the flight's array. -/
abbrev lr_V : Type := Int32 ⊕ (Nat × Nat)
abbrev lr_S : Type := (Nat → Nat → Nat → Int32) × (Nat → Nat)
def lr_rv (ad : Nat → Nat → Nat) (v : lr_V) : Value := match v with
  | .inl x => .int x
  | .inr r => .ref (ad r.1 r.2)
/-- how many cells there are of a kind: 0 .. 16 those of the system, 20 the reference's object, 20 + f the array in its field f -/
def lr_n (k : Nat) : Nat := [1, 1, 1, 49, 1, 4, 4, 32, 32, 32, 32, 4, 4, 24, 4, 4, 4, 0, 0, 0, 1, 1, 1, 1, 1, 1, 1, 1, 1, 1, 1, 1, 1, 1, 1, 1, 1, 0, 1, 0, 1, 1, 1, 1, 0, 1, 1, 1, 1, 1, 1, 1, 1, 1, 1, 1].getD k 0
/-- the reference's arrays: how long, by the field's number; and which are of booleans -/
def lr_ml (f : Nat) : Nat := [0, 4, 12, 4, 32, 32, 32, 64, 128, 128, 32, 32, 32, 32, 32, 32, 32, 0, 192, 0, 6, 512, 512, 512, 0, 4, 4, 4, 4, 4, 4, 16, 16, 16, 16, 8].getD f 0
def lr_mt (f : Nat) : Nat := if f = 1 ∨ f = 14 ∨ f = 23 ∨ f = 35 then 1 else 0
def lr_rs (f : Nat → Option Nat) : (Nat → Int32) ⊕ (Nat → Int64) ⊕ (Nat → UInt32) ⊕ (Nat → UInt64) ⊕ (Nat → Option Nat) := .inr (.inr (.inr (.inr f)))
def lr_cellF (ad : Nat → Nat → Nat) (aC : Nat → ClassId) (f : Nat → Int32) (pi : Nat → Nat) (k i : Nat) : va_E := match k with
  | 0 => .inr (6, [.ref (ad 1 0), .ref (ad 4 0), .ref (ad 3 32), .int (f 3), .int (f 4)])
  | 1 => .inr (1, [.int (f 0), .int (f 1), .ref (ad 2 0)])
  | 2 => .inl (aC 2, 32, lr_rs (fun j => some (ad 3 (pi j))))
  | 3 => .inr (0, [.int (f 0), .int (f 1), .int (f 2), .int (f 3), .int (f 4), .int (f 5)])
  | 4 => .inl (aC 3, 4, lr_rs (fun j => some (ad 5 j)))
  | 5 => .inr (2, [.int (f 0), .ref (ad 1 0), .ref (ad 6 i), .ref (ad 11 i), .ref (ad 12 i), .ref (ad 14 i), .ref (ad 15 i), .ref (ad 16 i), .int (f 8), .int (f 9)])
  | 6 => .inl (aC 5, 8, lr_rs (fun j => some (ad 7 (8 * i + j))))
  | 7 => .inr (5, [.int (f 0), .int (f 1), .int (f 2), .ref (ad 8 i), .ref (ad 9 i), .ref (ad 10 i), .int (f 6), .int (f 7), .int (f 8), .int (f 9), .int (f 10), .int (f 11), .int (f 12)])
  | 8 => .inl (aC 0, 2, .inl f)
  | 9 => .inl (aC 0, 4, .inl f)
  | 10 => .inl (aC 0, 4, .inl f)
  | 11 => .inl (aC 0, 3, .inl f)
  | 12 => .inl (aC 4, 6, lr_rs (fun j => some (ad 13 (6 * i + j))))
  | 13 => .inr (3, [.int (f 0), .int (f 1), .int (f 2)])
  | 14 => .inr (4, [.int (f 0), .int (f 1), .int (f 2), .int (f 3), .int (f 4), .int (f 5)])
  | 15 => .inl (aC 2, 4, lr_rs (fun j => some (ad 3 (33 + 4 * i + j))))
  | 16 => .inl (aC 1, 8, .inl f)
  | 17 => .inl (aC 0, 0, .inl f)
  | 18 => .inl (aC 0, 0, .inl f)
  | 19 => .inl (aC 0, 0, .inl f)
  | 20 => .inr (7, [.int (f 0), .ref (ad 21 0), .ref (ad 22 0), .ref (ad 23 0), .ref (ad 24 0), .ref (ad 25 0), .ref (ad 26 0), .ref (ad 27 0), .ref (ad 28 0), .ref (ad 29 0), .ref (ad 30 0), .ref (ad 31 0), .ref (ad 32 0), .ref (ad 33 0), .ref (ad 34 0), .ref (ad 35 0), .ref (ad 36 0), .int (f 17), .ref (ad 38 0), .int (f 19), .ref (ad 40 0), .ref (ad 41 0), .ref (ad 42 0), .ref (ad 43 0), .int (f 24), .ref (ad 45 0), .ref (ad 46 0), .ref (ad 47 0), .ref (ad 48 0), .ref (ad 49 0), .ref (ad 50 0), .ref (ad 51 0), .ref (ad 52 0), .ref (ad 53 0), .ref (ad 54 0), .ref (ad 55 0)])
  | k + 21 => .inl (aC (lr_mt (k + 1)), lr_ml (k + 1), .inl f)
def lr_cell (ad : Nat → Nat → Nat) (aC : Nat → ClassId) (t : lr_S) (k i : Nat) : va_E := lr_cellF ad aC (t.1 k i) t.2 k i
def lr_ok (lo hi k i : Nat) : Prop := lo ≤ k ∧ k < hi ∧ i < lr_n k
def lr_okv (lo hi : Nat) (v : lr_V) : Prop := match v with
  | .inl _ => True
  | .inr r => lr_ok lo hi r.1 r.2
def lr_W (lo hi : Nat) (D : va_G) (aC : Nat → ClassId) (ad : Nat → Nat → Nat) (t : lr_S) (H : Heap) : Prop := ∀ k i, lr_ok lo hi k i → va_at D lr_cl (ad k i, lr_cell ad aC t k i) H
def lr_inj (lo hi : Nat) (ad : Nat → Nat → Nat) : Prop := ∀ k i k' i', lr_ok lo hi k i → lr_ok lo hi k' i' → ad k i = ad k' i' → k = k' ∧ i = i'
def lr_A (lo hi : Nat) (ad : Nat → Nat → Nat) : Nat → Prop := fun q => ∃ k i, lr_ok lo hi k i ∧ q = ad k i
def lr_tys (aC : Nat → ClassId) : List (ClassId × FieldType) := [(aC 0, .int), (aC 1, .boolean), (aC 2, .object lr_R0), (aC 3, .object lr_R2), (aC 4, .object lr_R3), (aC 5, .object lr_R5)]
def lr_rm (fr lc : Nat) : Room := { frames := fr, cells := 0, slots := 0, locals := lc }
def lr_rd (t : lr_S) (k i j : Nat) : Int32 := t.1 k i j
def lr_wr (t : lr_S) (k i j : Nat) (v : Int32) : lr_S := (fun k' i' j' => if k' = k ∧ i' = i ∧ j' = j then v else t.1 k' i' j', t.2)
def lr_wp (t : lr_S) (j r : Nat) : lr_S := (t.1, fun j' => if j' = j then r else t.2 j')
def lr_in (i : Int32) (n : Nat) : Bool := decide (0 ≤ i.toInt) && decide (i.toInt < n)
theorem lr_in_vp {i : Int32} {n : Nat} (h : lr_in i n = true) : vp_in i n := by
  simp only [lr_in, Bool.and_eq_true, decide_eq_true_eq] at h
  exact vp_in_iff.mpr h
theorem lr_in_lt {i : Int32} {n : Nat} (h : lr_in i n = true) : i.toNatClampNeg < n := Nat.not_le.mp fun q => lr_in_vp h (Or.inr q)
theorem lr_cell_wr_ne {ad : Nat → Nat → Nat} {aC : Nat → ClassId} {t : lr_S} {k i j k' i' : Nat} {v : Int32} (h : ¬ (k' = k ∧ i' = i)) : lr_cell ad aC (lr_wr t k i j v) k' i' = lr_cell ad aC t k' i' := by
  have e : (lr_wr t k i j v).1 k' i' = t.1 k' i' := by
    funext j'
    exact if_neg (fun q => h ⟨q.1, q.2.1⟩)
  unfold lr_cell
  rw [e]
  rfl
theorem lr_cell_wr_eq {ad : Nat → Nat → Nat} {aC : Nat → ClassId} {t : lr_S} {k i j : Nat} {v : Int32} : lr_cell ad aC (lr_wr t k i j v) k i = lr_cellF ad aC (upd (t.1 k i) j v) t.2 k i := by
  have e : (lr_wr t k i j v).1 k i = upd (t.1 k i) j v := by
    funext j'
    by_cases hj : j' = j
    · simp [lr_wr, upd, hj]
    · simp [lr_wr, upd, hj]
  unfold lr_cell
  rw [e]
  rfl
theorem lr_W_wr {lo hi : Nat} {D : va_G} {aC : Nat → ClassId} {ad : Nat → Nat → Nat} {t : lr_S} {H H1 : Heap} {k i j : Nat} {v : Int32} (hi' : lr_inj lo hi ad) (hk : lr_ok lo hi k i) (h : lr_W lo hi D aC ad t H) (hq : ∀ q : Nat, q ≠ ad k i → H1[q]? = H[q]?) (hn : va_at D lr_cl (ad k i, lr_cellF ad aC (upd (t.1 k i) j v) t.2 k i) H1) : lr_W lo hi D aC ad (lr_wr t k i j v) H1 := by
  intro k' i' hk'
  by_cases e : k' = k ∧ i' = i
  · obtain ⟨rfl, rfl⟩ := e
    rw [lr_cell_wr_eq]
    exact hn
  · rw [lr_cell_wr_ne e]
    exact (h k' i' hk').kept (hq _ (fun z => e (hi' _ _ _ _ hk' hk z)))
theorem lr_cellF_pi {ad : Nat → Nat → Nat} {aC : Nat → ClassId} {f : Nat → Int32} {pi pi' : Nat → Nat} {k i : Nat} (h : k ≠ 2) : lr_cellF ad aC f pi k i = lr_cellF ad aC f pi' k i := by
  unfold lr_cellF
  split <;> first | rfl | exact absurd rfl h
theorem lr_W_wp {lo hi : Nat} {D : va_G} {aC : Nat → ClassId} {ad : Nat → Nat → Nat} {t : lr_S} {H H1 : Heap} {j r : Nat} (hi' : lr_inj lo hi ad) (hk : lr_ok lo hi 2 0) (h : lr_W lo hi D aC ad t H) (hq : ∀ q : Nat, q ≠ ad 2 0 → H1[q]? = H[q]?) (hn : va_at D lr_cl (ad 2 0, lr_cell ad aC (lr_wp t j r) 2 0) H1) : lr_W lo hi D aC ad (lr_wp t j r) H1 := by
  intro k' i' hk'
  by_cases e : k' = 2
  · subst e
    have hi0 : i' = 0 := by
      have := hk'.2.2
      simp [lr_n] at this
      exact this
    subst hi0
    exact hn
  · have e2 : lr_cell ad aC (lr_wp t j r) k' i' = lr_cell ad aC t k' i' := lr_cellF_pi e
    rw [e2]
    exact (h k' i' hk').kept (hq _ (fun z => e (hi' _ _ _ _ hk' hk z).1))
/-- all that stands still while a method runs -/
abbrev lr_X : Type := Program × Launch × Env × Nat × Nat × State × MethodId × Array Value × List Frame × Method × Code × (State → Prop) × va_G × (Nat → ClassId) × (Nat → Nat → Nat) × Heap × Nat × Nat × Nat
def lr_lm (ad : Nat → Nat → Nat) (ls : List (Nat × lr_V)) : List (Nat × Value) := ls.map (fun q => (q.1, lr_rv ad q.2))
/-- the machine at pc with these locals, this stack, this state of the cells comes to its end -/
def lr_T : lr_X → Nat → List (Nat × lr_V) → List lr_V → lr_S → Prop
  | (p, l, e, fr, lc, s, m, args, below, meth, c, Q, D, aC, ad, H0, nL, lo, hi), pc, ls, st, t => (∀ q ∈ ls, lr_okv lo hi q.2) → (∀ v ∈ st, lr_okv lo hi v) → ∀ (H : Heap) (locs : List Loc) (la : Array Slot), lr_W lo hi D aC ad t H → va_S (lr_A lo hi ad) H0 H locs → lv_has la nL (lr_lm ad ls) → W p l e (lr_rm fr lc) s m args below meth c H locs 0 0 Q (F0 m pc la (st.map (lr_rv ad)))
def lr_C : lr_X → ByteArray → String → Nat → Nat → Nat → Nat → Nat → Prop
  | (p, l, e, fr, lc, s, m, args, below, meth, c, Q, D, aC, ad, H0, nL, lo, hi), cc, own, nL', fr', lc', lo', hi' => p.tables.exec = Jvm.exec ∧ c.code = cc ∧ c.maxLocals = nL ∧ s.vm.findClass own = some m.cls ∧ (∀ w ∈ lr_tb, w.before args s = true) ∧ va_K D lr_cl (lr_tys aC) s ∧ lr_inj lo hi ad ∧ nL = nL' ∧ fr = fr' ∧ lc = lc' ∧ lo = lo' ∧ hi = hi'
/-- the end that is wanted: an int, or nothing, and a state -/
def lr_EI : lr_X → FieldType → Int32 → lr_S → Prop
  | (p, l, e, fr, lc, s, m, args, below, meth, c, Q, D, aC, ad, H0, nL, lo, hi), ty, r, t => Q = MQ below (va_Qi (fun r' (_ : Unit) => r' = r) (fun _ u => lr_W lo hi D aC ad t u.heap) (lr_A lo hi ad)) args s 0 0 (lr_A lo hi ad) ∧ meth.sig.returnType = some ty ∧ meth.locks = false ∧ H0 = s.heap
def lr_EV : lr_X → lr_S → Prop
  | (p, l, e, fr, lc, s, m, args, below, meth, c, Q, D, aC, ad, H0, nL, lo, hi), t => Q = MQ below (va_Qv (fun (_ : Unit) => True) (fun _ u => lr_W lo hi D aC ad t u.heap) (lr_A lo hi ad)) args s 0 0 (lr_A lo hi ad) ∧ meth.sig.returnType = none ∧ meth.locks = false ∧ H0 = s.heap
def lr_Pc (lo hi : Nat) (D : va_G) (aC : Nat → ClassId) (ad : Nat → Nat → Nat) (as : List lr_V) (t : lr_S) : Array Value → State → Prop := fun v U => v = (as.map (lr_rv ad)).toArray ∧ lr_W lo hi D aC ad t U.heap ∧ va_K D lr_cl (lr_tys aC) U
theorem lr_Pc_blind {lo hi : Nat} {D : va_G} {aC : Nat → ClassId} {ad : Nat → Nat → Nat} {as : List lr_V} {t : lr_S} : FrameBlind (lr_Pc lo hi D aC ad as t) := fun a U g mk q => ⟨q.1, q.2.1, va_K.moved (u := U) (U := U.calling g mk a) (Vm.Alike.refl U.vm) q.2.2⟩
/-- what a method does: with these values, from t: the answer r, and t' -/
def lr_RI (lo hi : Nat) (M : lr_M) (as : List lr_V) (t : lr_S) (r : Int32) (t' : lr_S) : Prop := ∀ (l : Launch) (D : va_G) (aC : Nat → ClassId) (ad : Nat → Nat → Nat), lr_inj lo hi ad → (∀ v ∈ as, lr_okv lo hi v) → Met l M.1 (.code M.1 M.2.1 M.2.2.1 M.2.2.2.1 :: lr_tb) (lr_rm M.2.2.2.2.1 M.2.2.2.2.2) (lr_Pc lo hi D aC ad as t) (va_Qi (fun r' (_ : Unit) => r' = r) (fun _ u => lr_W lo hi D aC ad t' u.heap) (lr_A lo hi ad)) 0 0 (lr_A lo hi ad)
def lr_RV (lo hi : Nat) (M : lr_M) (as : List lr_V) (t : lr_S) (t' : lr_S) : Prop := ∀ (l : Launch) (D : va_G) (aC : Nat → ClassId) (ad : Nat → Nat → Nat), lr_inj lo hi ad → (∀ v ∈ as, lr_okv lo hi v) → Met l M.1 (.code M.1 M.2.1 M.2.2.1 M.2.2.2.1 :: lr_tb) (lr_rm M.2.2.2.2.1 M.2.2.2.2.2) (lr_Pc lo hi D aC ad as t) (va_Qv (fun (_ : Unit) => True) (fun _ u => lr_W lo hi D aC ad t' u.heap) (lr_A lo hi ad)) 0 0 (lr_A lo hi ad)
def lr_args : Nat → List lr_V → List (Nat × lr_V)
  | _, [] => []
  | i, v :: vs => (i, v) :: lr_args (i + 1) vs
theorem lr_cat (ad : Nat → Nat → Nat) (v : lr_V) : (lr_rv ad v).category = 1 := by
  rcases v with x | r <;> rfl
theorem lr_args_lm (ad : Nat → Nat → Nat) : ∀ (vs : List lr_V) (i : Nat), lv_args i (vs.map (lr_rv ad)) = lr_lm ad (lr_args i vs)
  | [], _ => rfl
  | v :: vs, i => by
    have ih := lr_args_lm ad vs (i + 1)
    simp only [List.map_cons, lv_args, lr_cat, lr_args, lr_lm]
    rw [if_neg (by decide), ih]
    rfl
theorem lr_args_ok {lo hi : Nat} : ∀ (vs : List lr_V) (i : Nat), (∀ v ∈ vs, lr_okv lo hi v) → ∀ q ∈ lr_args i vs, lr_okv lo hi q.2
  | [], _, _, q, hq => by cases hq
  | v :: vs, i, h, q, hq => by
    rcases List.mem_cons.mp hq with rfl | hq
    · exact h _ List.mem_cons_self
    · exact lr_args_ok vs (i + 1) (fun u hu => h u (List.mem_cons_of_mem _ hu)) q hq
theorem lr_sl_len (ad : Nat → Nat → Nat) : ∀ (vs : List lr_V), (lg_sl (vs.map (lr_rv ad))).length = vs.length
  | [] => rfl
  | v :: vs => by
    have ih := lr_sl_len ad vs
    simp only [List.map_cons, lg_sl, List.flatMap_cons, lr_cat, List.length_append, List.length_cons]
    rw [if_neg (by decide)]
    simp only [lg_sl] at ih
    rw [ih]
    simp [Nat.add_comm]
theorem lr_ofI {lo hi : Nat} {M : lr_M} {own : String} {as : List lr_V} {t : lr_S} {r : Int32} {t' : lr_S} {ty : FieldType} (hy : plainName M.1.cls = true) (hty : M.2.2.2.1 = some ty) (hown : M.1.cls = own) (hn : as.length ≤ M.2.2.1)
    (body : ∀ X : lr_X, lr_C X M.2.1 own M.2.2.1 M.2.2.2.2.1 M.2.2.2.2.2 lo hi → lr_EI X ty r t' → lr_T X 0 (lr_args 0 as) [] t) : lr_RI lo hi M as t r t' := by
  intro l D aC ad hinj hok
  refine Met.ofW (cc := M.2.1) (maxL := M.2.2.1) (ret := M.2.2.2.1) hy rfl ?_
  intro p e s m args below meth c s₁ B hml hv
  obtain ⟨rfl, hW, hK⟩ := hv
  have hts := atoms_spec (ws := .code M.1 M.2.1 M.2.2.1 M.2.2.2.1 :: lr_tb) B.pre
  have hl := lv_entry (as.map (lr_rv ad)) (n := M.2.2.1) (by rw [lr_sl_len]; exact hn)
  rw [lg_entry_eq]
  rw [lr_args_lm] at hl
  exact body (p, l, e, M.2.2.2.2.1, M.2.2.2.2.2, s, m, (as.map (lr_rv ad)).toArray, below, meth, c, _, D, aC, ad, s.heap, M.2.2.1, lo, hi) ⟨B.exec, B.bytes, hml, by rw [← hown]; exact findClass_of_methodNamed B.named, fun w h => hts w (List.mem_cons_of_mem _ h), hK, hinj, rfl, rfl, rfl, rfl, rfl⟩ ⟨rfl, by rw [← hty]; exact B.returns, B.notSynchronized, rfl⟩ (lr_args_ok as 0 hok) (fun v h => by cases h) s.heap [] _ hW va_S.rf hl
theorem lr_ofV {lo hi : Nat} {M : lr_M} {own : String} {as : List lr_V} {t : lr_S} {t' : lr_S} (hy : plainName M.1.cls = true) (hty : M.2.2.2.1 = none) (hown : M.1.cls = own) (hn : as.length ≤ M.2.2.1)
    (body : ∀ X : lr_X, lr_C X M.2.1 own M.2.2.1 M.2.2.2.2.1 M.2.2.2.2.2 lo hi → lr_EV X t' → lr_T X 0 (lr_args 0 as) [] t) : lr_RV lo hi M as t t' := by
  intro l D aC ad hinj hok
  refine Met.ofW (cc := M.2.1) (maxL := M.2.2.1) (ret := M.2.2.2.1) hy rfl ?_
  intro p e s m args below meth c s₁ B hml hv
  obtain ⟨rfl, hW, hK⟩ := hv
  have hts := atoms_spec (ws := .code M.1 M.2.1 M.2.2.1 M.2.2.2.1 :: lr_tb) B.pre
  have hl := lv_entry (as.map (lr_rv ad)) (n := M.2.2.1) (by rw [lr_sl_len]; exact hn)
  rw [lg_entry_eq]
  rw [lr_args_lm] at hl
  exact body (p, l, e, M.2.2.2.2.1, M.2.2.2.2.2, s, m, (as.map (lr_rv ad)).toArray, below, meth, c, _, D, aC, ad, s.heap, M.2.2.1, lo, hi) ⟨B.exec, B.bytes, hml, by rw [← hown]; exact findClass_of_methodNamed B.named, fun w h => hts w (List.mem_cons_of_mem _ h), hK, hinj, rfl, rfl, rfl, rfl, rfl⟩ ⟨rfl, by rw [← hty]; exact B.returns, B.notSynchronized, rfl⟩ (lr_args_ok as 0 hok) (fun v h => by cases h) s.heap [] _ hW va_S.rf hl
theorem lr_okc {lo hi : Nat} {v : lr_V} {st : List lr_V} (h : lr_okv lo hi v) (hs : ∀ u ∈ st, lr_okv lo hi u) : ∀ u ∈ v :: st, lr_okv lo hi u := by
  intro u hu
  rcases List.mem_cons.mp hu with rfl | hu
  · exact h
  · exact hs u hu
theorem lr_tl {lo hi : Nat} {v : lr_V} {st : List lr_V} (hs : ∀ u ∈ v :: st, lr_okv lo hi u) : ∀ u ∈ st, lr_okv lo hi u := fun u hu => hs u (List.mem_cons_of_mem _ hu)
theorem lr_hd {lo hi : Nat} {v : lr_V} {st : List lr_V} (hs : ∀ u ∈ v :: st, lr_okv lo hi u) : lr_okv lo hi v := hs _ List.mem_cons_self
theorem lr_lk {ad : Nat → Nat → Nat} {ls : List (Nat × lr_V)} {k i : Nat} {v : lr_V} (h : ls[k]? = some (i, v)) : (lr_lm ad ls)[k]? = some (i, lr_rv ad v) := by
  simp [lr_lm, List.getElem?_map, h]
theorem lr_fil (ad : Nat → Nat → Nat) (i : Nat) : ∀ ls : List (Nat × lr_V), (lr_lm ad ls).filter (fun q => !(q.1 == i) && !(q.1 + 1 == i && q.2.category == 2)) = lr_lm ad (ls.filter (fun q => !(q.1 == i)))
  | [] => rfl
  | q :: ls => by
    have ih := lr_fil ad i ls
    have hc : ((lr_rv ad q.2).category == 2) = false := by rw [lr_cat]; rfl
    by_cases h : q.1 = i
    · simp only [lr_lm, List.map_cons, List.filter_cons, h, hc] at ih ⊢
      simpa using ih
    · simp only [lr_lm, List.map_cons, List.filter_cons, hc] at ih ⊢
      simp [h]
      simpa using ih
theorem lr_flk {lo hi : Nat} {i : Nat} {v : lr_V} {ls : List (Nat × lr_V)} (hv : lr_okv lo hi v) (h : ∀ q ∈ ls, lr_okv lo hi q.2) : ∀ q ∈ (i, v) :: ls.filter (fun q => !(q.1 == i)), lr_okv lo hi q.2 := by
  intro q hq
  rcases List.mem_cons.mp hq with rfl | hq
  · exact hv
  · exact h q (List.mem_filter.mp hq).1
/-! what a computed 'if', guard or step has given -/
theorem lr_ps {α : Type} {c : Prop} [Decidable c] {a b : Option α} {o : α} (hc : c) (h : (if c then a else b) = some o) : a = some o := by rw [if_pos hc] at h; exact h
theorem lr_ng {α : Type} {c : Prop} [Decidable c] {a b : Option α} {o : α} (hc : ¬ c) (h : (if c then a else b) = some o) : b = some o := by rw [if_neg hc] at h; exact h
theorem lr_gd {α : Type} {c : Prop} [Decidable c] {a : Option α} {o : α} (h : (if c then a else none) = some o) : c ∧ a = some o := by
  by_cases hc : c
  · rw [if_pos hc] at h
    exact ⟨hc, h⟩
  · rw [if_neg hc] at h
    cases h
theorem lr_bd {α β : Type} {x : Option α} {f : α → Option β} {o : β} (h : x.bind f = some o) : ∃ u, x = some u ∧ f u = some o := by
  cases x with
  | none => cases h
  | some u => exact ⟨u, rfl, h⟩

theorem lr_iconst {X : lr_X} {cc : ByteArray} {own : String} {nL fr lc lo hi : Nat} (C : lr_C X cc own nL fr lc lo hi) {pc : Nat} {ls : List (Nat × lr_V)} {st : List lr_V} {t : lr_S} {n : Int} {v : Int32} (hd : decode cc pc = .ok (.iconst n, 1)) (hv : Int32.ofInt n = v) (kk : lr_T X (pc + 1) ls (.inl v :: st) t) : lr_T X pc ls st t := by
  obtain ⟨p, l, e, fr', lc', s, m, args, below, meth, c, Q, D, aC, ad, H0, nL', lo', hi'⟩ := X
  obtain ⟨hx, hb, hml, hown, hts, hK, hinj, rfl, rfl, rfl, rfl, rfl⟩ := C
  intro o1 o2 H locs la hW hS hl'
  exact lv_iconst hx hb hd hv (kk o1 (lr_okc trivial o2) H locs la hW hS hl')
theorem lr_bipush {X : lr_X} {cc : ByteArray} {own : String} {nL fr lc lo hi : Nat} (C : lr_C X cc own nL fr lc lo hi) {pc : Nat} {ls : List (Nat × lr_V)} {st : List lr_V} {t : lr_S} {n : Int} {v : Int32} (hd : decode cc pc = .ok (.bipush n, 2)) (hv : (Int8.ofInt n).toInt32 = v) (kk : lr_T X (pc + 2) ls (.inl v :: st) t) : lr_T X pc ls st t := by
  obtain ⟨p, l, e, fr', lc', s, m, args, below, meth, c, Q, D, aC, ad, H0, nL', lo', hi'⟩ := X
  obtain ⟨hx, hb, hml, hown, hts, hK, hinj, rfl, rfl, rfl, rfl, rfl⟩ := C
  intro o1 o2 H locs la hW hS hl'
  exact lv_bipush hx hb hd hv (kk o1 (lr_okc trivial o2) H locs la hW hS hl')
theorem lr_iload {X : lr_X} {cc : ByteArray} {own : String} {nL fr lc lo hi : Nat} (C : lr_C X cc own nL fr lc lo hi) {pc : Nat} {ls : List (Nat × lr_V)} {st : List lr_V} {t : lr_S} {i : Nat} {x : Int32} (hd : decode cc pc = .ok (.iload i, 2)) (k : Nat) (hl : ls[k]? = some (i, .inl x)) (kk : lr_T X (pc + 2) ls (.inl x :: st) t) : lr_T X pc ls st t := by
  obtain ⟨p, l, e, fr', lc', s, m, args, below, meth, c, Q, D, aC, ad, H0, nL', lo', hi'⟩ := X
  obtain ⟨hx, hb, hml, hown, hts, hK, hinj, rfl, rfl, rfl, rfl, rfl⟩ := C
  intro o1 o2 H locs la hW hS hl'
  exact lv_iload hx hb hd (lv_at hl' k (lr_lk hl)) (kk o1 (lr_okc trivial o2) H locs la hW hS hl')
theorem lr_iload_n {X : lr_X} {cc : ByteArray} {own : String} {nL fr lc lo hi : Nat} (C : lr_C X cc own nL fr lc lo hi) {pc : Nat} {ls : List (Nat × lr_V)} {st : List lr_V} {t : lr_S} {n : Fin 4} {i : Nat} {x : Int32} (hd : decode cc pc = .ok (.iload_n n, 1)) (hn : (n : Nat) = i) (k : Nat) (hl : ls[k]? = some (i, .inl x)) (kk : lr_T X (pc + 1) ls (.inl x :: st) t) : lr_T X pc ls st t := by
  obtain ⟨p, l, e, fr', lc', s, m, args, below, meth, c, Q, D, aC, ad, H0, nL', lo', hi'⟩ := X
  obtain ⟨hx, hb, hml, hown, hts, hK, hinj, rfl, rfl, rfl, rfl, rfl⟩ := C
  intro o1 o2 H locs la hW hS hl'
  exact lv_iload_n hx hb hd hn (lv_at hl' k (lr_lk hl)) (kk o1 (lr_okc trivial o2) H locs la hW hS hl')
theorem lr_istore {X : lr_X} {cc : ByteArray} {own : String} {nL fr lc lo hi : Nat} (C : lr_C X cc own nL fr lc lo hi) {pc : Nat} {ls : List (Nat × lr_V)} {st : List lr_V} {t : lr_S} {i : Nat} {x : Int32} {ls' : List (Nat × lr_V)} (hd : decode cc pc = .ok (.istore i, 2)) (hi2 : i < nL) (hl : (i, (.inl x : lr_V)) :: ls.filter (fun q => !(q.1 == i)) = ls') (kk : lr_T X (pc + 2) ls' st t) : lr_T X pc ls (.inl x :: st) t := by
  obtain ⟨p, l, e, fr', lc', s, m, args, below, meth, c, Q, D, aC, ad, H0, nL', lo', hi'⟩ := X
  obtain ⟨hx, hb, hml, hown, hts, hK, hinj, rfl, rfl, rfl, rfl, rfl⟩ := C
  intro o1 o2 H locs la hW hS hl'
  subst hl
  exact lv_istore hx hb hd hl' hi2 (congrArg _ (lr_fil ad i ls)) (fun la' hla => kk (lr_flk trivial o1) (lr_tl o2) H locs la' hW hS hla)
theorem lr_istore_n {X : lr_X} {cc : ByteArray} {own : String} {nL fr lc lo hi : Nat} (C : lr_C X cc own nL fr lc lo hi) {pc : Nat} {ls : List (Nat × lr_V)} {st : List lr_V} {t : lr_S} {n : Fin 4} {i : Nat} {x : Int32} {ls' : List (Nat × lr_V)} (hd : decode cc pc = .ok (.istore_n n, 1)) (hn : (n : Nat) = i) (hi2 : i < nL) (hl : (i, (.inl x : lr_V)) :: ls.filter (fun q => !(q.1 == i)) = ls') (kk : lr_T X (pc + 1) ls' st t) : lr_T X pc ls (.inl x :: st) t := by
  obtain ⟨p, l, e, fr', lc', s, m, args, below, meth, c, Q, D, aC, ad, H0, nL', lo', hi'⟩ := X
  obtain ⟨hx, hb, hml, hown, hts, hK, hinj, rfl, rfl, rfl, rfl, rfl⟩ := C
  intro o1 o2 H locs la hW hS hl'
  subst hl
  exact lv_istore_n hx hb hd hn hl' hi2 (congrArg _ (lr_fil ad i ls)) (fun la' hla => kk (lr_flk trivial o1) (lr_tl o2) H locs la' hW hS hla)
theorem lr_aload {X : lr_X} {cc : ByteArray} {own : String} {nL fr lc lo hi : Nat} (C : lr_C X cc own nL fr lc lo hi) {pc : Nat} {ls : List (Nat × lr_V)} {st : List lr_V} {t : lr_S} {i : Nat} {r : Nat × Nat} (hd : decode cc pc = .ok (.aload i, 2)) (k : Nat) (hl : ls[k]? = some (i, .inr r)) (kk : lr_T X (pc + 2) ls (.inr r :: st) t) : lr_T X pc ls st t := by
  obtain ⟨p, l, e, fr', lc', s, m, args, below, meth, c, Q, D, aC, ad, H0, nL', lo', hi'⟩ := X
  obtain ⟨hx, hb, hml, hown, hts, hK, hinj, rfl, rfl, rfl, rfl, rfl⟩ := C
  intro o1 o2 H locs la hW hS hl'
  exact lv_aload hx hb hd (lv_at hl' k (lr_lk hl)) (kk o1 (lr_okc (o1 _ (List.mem_of_getElem? hl)) o2) H locs la hW hS hl')
theorem lr_aload_n {X : lr_X} {cc : ByteArray} {own : String} {nL fr lc lo hi : Nat} (C : lr_C X cc own nL fr lc lo hi) {pc : Nat} {ls : List (Nat × lr_V)} {st : List lr_V} {t : lr_S} {n : Fin 4} {i : Nat} {r : Nat × Nat} (hd : decode cc pc = .ok (.aload_n n, 1)) (hn : (n : Nat) = i) (k : Nat) (hl : ls[k]? = some (i, .inr r)) (kk : lr_T X (pc + 1) ls (.inr r :: st) t) : lr_T X pc ls st t := by
  obtain ⟨p, l, e, fr', lc', s, m, args, below, meth, c, Q, D, aC, ad, H0, nL', lo', hi'⟩ := X
  obtain ⟨hx, hb, hml, hown, hts, hK, hinj, rfl, rfl, rfl, rfl, rfl⟩ := C
  intro o1 o2 H locs la hW hS hl'
  exact lv_aload_n hx hb hd hn (lv_at hl' k (lr_lk hl)) (kk o1 (lr_okc (o1 _ (List.mem_of_getElem? hl)) o2) H locs la hW hS hl')
theorem lr_astore {X : lr_X} {cc : ByteArray} {own : String} {nL fr lc lo hi : Nat} (C : lr_C X cc own nL fr lc lo hi) {pc : Nat} {ls : List (Nat × lr_V)} {st : List lr_V} {t : lr_S} {i : Nat} {r : Nat × Nat} {ls' : List (Nat × lr_V)} (hd : decode cc pc = .ok (.astore i, 2)) (hi2 : i < nL) (hl : (i, (.inr r : lr_V)) :: ls.filter (fun q => !(q.1 == i)) = ls') (kk : lr_T X (pc + 2) ls' st t) : lr_T X pc ls (.inr r :: st) t := by
  obtain ⟨p, l, e, fr', lc', s, m, args, below, meth, c, Q, D, aC, ad, H0, nL', lo', hi'⟩ := X
  obtain ⟨hx, hb, hml, hown, hts, hK, hinj, rfl, rfl, rfl, rfl, rfl⟩ := C
  intro o1 o2 H locs la hW hS hl'
  subst hl
  exact lv_astore hx hb hd hl' hi2 (congrArg _ (lr_fil ad i ls)) (fun la' hla => kk (lr_flk (lr_hd o2) o1) (lr_tl o2) H locs la' hW hS hla)
theorem lr_astore_n {X : lr_X} {cc : ByteArray} {own : String} {nL fr lc lo hi : Nat} (C : lr_C X cc own nL fr lc lo hi) {pc : Nat} {ls : List (Nat × lr_V)} {st : List lr_V} {t : lr_S} {n : Fin 4} {i : Nat} {r : Nat × Nat} {ls' : List (Nat × lr_V)} (hd : decode cc pc = .ok (.astore_n n, 1)) (hn : (n : Nat) = i) (hi2 : i < nL) (hl : (i, (.inr r : lr_V)) :: ls.filter (fun q => !(q.1 == i)) = ls') (kk : lr_T X (pc + 1) ls' st t) : lr_T X pc ls (.inr r :: st) t := by
  obtain ⟨p, l, e, fr', lc', s, m, args, below, meth, c, Q, D, aC, ad, H0, nL', lo', hi'⟩ := X
  obtain ⟨hx, hb, hml, hown, hts, hK, hinj, rfl, rfl, rfl, rfl, rfl⟩ := C
  intro o1 o2 H locs la hW hS hl'
  subst hl
  exact lv_astore_n hx hb hd hn hl' hi2 (congrArg _ (lr_fil ad i ls)) (fun la' hla => kk (lr_flk (lr_hd o2) o1) (lr_tl o2) H locs la' hW hS hla)
theorem lr_iinc {X : lr_X} {cc : ByteArray} {own : String} {nL fr lc lo hi : Nat} (C : lr_C X cc own nL fr lc lo hi) {pc : Nat} {ls : List (Nat × lr_V)} {st : List lr_V} {t : lr_S} {i : Nat} {n : Int} {x v : Int32} {ls' : List (Nat × lr_V)} (hd : decode cc pc = .ok (.iinc i n, 3)) (k : Nat) (hk : ls[k]? = some (i, .inl x)) (hv : x + Int32.ofInt n = v) (hi2 : i < nL) (hl : (i, (.inl v : lr_V)) :: ls.filter (fun q => !(q.1 == i)) = ls') (kk : lr_T X (pc + 3) ls' st t) : lr_T X pc ls st t := by
  obtain ⟨p, l, e, fr', lc', s, m, args, below, meth, c, Q, D, aC, ad, H0, nL', lo', hi'⟩ := X
  obtain ⟨hx, hb, hml, hown, hts, hK, hinj, rfl, rfl, rfl, rfl, rfl⟩ := C
  intro o1 o2 H locs la hW hS hl'
  subst hl
  exact lv_iinc hx hb hd hl' (lr_lk hk) hv hi2 (congrArg _ (lr_fil ad i ls)) (fun la' hla => kk (lr_flk trivial o1) o2 H locs la' hW hS hla)
theorem lr_iadd {X : lr_X} {cc : ByteArray} {own : String} {nL fr lc lo hi : Nat} (C : lr_C X cc own nL fr lc lo hi) {pc : Nat} {ls : List (Nat × lr_V)} {st : List lr_V} {t : lr_S} {x y : Int32} (hd : decode cc pc = .ok (.iadd, 1)) (kk : lr_T X (pc + 1) ls (.inl (x + y) :: st) t) : lr_T X pc ls (.inl y :: .inl x :: st) t := by
  obtain ⟨p, l, e, fr', lc', s, m, args, below, meth, c, Q, D, aC, ad, H0, nL', lo', hi'⟩ := X
  obtain ⟨hx, hb, hml, hown, hts, hK, hinj, rfl, rfl, rfl, rfl, rfl⟩ := C
  intro o1 o2 H locs la hW hS hl'
  exact lv_iadd hx hb hd (kk o1 (lr_okc trivial (lr_tl (lr_tl o2))) H locs la hW hS hl')
theorem lr_isub {X : lr_X} {cc : ByteArray} {own : String} {nL fr lc lo hi : Nat} (C : lr_C X cc own nL fr lc lo hi) {pc : Nat} {ls : List (Nat × lr_V)} {st : List lr_V} {t : lr_S} {x y : Int32} (hd : decode cc pc = .ok (.isub, 1)) (kk : lr_T X (pc + 1) ls (.inl (x - y) :: st) t) : lr_T X pc ls (.inl y :: .inl x :: st) t := by
  obtain ⟨p, l, e, fr', lc', s, m, args, below, meth, c, Q, D, aC, ad, H0, nL', lo', hi'⟩ := X
  obtain ⟨hx, hb, hml, hown, hts, hK, hinj, rfl, rfl, rfl, rfl, rfl⟩ := C
  intro o1 o2 H locs la hW hS hl'
  exact lv_isub hx hb hd (kk o1 (lr_okc trivial (lr_tl (lr_tl o2))) H locs la hW hS hl')
theorem lr_imul {X : lr_X} {cc : ByteArray} {own : String} {nL fr lc lo hi : Nat} (C : lr_C X cc own nL fr lc lo hi) {pc : Nat} {ls : List (Nat × lr_V)} {st : List lr_V} {t : lr_S} {x y : Int32} (hd : decode cc pc = .ok (.imul, 1)) (kk : lr_T X (pc + 1) ls (.inl (x * y) :: st) t) : lr_T X pc ls (.inl y :: .inl x :: st) t := by
  obtain ⟨p, l, e, fr', lc', s, m, args, below, meth, c, Q, D, aC, ad, H0, nL', lo', hi'⟩ := X
  obtain ⟨hx, hb, hml, hown, hts, hK, hinj, rfl, rfl, rfl, rfl, rfl⟩ := C
  intro o1 o2 H locs la hW hS hl'
  exact lv_imul hx hb hd (kk o1 (lr_okc trivial (lr_tl (lr_tl o2))) H locs la hW hS hl')
theorem lr_iand {X : lr_X} {cc : ByteArray} {own : String} {nL fr lc lo hi : Nat} (C : lr_C X cc own nL fr lc lo hi) {pc : Nat} {ls : List (Nat × lr_V)} {st : List lr_V} {t : lr_S} {x y : Int32} (hd : decode cc pc = .ok (.iand, 1)) (kk : lr_T X (pc + 1) ls (.inl (x &&& y) :: st) t) : lr_T X pc ls (.inl y :: .inl x :: st) t := by
  obtain ⟨p, l, e, fr', lc', s, m, args, below, meth, c, Q, D, aC, ad, H0, nL', lo', hi'⟩ := X
  obtain ⟨hx, hb, hml, hown, hts, hK, hinj, rfl, rfl, rfl, rfl, rfl⟩ := C
  intro o1 o2 H locs la hW hS hl'
  exact lv_iand hx hb hd (kk o1 (lr_okc trivial (lr_tl (lr_tl o2))) H locs la hW hS hl')
theorem lr_idiv {X : lr_X} {cc : ByteArray} {own : String} {nL fr lc lo hi : Nat} (C : lr_C X cc own nL fr lc lo hi) {pc : Nat} {ls : List (Nat × lr_V)} {st : List lr_V} {t : lr_S} {x y : Int32} (hd : decode cc pc = .ok (.idiv, 1)) (hne : ¬ y = 0) (kk : lr_T X (pc + 1) ls (.inl (x / y) :: st) t) : lr_T X pc ls (.inl y :: .inl x :: st) t := by
  obtain ⟨p, l, e, fr', lc', s, m, args, below, meth, c, Q, D, aC, ad, H0, nL', lo', hi'⟩ := X
  obtain ⟨hx, hb, hml, hown, hts, hK, hinj, rfl, rfl, rfl, rfl, rfl⟩ := C
  intro o1 o2 H locs la hW hS hl'
  exact lv_idiv hx hb hd hne (kk o1 (lr_okc trivial (lr_tl (lr_tl o2))) H locs la hW hS hl')
theorem lr_irem {X : lr_X} {cc : ByteArray} {own : String} {nL fr lc lo hi : Nat} (C : lr_C X cc own nL fr lc lo hi) {pc : Nat} {ls : List (Nat × lr_V)} {st : List lr_V} {t : lr_S} {x y : Int32} (hd : decode cc pc = .ok (.irem, 1)) (hne : ¬ y = 0) (kk : lr_T X (pc + 1) ls (.inl (x - x / y * y) :: st) t) : lr_T X pc ls (.inl y :: .inl x :: st) t := by
  obtain ⟨p, l, e, fr', lc', s, m, args, below, meth, c, Q, D, aC, ad, H0, nL', lo', hi'⟩ := X
  obtain ⟨hx, hb, hml, hown, hts, hK, hinj, rfl, rfl, rfl, rfl, rfl⟩ := C
  intro o1 o2 H locs la hW hS hl'
  exact lv_irem hx hb hd hne (kk o1 (lr_okc trivial (lr_tl (lr_tl o2))) H locs la hW hS hl')
theorem lr_dup {X : lr_X} {cc : ByteArray} {own : String} {nL fr lc lo hi : Nat} (C : lr_C X cc own nL fr lc lo hi) {pc : Nat} {ls : List (Nat × lr_V)} {st : List lr_V} {t : lr_S} {v : lr_V} (hd : decode cc pc = .ok (.dup, 1)) (kk : lr_T X (pc + 1) ls (v :: v :: st) t) : lr_T X pc ls (v :: st) t := by
  obtain ⟨p, l, e, fr', lc', s, m, args, below, meth, c, Q, D, aC, ad, H0, nL', lo', hi'⟩ := X
  obtain ⟨hx, hb, hml, hown, hts, hK, hinj, rfl, rfl, rfl, rfl, rfl⟩ := C
  intro o1 o2 H locs la hW hS hl'
  exact lv_dup hx hb hd (lr_cat ad v) (kk o1 (lr_okc (lr_hd o2) o2) H locs la hW hS hl')
theorem lr_dup2 {X : lr_X} {cc : ByteArray} {own : String} {nL fr lc lo hi : Nat} (C : lr_C X cc own nL fr lc lo hi) {pc : Nat} {ls : List (Nat × lr_V)} {st : List lr_V} {t : lr_S} {v w : lr_V} (hd : decode cc pc = .ok (.dup2, 1)) (kk : lr_T X (pc + 1) ls (v :: w :: v :: w :: st) t) : lr_T X pc ls (v :: w :: st) t := by
  obtain ⟨p, l, e, fr', lc', s, m, args, below, meth, c, Q, D, aC, ad, H0, nL', lo', hi'⟩ := X
  obtain ⟨hx, hb, hml, hown, hts, hK, hinj, rfl, rfl, rfl, rfl, rfl⟩ := C
  intro o1 o2 H locs la hW hS hl'
  exact lv_dup2_11 hx hb hd (lr_cat ad v) (lr_cat ad w) (kk o1 (lr_okc (lr_hd o2) (lr_okc (lr_hd (lr_tl o2)) o2)) H locs la hW hS hl')
theorem lr_if_eq {X : lr_X} {cc : ByteArray} {own : String} {nL fr lc lo hi : Nat} (C : lr_C X cc own nL fr lc lo hi) {pc : Nat} {ls : List (Nat × lr_V)} {st : List lr_V} {t : lr_S} {x : Int32} {off : Int} {tgt : Nat} (hd : decode cc pc = .ok (.ifCond .eq off, 3)) (ht : (pc : Int) + off = (tgt : Int)) (kt : x = 0 → lr_T X tgt ls st t) (kf : ¬ x = 0 → lr_T X (pc + 3) ls st t) : lr_T X pc ls (.inl x :: st) t := by
  obtain ⟨p, l, e, fr', lc', s, m, args, below, meth, c, Q, D, aC, ad, H0, nL', lo', hi'⟩ := X
  obtain ⟨hx, hb, hml, hown, hts, hK, hinj, rfl, rfl, rfl, rfl, rfl⟩ := C
  intro o1 o2 H locs la hW hS hl'
  exact lv_if_eq hx hb hd ht (fun h => kt h o1 (lr_tl o2) H locs la hW hS hl') (fun h => kf h o1 (lr_tl o2) H locs la hW hS hl')
theorem lr_if_ne {X : lr_X} {cc : ByteArray} {own : String} {nL fr lc lo hi : Nat} (C : lr_C X cc own nL fr lc lo hi) {pc : Nat} {ls : List (Nat × lr_V)} {st : List lr_V} {t : lr_S} {x : Int32} {off : Int} {tgt : Nat} (hd : decode cc pc = .ok (.ifCond .ne off, 3)) (ht : (pc : Int) + off = (tgt : Int)) (kt : ¬ x = 0 → lr_T X tgt ls st t) (kf : x = 0 → lr_T X (pc + 3) ls st t) : lr_T X pc ls (.inl x :: st) t := by
  obtain ⟨p, l, e, fr', lc', s, m, args, below, meth, c, Q, D, aC, ad, H0, nL', lo', hi'⟩ := X
  obtain ⟨hx, hb, hml, hown, hts, hK, hinj, rfl, rfl, rfl, rfl, rfl⟩ := C
  intro o1 o2 H locs la hW hS hl'
  exact lv_if_ne hx hb hd ht (fun h => kt h o1 (lr_tl o2) H locs la hW hS hl') (fun h => kf h o1 (lr_tl o2) H locs la hW hS hl')
theorem lr_if_lt {X : lr_X} {cc : ByteArray} {own : String} {nL fr lc lo hi : Nat} (C : lr_C X cc own nL fr lc lo hi) {pc : Nat} {ls : List (Nat × lr_V)} {st : List lr_V} {t : lr_S} {x : Int32} {off : Int} {tgt : Nat} (hd : decode cc pc = .ok (.ifCond .lt off, 3)) (ht : (pc : Int) + off = (tgt : Int)) (kt : x < 0 → lr_T X tgt ls st t) (kf : ¬ x < 0 → lr_T X (pc + 3) ls st t) : lr_T X pc ls (.inl x :: st) t := by
  obtain ⟨p, l, e, fr', lc', s, m, args, below, meth, c, Q, D, aC, ad, H0, nL', lo', hi'⟩ := X
  obtain ⟨hx, hb, hml, hown, hts, hK, hinj, rfl, rfl, rfl, rfl, rfl⟩ := C
  intro o1 o2 H locs la hW hS hl'
  exact lv_if_lt hx hb hd ht (fun h => kt h o1 (lr_tl o2) H locs la hW hS hl') (fun h => kf h o1 (lr_tl o2) H locs la hW hS hl')
theorem lr_if_ge {X : lr_X} {cc : ByteArray} {own : String} {nL fr lc lo hi : Nat} (C : lr_C X cc own nL fr lc lo hi) {pc : Nat} {ls : List (Nat × lr_V)} {st : List lr_V} {t : lr_S} {x : Int32} {off : Int} {tgt : Nat} (hd : decode cc pc = .ok (.ifCond .ge off, 3)) (ht : (pc : Int) + off = (tgt : Int)) (kt : 0 ≤ x → lr_T X tgt ls st t) (kf : ¬ 0 ≤ x → lr_T X (pc + 3) ls st t) : lr_T X pc ls (.inl x :: st) t := by
  obtain ⟨p, l, e, fr', lc', s, m, args, below, meth, c, Q, D, aC, ad, H0, nL', lo', hi'⟩ := X
  obtain ⟨hx, hb, hml, hown, hts, hK, hinj, rfl, rfl, rfl, rfl, rfl⟩ := C
  intro o1 o2 H locs la hW hS hl'
  exact lv_if_ge hx hb hd ht (fun h => kt h o1 (lr_tl o2) H locs la hW hS hl') (fun h => kf h o1 (lr_tl o2) H locs la hW hS hl')
theorem lr_if_gt {X : lr_X} {cc : ByteArray} {own : String} {nL fr lc lo hi : Nat} (C : lr_C X cc own nL fr lc lo hi) {pc : Nat} {ls : List (Nat × lr_V)} {st : List lr_V} {t : lr_S} {x : Int32} {off : Int} {tgt : Nat} (hd : decode cc pc = .ok (.ifCond .gt off, 3)) (ht : (pc : Int) + off = (tgt : Int)) (kt : 0 < x → lr_T X tgt ls st t) (kf : ¬ 0 < x → lr_T X (pc + 3) ls st t) : lr_T X pc ls (.inl x :: st) t := by
  obtain ⟨p, l, e, fr', lc', s, m, args, below, meth, c, Q, D, aC, ad, H0, nL', lo', hi'⟩ := X
  obtain ⟨hx, hb, hml, hown, hts, hK, hinj, rfl, rfl, rfl, rfl, rfl⟩ := C
  intro o1 o2 H locs la hW hS hl'
  exact lv_if_gt hx hb hd ht (fun h => kt h o1 (lr_tl o2) H locs la hW hS hl') (fun h => kf h o1 (lr_tl o2) H locs la hW hS hl')
theorem lr_if_le {X : lr_X} {cc : ByteArray} {own : String} {nL fr lc lo hi : Nat} (C : lr_C X cc own nL fr lc lo hi) {pc : Nat} {ls : List (Nat × lr_V)} {st : List lr_V} {t : lr_S} {x : Int32} {off : Int} {tgt : Nat} (hd : decode cc pc = .ok (.ifCond .le off, 3)) (ht : (pc : Int) + off = (tgt : Int)) (kt : x ≤ 0 → lr_T X tgt ls st t) (kf : ¬ x ≤ 0 → lr_T X (pc + 3) ls st t) : lr_T X pc ls (.inl x :: st) t := by
  obtain ⟨p, l, e, fr', lc', s, m, args, below, meth, c, Q, D, aC, ad, H0, nL', lo', hi'⟩ := X
  obtain ⟨hx, hb, hml, hown, hts, hK, hinj, rfl, rfl, rfl, rfl, rfl⟩ := C
  intro o1 o2 H locs la hW hS hl'
  exact lv_if_le hx hb hd ht (fun h => kt h o1 (lr_tl o2) H locs la hW hS hl') (fun h => kf h o1 (lr_tl o2) H locs la hW hS hl')
theorem lr_icmp_eq {X : lr_X} {cc : ByteArray} {own : String} {nL fr lc lo hi : Nat} (C : lr_C X cc own nL fr lc lo hi) {pc : Nat} {ls : List (Nat × lr_V)} {st : List lr_V} {t : lr_S} {x y : Int32} {off : Int} {tgt : Nat} (hd : decode cc pc = .ok (.if_icmp .eq off, 3)) (ht : (pc : Int) + off = (tgt : Int)) (kt : x = y → lr_T X tgt ls st t) (kf : ¬ x = y → lr_T X (pc + 3) ls st t) : lr_T X pc ls (.inl y :: .inl x :: st) t := by
  obtain ⟨p, l, e, fr', lc', s, m, args, below, meth, c, Q, D, aC, ad, H0, nL', lo', hi'⟩ := X
  obtain ⟨hx, hb, hml, hown, hts, hK, hinj, rfl, rfl, rfl, rfl, rfl⟩ := C
  intro o1 o2 H locs la hW hS hl'
  exact lv_icmp_eq hx hb hd ht (fun h => kt h o1 (lr_tl (lr_tl o2)) H locs la hW hS hl') (fun h => kf h o1 (lr_tl (lr_tl o2)) H locs la hW hS hl')
theorem lr_icmp_ne {X : lr_X} {cc : ByteArray} {own : String} {nL fr lc lo hi : Nat} (C : lr_C X cc own nL fr lc lo hi) {pc : Nat} {ls : List (Nat × lr_V)} {st : List lr_V} {t : lr_S} {x y : Int32} {off : Int} {tgt : Nat} (hd : decode cc pc = .ok (.if_icmp .ne off, 3)) (ht : (pc : Int) + off = (tgt : Int)) (kt : ¬ x = y → lr_T X tgt ls st t) (kf : x = y → lr_T X (pc + 3) ls st t) : lr_T X pc ls (.inl y :: .inl x :: st) t := by
  obtain ⟨p, l, e, fr', lc', s, m, args, below, meth, c, Q, D, aC, ad, H0, nL', lo', hi'⟩ := X
  obtain ⟨hx, hb, hml, hown, hts, hK, hinj, rfl, rfl, rfl, rfl, rfl⟩ := C
  intro o1 o2 H locs la hW hS hl'
  exact lv_icmp_ne hx hb hd ht (fun h => kt h o1 (lr_tl (lr_tl o2)) H locs la hW hS hl') (fun h => kf h o1 (lr_tl (lr_tl o2)) H locs la hW hS hl')
theorem lr_icmp_lt {X : lr_X} {cc : ByteArray} {own : String} {nL fr lc lo hi : Nat} (C : lr_C X cc own nL fr lc lo hi) {pc : Nat} {ls : List (Nat × lr_V)} {st : List lr_V} {t : lr_S} {x y : Int32} {off : Int} {tgt : Nat} (hd : decode cc pc = .ok (.if_icmp .lt off, 3)) (ht : (pc : Int) + off = (tgt : Int)) (kt : x < y → lr_T X tgt ls st t) (kf : ¬ x < y → lr_T X (pc + 3) ls st t) : lr_T X pc ls (.inl y :: .inl x :: st) t := by
  obtain ⟨p, l, e, fr', lc', s, m, args, below, meth, c, Q, D, aC, ad, H0, nL', lo', hi'⟩ := X
  obtain ⟨hx, hb, hml, hown, hts, hK, hinj, rfl, rfl, rfl, rfl, rfl⟩ := C
  intro o1 o2 H locs la hW hS hl'
  exact lv_icmp_lt hx hb hd ht (fun h => kt h o1 (lr_tl (lr_tl o2)) H locs la hW hS hl') (fun h => kf h o1 (lr_tl (lr_tl o2)) H locs la hW hS hl')
theorem lr_icmp_ge {X : lr_X} {cc : ByteArray} {own : String} {nL fr lc lo hi : Nat} (C : lr_C X cc own nL fr lc lo hi) {pc : Nat} {ls : List (Nat × lr_V)} {st : List lr_V} {t : lr_S} {x y : Int32} {off : Int} {tgt : Nat} (hd : decode cc pc = .ok (.if_icmp .ge off, 3)) (ht : (pc : Int) + off = (tgt : Int)) (kt : y ≤ x → lr_T X tgt ls st t) (kf : ¬ y ≤ x → lr_T X (pc + 3) ls st t) : lr_T X pc ls (.inl y :: .inl x :: st) t := by
  obtain ⟨p, l, e, fr', lc', s, m, args, below, meth, c, Q, D, aC, ad, H0, nL', lo', hi'⟩ := X
  obtain ⟨hx, hb, hml, hown, hts, hK, hinj, rfl, rfl, rfl, rfl, rfl⟩ := C
  intro o1 o2 H locs la hW hS hl'
  exact lv_icmp_ge hx hb hd ht (fun h => kt h o1 (lr_tl (lr_tl o2)) H locs la hW hS hl') (fun h => kf h o1 (lr_tl (lr_tl o2)) H locs la hW hS hl')
theorem lr_icmp_gt {X : lr_X} {cc : ByteArray} {own : String} {nL fr lc lo hi : Nat} (C : lr_C X cc own nL fr lc lo hi) {pc : Nat} {ls : List (Nat × lr_V)} {st : List lr_V} {t : lr_S} {x y : Int32} {off : Int} {tgt : Nat} (hd : decode cc pc = .ok (.if_icmp .gt off, 3)) (ht : (pc : Int) + off = (tgt : Int)) (kt : y < x → lr_T X tgt ls st t) (kf : ¬ y < x → lr_T X (pc + 3) ls st t) : lr_T X pc ls (.inl y :: .inl x :: st) t := by
  obtain ⟨p, l, e, fr', lc', s, m, args, below, meth, c, Q, D, aC, ad, H0, nL', lo', hi'⟩ := X
  obtain ⟨hx, hb, hml, hown, hts, hK, hinj, rfl, rfl, rfl, rfl, rfl⟩ := C
  intro o1 o2 H locs la hW hS hl'
  exact lv_icmp_gt hx hb hd ht (fun h => kt h o1 (lr_tl (lr_tl o2)) H locs la hW hS hl') (fun h => kf h o1 (lr_tl (lr_tl o2)) H locs la hW hS hl')
theorem lr_icmp_le {X : lr_X} {cc : ByteArray} {own : String} {nL fr lc lo hi : Nat} (C : lr_C X cc own nL fr lc lo hi) {pc : Nat} {ls : List (Nat × lr_V)} {st : List lr_V} {t : lr_S} {x y : Int32} {off : Int} {tgt : Nat} (hd : decode cc pc = .ok (.if_icmp .le off, 3)) (ht : (pc : Int) + off = (tgt : Int)) (kt : x ≤ y → lr_T X tgt ls st t) (kf : ¬ x ≤ y → lr_T X (pc + 3) ls st t) : lr_T X pc ls (.inl y :: .inl x :: st) t := by
  obtain ⟨p, l, e, fr', lc', s, m, args, below, meth, c, Q, D, aC, ad, H0, nL', lo', hi'⟩ := X
  obtain ⟨hx, hb, hml, hown, hts, hK, hinj, rfl, rfl, rfl, rfl, rfl⟩ := C
  intro o1 o2 H locs la hW hS hl'
  exact lv_icmp_le hx hb hd ht (fun h => kt h o1 (lr_tl (lr_tl o2)) H locs la hW hS hl') (fun h => kf h o1 (lr_tl (lr_tl o2)) H locs la hW hS hl')
theorem lr_goto {X : lr_X} {cc : ByteArray} {own : String} {nL fr lc lo hi : Nat} (C : lr_C X cc own nL fr lc lo hi) {pc : Nat} {ls : List (Nat × lr_V)} {st : List lr_V} {t : lr_S} {off : Int} {tgt : Nat} (hd : decode cc pc = .ok (.goto off, 3)) (ht : (pc : Int) + off = (tgt : Int)) (kk : lr_T X tgt ls st t) : lr_T X pc ls st t := by
  obtain ⟨p, l, e, fr', lc', s, m, args, below, meth, c, Q, D, aC, ad, H0, nL', lo', hi'⟩ := X
  obtain ⟨hx, hb, hml, hown, hts, hK, hinj, rfl, rfl, rfl, rfl, rfl⟩ := C
  intro o1 o2 H locs la hW hS hl'
  exact lv_goto hx hb hd ht (kk o1 o2 H locs la hW hS hl')
theorem lr_tabIn {X : lr_X} {cc : ByteArray} {own : String} {nL fr lc lo hi : Nat} (C : lr_C X cc own nL fr lc lo hi) {pc : Nat} {ls : List (Nat × lr_V)} {st : List lr_V} {t : lr_S} {dflt a b : Int} {offs : Array Int} {len : Nat} {x : Int32} {off : Int} {tgt : Nat} (hd : decode cc pc = .ok (.tableswitch dflt a b offs, len)) (v : Int) (hv : x.toInt = v) (h1 : ¬ v < a ∧ ¬ b < v ∧ offs[(v - a).toNat]? = some off) (ht : (pc : Int) + off = (tgt : Int)) (kk : lr_T X tgt ls st t) : lr_T X pc ls (.inl x :: st) t := by
  obtain ⟨p, l, e, fr', lc', s, m, args, below, meth, c, Q, D, aC, ad, H0, nL', lo', hi'⟩ := X
  obtain ⟨hx, hb, hml, hown, hts, hK, hinj, rfl, rfl, rfl, rfl, rfl⟩ := C
  intro o1 o2 H locs la hW hS hl'
  subst hv
  exact lv_tableIn hx hb hd h1.1 h1.2.1 h1.2.2 ht (kk o1 (lr_tl o2) H locs la hW hS hl')
theorem lr_tabOut {X : lr_X} {cc : ByteArray} {own : String} {nL fr lc lo hi : Nat} (C : lr_C X cc own nL fr lc lo hi) {pc : Nat} {ls : List (Nat × lr_V)} {st : List lr_V} {t : lr_S} {dflt a b : Int} {offs : Array Int} {len : Nat} {x : Int32} {tgt : Nat} (hd : decode cc pc = .ok (.tableswitch dflt a b offs, len)) (h : x.toInt < a ∨ b < x.toInt) (ht : (pc : Int) + dflt = (tgt : Int)) (kk : lr_T X tgt ls st t) : lr_T X pc ls (.inl x :: st) t := by
  obtain ⟨p, l, e, fr', lc', s, m, args, below, meth, c, Q, D, aC, ad, H0, nL', lo', hi'⟩ := X
  obtain ⟨hx, hb, hml, hown, hts, hK, hinj, rfl, rfl, rfl, rfl, rfl⟩ := C
  intro o1 o2 H locs la hW hS hl'
  exact lv_tableOut hx hb hd h ht (kk o1 (lr_tl o2) H locs la hW hS hl')
theorem lr_tout {x : Int32} {a b : Int} (h : ∀ v : Int, a ≤ v → v ≤ b → x.toInt = v → False) : x.toInt < a ∨ b < x.toInt := by
  by_cases h1 : x.toInt < a
  · exact Or.inl h1
  · by_cases h2 : b < x.toInt
    · exact Or.inr h2
    · exact absurd rfl (h x.toInt (by omega) (by omega))
theorem lr_iret {X : lr_X} {cc : ByteArray} {own : String} {nL fr lc lo hi : Nat} (C : lr_C X cc own nL fr lc lo hi) {pc : Nat} {ls : List (Nat × lr_V)} {t : lr_S} {ty : FieldType} {r : Int32} (E : lr_EI X ty r t) (hd : decode cc pc = .ok (.ireturn, 1)) (hn : narrow ty (.int r) = .int r) : lr_T X pc ls [.inl r] t := by
  obtain ⟨p, l, e, fr', lc', s, m, args, below, meth, c, Q, D, aC, ad, H0, nL', lo', hi'⟩ := X
  obtain ⟨hx, hb, hml, hown, hts, hK, hinj, rfl, rfl, rfl, rfl, rfl⟩ := C
  obtain ⟨rfl, hr, hlocks, rfl⟩ := E
  intro o1 o2 H locs la hW hS hl'
  exact W.zret hx hb hr hn (fun u hu hw => ⟨⟨r, (), rfl, rfl, by subst hu; exact hW⟩, hS.F hu⟩) hS.2.2 hd
theorem lr_vret {X : lr_X} {cc : ByteArray} {own : String} {nL fr lc lo hi : Nat} (C : lr_C X cc own nL fr lc lo hi) {pc : Nat} {ls : List (Nat × lr_V)} {t : lr_S} (E : lr_EV X t) (hd : decode cc pc = .ok (.return_, 1)) : lr_T X pc ls [] t := by
  obtain ⟨p, l, e, fr', lc', s, m, args, below, meth, c, Q, D, aC, ad, H0, nL', lo', hi'⟩ := X
  obtain ⟨hx, hb, hml, hown, hts, hK, hinj, rfl, rfl, rfl, rfl, rfl⟩ := C
  obtain ⟨rfl, hr, hlocks, rfl⟩ := E
  intro o1 o2 H locs la hW hS hl'
  exact W.vret hx hb hr (fun u hu hw => ⟨⟨(), rfl, trivial, by subst hu; exact hW⟩, hS.F hu⟩) hS.2.2 hd
theorem lr_pick (ad : Nat → Nat → Nat) (ls : List (Nat × lr_V)) : ∀ ks : List Nat, lv_pick (lr_lm ad ls) ks = lr_lm ad (ks.filterMap (fun k => ls[k]?))
  | [] => rfl
  | k :: ks => by
    have ih := lr_pick ad ls ks
    simp only [lv_pick, lr_lm, List.getElem?_map, List.filterMap_cons] at ih ⊢
    cases hk : ls[k]? with
    | none => simpa using ih
    | some q => simp [ih]
theorem lr_sub {X : lr_X} {cc : ByteArray} {own : String} {nL fr lc lo hi : Nat} (C : lr_C X cc own nL fr lc lo hi) {pc : Nat} {ls : List (Nat × lr_V)} {st : List lr_V} {t : lr_S} (ks : List Nat) {ls' : List (Nat × lr_V)} (h : ks.filterMap (fun k => ls[k]?) = ls') (kk : lr_T X pc ls' st t) : lr_T X pc ls st t := by
  obtain ⟨p, l, e, fr', lc', s, m, args, below, meth, c, Q, D, aC, ad, H0, nL', lo', hi'⟩ := X
  obtain ⟨hx, hb, hml, hown, hts, hK, hinj, rfl, rfl, rfl, rfl, rfl⟩ := C
  intro o1 o2 H locs la hW hS hl'
  subst h
  refine kk (fun q hq => ?_) o2 H locs la hW hS ?_
  · obtain ⟨k, -, hk⟩ := List.mem_filterMap.mp hq
    exact o1 q (List.mem_of_getElem? hk)
  · exact lv_sub hl' ks (lr_pick ad ls ks)
theorem lr_get {X : lr_X} {cc : ByteArray} {own : String} {nL fr lc lo hi : Nat} (C : lr_C X cc own nL fr lc lo hi) {pc : Nat} {ls : List (Nat × lr_V)} {st : List lr_V} {t : lr_S} {C0 : String} {T : u_T} {N ci index j k i : Nat} {fs : (Nat → Nat → Nat) → List Value} {v : lr_V} (hd : decode cc pc = .ok (.getfield index, 3)) (hin : ∀ w ∈ u_ws C0 T N, w ∈ lr_tb) (hc : lr_cl[ci]? = some (C0, T, N)) (hj : j < N) (hlk : Cond.fieldLink own index (T j).1 (T j).2.1 (T j).2.2.1 ∈ lr_tb) (hcell : ∀ ad aC, lr_cell ad aC t k i = .inr (ci, fs ad)) (hv : ∀ ad, (fs ad)[j]? = some (lr_rv ad v)) (hok : lr_ok lo hi k i → lr_okv lo hi v) (kk : lr_T X (pc + 3) ls (v :: st) t) : lr_T X pc ls (.inr (k, i) :: st) t := by
  obtain ⟨p, l, e, fr', lc', s, m, args, below, meth, c, Q, D, aC, ad, H0, nL', lo', hi'⟩ := X
  obtain ⟨hx, hb, hml, hown, hts, hK, hinj, rfl, rfl, rfl, rfl, rfl⟩ := C
  intro o1 o2 H locs la hW hS hl'
  have h0 := hW k i (lr_hd o2)
  rw [hcell] at h0
  exact va_get (D := D) (cl := lr_cl) (ws := [(ad k i, .inr (ci, fs ad))]) hx hb hts hin hown hK (fun a q hq => by
    cases a with
    | zero => cases hq; exact h0
    | succ a => simp at hq) 0 rfl hc j hj (hts _ hlk) (fun _ h => h) (hv ad) hd (kk o1 (lr_okc (hok (lr_hd o2)) (lr_tl o2)) H locs la hW hS hl')
/-- field k of a known cell: where it lies, what fits there, whether it is final, and what a write there leaves -/
theorem lr_fp {s : State} {args : Array Value} {H : Heap} {D : va_G} {cl : List vw_C} {tys : List (ClassId × FieldType)} {C : String} {T : u_T} {N ci a k : Nat} {fs : List Value} {Ts : List Cond} {ty0 : Nat → FieldType} (hts : ∀ w ∈ Ts, w.before args s = true) (hin : ∀ w ∈ u_ws C T N, w ∈ Ts) (hty : ∀ k, k < N → parseFieldDescriptor (T k).2.2.1 = some (ty0 k)) (hnm : ∀ a, a < N → ∀ b, b < N → a ≠ b → (T a).2.1 ≠ (T b).2.1) (hK : va_K D cl tys s) (hc : cl[ci]? = some (C, T, N)) (hk : k < N) (he : va_at D cl (a, .inr (ci, fs)) H) :
    ∃ (x : Cell) (cf : ClassId) (kf : Class) (fi : Nat) (f : Field), s.fieldFound? (T k).1 (T k).2.1 (T k).2.2.1 = some (cf, kf, fi, f) ∧ f.isStatic = false ∧ (H[a]? = some x ∧ x.vm = .none ∧ f.slot < x.slots.size) ∧ (∀ v : Value, narrow (ty0 k) v = v → fits (ty0 k) v = true → narrow f.type v = v ∧ s.fitsSlot x.cls .none f.slot v = true) ∧ ((T k).2.2.2 = false → hasFlag f.accessFlags Acc.final = false) ∧ ((T k).2.2.2 = true → s.vm.findClass (T k).1 = some cf) ∧ ∀ (v : Value) (H1 : Heap), k < fs.length → H1[a]? = some (x.setSlot f.slot v) → va_at D cl (a, .inr (ci, fs.set k v)) H1 := by
  obtain ⟨places, named, kC, cat, ord⟩ := hK.1 ci _ hc
  obtain ⟨cf, kf, fi, f, found, lies⟩ := places k hk
  have word : (u_lay C T k).before args s = true := hts _ (hin _ (u_in_lay hk))
  have either := u_lays hts hin hk
  obtain ⟨r, known, x, hx, xcls, xvm, xs⟩ := he
  cases known.symm.trans hc
  refine ⟨x, cf, kf, fi, f, found, (u_facts named cat either found).1, ⟨hx, xvm, ?_⟩, fun v n1 n2 => ?_, fun z => ?_, fun z => ?_, fun v H1 hlen h1 => ?_⟩
  · rw [lies]
    exact k2_hasslot (xs k hk)
  · rw [xcls]
    exact u_fits named cat ord either found (hty k hk) n1 n2
  · rw [show u_lay C T k = .lays C (T k).1 (T k).2.1 (T k).2.2.1 by simp [u_lay, z]] at word
    obtain ⟨_, _, _, _, _, _, -, -, again, -, free, -⟩ := Cond.lays_spec word
    cases found.symm.trans again
    exact free
  · rw [show u_lay C T k = .laysFinal C (T k).1 (T k).2.1 (T k).2.2.1 by simp [u_lay, z]] at word
    obtain ⟨_, _, _, _, _, _, -, -, again, -, -, -, owner, -⟩ := Cond.laysFinal_spec word
    cases found.symm.trans again
    exact owner
  · rw [lies] at h1
    have wrote := t_set xs (va_apart (own := C) hts hin ty0 hty hnm hK hc) hk v
    exact ⟨_, hc, _, h1, xcls, xvm, fun j hj => by rw [← vp_updV_set hlen v j]; exact wrote j hj⟩
theorem lr_put0 {p : Program} {l : Launch} {e : Env} {R : Room} {s : State} {m : MethodId} {args : Array Value} {below : List Frame} {meth : Method} {c : Code} {H : Heap} {locs : List Loc} {cells slots : Nat} {Q : State → Prop} {cc : ByteArray} {pc : Nat} {la : Array Slot} {rest : List Value} {D : va_G} {cl : List vw_C} {tys : List (ClassId × FieldType)} (hexec : p.tables.exec = Jvm.exec) (hb : c.code = cc) {own C : String} {T : u_T} {N ci index : Nat} {Ts : List Cond} (hts : ∀ w ∈ Ts, w.before args s = true) (hin : ∀ w ∈ u_ws C T N, w ∈ Ts) (ty0 : Nat → FieldType) (hty : ∀ k, k < N → parseFieldDescriptor (T k).2.2.1 = some (ty0 k)) (hnm : ∀ a, a < N → ∀ b, b < N → a ≠ b → (T a).2.1 ≠ (T b).2.1) (hown : s.vm.findClass own = some m.cls) (hK : va_K D cl tys s) {a : Nat} {fs : List Value} (he : va_at D cl (a, .inr (ci, fs)) H) (hc : cl[ci]? = some (C, T, N)) (k : Nat) (hk : k < N) (hlink : (Cond.fieldLink own index (T k).1 (T k).2.1 (T k).2.2.1).before args s = true) (hfin : (T k).2.2.2 = false) {v : Value} (hn : narrow (ty0 k) v = v) (hfit : fits (ty0 k) v = true) (hl : k < fs.length) (hdg : decode cc pc = .ok (.putfield index, 3))
    (kk : ∀ (H1 : Heap) (i : Nat), va_at D cl (a, .inr (ci, fs.set k v)) H1 → H1.size = H.size → (∀ q : Nat, q ≠ a → H1[q]? = H[q]?) → W p l e R s m args below meth c H1 (locs ++ [⟨a, i⟩]) cells slots Q (F0 m (pc + 3) la rest)) : W p l e R s m args below meth c H locs cells slots Q (F0 m pc la (v :: .ref a :: rest)) := by
  obtain ⟨x, cf, kf, fi, f, found, inst, ⟨hx, xvm, wide⟩, fit, free, -, after⟩ := lr_fp hts hin hty hnm hK hc hk he
  exact W.putK hexec hb ⟨hown, hlink, ⟨cf, kf, fi, found⟩, inst⟩ ⟨free hfin, fit v hn hfit⟩ hx xvm wide rfl rfl hdg fun H1 h1 z o => kk H1 f.slot (after v H1 hl h1) z o
theorem lr_putI {X : lr_X} {cc : ByteArray} {own : String} {nL fr lc lo hi : Nat} (C : lr_C X cc own nL fr lc lo hi) {pc : Nat} {ls : List (Nat × lr_V)} {st : List lr_V} {t : lr_S} {C0 : String} {T : u_T} {N ci index j k i : Nat} {fs : (Nat → Nat → Nat) → List Value} {x : Int32} (hd : decode cc pc = .ok (.putfield index, 3)) (hin : ∀ w ∈ u_ws C0 T N, w ∈ lr_tb) (ty0 : Nat → FieldType) (hty : ∀ k, k < N → parseFieldDescriptor (T k).2.2.1 = some (ty0 k)) (hnm : ∀ a, a < N → ∀ b, b < N → a ≠ b → (T a).2.1 ≠ (T b).2.1) (hc : lr_cl[ci]? = some (C0, T, N)) (hj : j < N) (hlk : Cond.fieldLink own index (T j).1 (T j).2.1 (T j).2.2.1 ∈ lr_tb) (hfin : (T j).2.2.2 = false) (hcell : ∀ ad aC, lr_cell ad aC t k i = .inr (ci, fs ad)) (hln : ∀ ad, j < (fs ad).length) (hcell2 : ∀ ad aC, lr_cellF ad aC (upd (t.1 k i) j x) t.2 k i = .inr (ci, (fs ad).set j (.int x))) (hn : narrow (ty0 j) (.int x) = .int x) (hf : fits (ty0 j) (.int x) = true) (kk : lr_T X (pc + 3) ls st (lr_wr t k i j x)) : lr_T X pc ls (.inl x :: .inr (k, i) :: st) t := by
  obtain ⟨p, l, e, fr', lc', s, m, args, below, meth, c, Q, D, aC, ad, H0, nL', lo', hi'⟩ := X
  obtain ⟨hx, hb, hml, hown, hts, hK, hinj, rfl, rfl, rfl, rfl, rfl⟩ := C
  intro o1 o2 H locs la hW hS hl'
  have hki := lr_hd (lr_tl o2)
  have h0 := hW k i hki
  rw [hcell] at h0
  refine lr_put0 hx hb hts hin ty0 hty hnm hown hK h0 hc j hj (hts _ hlk) hfin hn hf (hln ad) hd (fun H1 i1 a1 a2 a3 => ?_)
  exact kk o1 (lr_tl (lr_tl o2)) H1 _ la (lr_W_wr hinj hki hW a3 (by rw [hcell2]; exact a1)) (hS.put a2 a3 ⟨k, i, hki, rfl⟩) hl'
theorem lr_iald {X : lr_X} {cc : ByteArray} {own : String} {nL fr lc lo hi : Nat} (C : lr_C X cc own nL fr lc lo hi) {pc : Nat} {ls : List (Nat × lr_V)} {st : List lr_V} {t : lr_S} {k i n : Nat} {x : Int32} (hd : decode cc pc = .ok (.iaload, 1)) (hcell : ∀ ad aC, lr_cell ad aC t k i = .inl (aC 0, n, .inl (t.1 k i))) (hin : lr_in x n = true) (kk : lr_T X (pc + 1) ls (.inl (lr_rd t k i x.toNatClampNeg) :: st) t) : lr_T X pc ls (.inl x :: .inr (k, i) :: st) t := by
  obtain ⟨p, l, e, fr', lc', s, m, args, below, meth, c, Q, D, aC, ad, H0, nL', lo', hi'⟩ := X
  obtain ⟨hx, hb, hml, hown, hts, hK, hinj, rfl, rfl, rfl, rfl, rfl⟩ := C
  intro o1 o2 H locs la hW hS hl'
  have h0 := hW k i (lr_hd (lr_tl o2))
  rw [hcell] at h0
  exact va_iald (D := D) (cl := lr_cl) (ws := [(ad k i, .inl (aC 0, n, .inl (t.1 k i)))]) hx hb hK (fun a q hq => by
    cases a with
    | zero => cases hq; exact h0
    | succ a => simp at hq) 0 0 rfl rfl (lr_in_vp hin) hd (kk o1 (lr_okc trivial (lr_tl (lr_tl o2))) H locs la hW hS hl')
theorem lr_iast {X : lr_X} {cc : ByteArray} {own : String} {nL fr lc lo hi : Nat} (C : lr_C X cc own nL fr lc lo hi) {pc : Nat} {ls : List (Nat × lr_V)} {st : List lr_V} {t : lr_S} {k i n : Nat} {x j : Int32} (hd : decode cc pc = .ok (.iastore, 1)) (hcell : ∀ ad aC, lr_cell ad aC t k i = .inl (aC 0, n, .inl (t.1 k i))) (hcell2 : ∀ ad aC f, lr_cellF ad aC f t.2 k i = .inl (aC 0, n, .inl f)) (hin : lr_in j n = true) (kk : lr_T X (pc + 1) ls st (lr_wr t k i j.toNatClampNeg x)) : lr_T X pc ls (.inl x :: .inl j :: .inr (k, i) :: st) t := by
  obtain ⟨p, l, e, fr', lc', s, m, args, below, meth, c, Q, D, aC, ad, H0, nL', lo', hi'⟩ := X
  obtain ⟨hx, hb, hml, hown, hts, hK, hinj, rfl, rfl, rfl, rfl, rfl⟩ := C
  intro o1 o2 H locs la hW hS hl'
  have hki := lr_hd (lr_tl (lr_tl o2))
  have h0 := hW k i hki
  rw [hcell] at h0
  refine W.iast hx hb h0 ((hK.2 0 _ rfl).1 n (fun j => .int (t.1 k i j))) (fun q => by cases q) (by show ¬ (j < 0 ∨ (arrV _ _ _).slots.size ≤ _); rw [arrV_size]; exact lr_in_vp hin) rfl rfl hd fun H1 e z oq => ?_
  refine kk o1 (lr_tl (lr_tl (lr_tl o2))) H1 _ la (lr_W_wr hinj hki hW oq ?_) (hS.put z oq ⟨k, i, hki, rfl⟩) hl'
  rw [hcell2]
  show H1[ad k i]? = some (vp_cell _ _)
  rw [e]
  rw [vp_cell_i, vp_cell_i, arrV_store]
  congr 2
  funext q
  by_cases hq : q = j.toNatClampNeg
  · subst hq
    simp [updV, upd, vp_nar]
    try rfl
  · simp [updV, upd, hq]
theorem lr_zald {X : lr_X} {cc : ByteArray} {own : String} {nL fr lc lo hi : Nat} (C : lr_C X cc own nL fr lc lo hi) {pc : Nat} {ls : List (Nat × lr_V)} {st : List lr_V} {t : lr_S} {k i n : Nat} {x : Int32} (hd : decode cc pc = .ok (.baload, 1)) (hcell : ∀ ad aC, lr_cell ad aC t k i = .inl (aC 1, n, .inl (t.1 k i))) (hin : lr_in x n = true) (kk : lr_T X (pc + 1) ls (.inl (lr_rd t k i x.toNatClampNeg) :: st) t) : lr_T X pc ls (.inl x :: .inr (k, i) :: st) t := by
  obtain ⟨p, l, e, fr', lc', s, m, args, below, meth, c, Q, D, aC, ad, H0, nL', lo', hi'⟩ := X
  obtain ⟨hx, hb, hml, hown, hts, hK, hinj, rfl, rfl, rfl, rfl, rfl⟩ := C
  intro o1 o2 H locs la hW hS hl'
  have h0 := hW k i (lr_hd (lr_tl o2))
  rw [hcell] at h0
  exact va_zald (D := D) (cl := lr_cl) (ws := [(ad k i, .inl (aC 1, n, .inl (t.1 k i)))]) hx hb hK (fun a q hq => by
    cases a with
    | zero => cases hq; exact h0
    | succ a => simp at hq) 0 1 rfl rfl (lr_in_vp hin) hd (kk o1 (lr_okc trivial (lr_tl (lr_tl o2))) H locs la hW hS hl')
theorem lr_zast {X : lr_X} {cc : ByteArray} {own : String} {nL fr lc lo hi : Nat} (C : lr_C X cc own nL fr lc lo hi) {pc : Nat} {ls : List (Nat × lr_V)} {st : List lr_V} {t : lr_S} {k i n : Nat} {x j : Int32} (hd : decode cc pc = .ok (.bastore, 1)) (hcell : ∀ ad aC, lr_cell ad aC t k i = .inl (aC 1, n, .inl (t.1 k i))) (hcell2 : ∀ ad aC f, lr_cellF ad aC f t.2 k i = .inl (aC 1, n, .inl f)) (hin : lr_in j n = true) (kk : lr_T X (pc + 1) ls st (lr_wr t k i j.toNatClampNeg (vp_nar .boolean x))) : lr_T X pc ls (.inl x :: .inl j :: .inr (k, i) :: st) t := by
  obtain ⟨p, l, e, fr', lc', s, m, args, below, meth, c, Q, D, aC, ad, H0, nL', lo', hi'⟩ := X
  obtain ⟨hx, hb, hml, hown, hts, hK, hinj, rfl, rfl, rfl, rfl, rfl⟩ := C
  intro o1 o2 H locs la hW hS hl'
  have hki := lr_hd (lr_tl (lr_tl o2))
  have h0 := hW k i hki
  rw [hcell] at h0
  refine W.zast hx hb h0 ((hK.2 1 _ rfl).1 n (fun j => .int (t.1 k i j))) (fun q => by cases q) (by show ¬ (j < 0 ∨ (arrV _ _ _).slots.size ≤ _); rw [arrV_size]; exact lr_in_vp hin) rfl rfl hd fun H1 e z oq => ?_
  refine kk o1 (lr_tl (lr_tl (lr_tl o2))) H1 _ la (lr_W_wr hinj hki hW oq ?_) (hS.put z oq ⟨k, i, hki, rfl⟩) hl'
  rw [hcell2]
  show H1[ad k i]? = some (vp_cell _ _)
  rw [e]
  rw [vp_cell_i, vp_cell_i, arrV_store]
  congr 2
  funext q
  by_cases hq : q = j.toNatClampNeg
  · subst hq
    simp [updV, upd, vp_nar]
    try rfl
  · simp [updV, upd, hq]
theorem lr_aald {X : lr_X} {cc : ByteArray} {own : String} {nL fr lc lo hi : Nat} (C : lr_C X cc own nL fr lc lo hi) {pc : Nat} {ls : List (Nat × lr_V)} {st : List lr_V} {t : lr_S} {k i n t0 : Nat} {C0 : String} {g : Nat → Nat × Nat} {x : Int32} (hd : decode cc pc = .ok (.aaload, 1)) (ht0 : ∀ aC, (lr_tys aC)[t0]? = some (aC t0, .object C0)) (hcell : ∀ ad aC, lr_cell ad aC t k i = .inl (aC t0, n, lr_rs (fun j => some (ad (g j).1 (g j).2)))) (hin : lr_in x n = true) (hok : lr_ok lo hi k i → ∀ j, j < n → lr_ok lo hi (g j).1 (g j).2) (kk : lr_T X (pc + 1) ls (.inr (g x.toNatClampNeg) :: st) t) : lr_T X pc ls (.inl x :: .inr (k, i) :: st) t := by
  obtain ⟨p, l, e, fr', lc', s, m, args, below, meth, c, Q, D, aC, ad, H0, nL', lo', hi'⟩ := X
  obtain ⟨hx, hb, hml, hown, hts, hK, hinj, rfl, rfl, rfl, rfl, rfl⟩ := C
  intro o1 o2 H locs la hW hS hl'
  have hki := lr_hd (lr_tl o2)
  have h0 := hW k i hki
  rw [hcell] at h0
  exact va_aldq (D := D) (cl := lr_cl) (ws := [(ad k i, .inl (aC t0, n, lr_rs (fun j => some (ad (g j).1 (g j).2))))]) hx hb hK (fun a q hq => by
    cases a with
    | zero => cases hq; exact h0
    | succ a => simp at hq) 0 t0 rfl (ht0 aC) (lr_in_vp hin) hd (kk o1 (lr_okc (hok hki _ (lr_in_lt hin)) (lr_tl (lr_tl o2))) H locs la hW hS hl')
theorem lr_aaldp {X : lr_X} {cc : ByteArray} {own : String} {nL fr lc lo hi : Nat} (C : lr_C X cc own nL fr lc lo hi) {pc : Nat} {ls : List (Nat × lr_V)} {st : List lr_V} {t : lr_S} {x : Int32} (hd : decode cc pc = .ok (.aaload, 1)) (hin : lr_in x 32 = true) (hlo : lo = 0 ∧ hi = 20) (hp : t.2 x.toNatClampNeg < 49) (kk : lr_T X (pc + 1) ls (.inr (3, t.2 x.toNatClampNeg) :: st) t) : lr_T X pc ls (.inl x :: .inr (2, 0) :: st) t := by
  obtain ⟨p, l, e, fr', lc', s, m, args, below, meth, c, Q, D, aC, ad, H0, nL', lo', hi'⟩ := X
  obtain ⟨hx, hb, hml, hown, hts, hK, hinj, rfl, rfl, rfl, rfl, rfl⟩ := C
  intro o1 o2 H locs la hW hS hl'
  obtain ⟨rfl, rfl⟩ := hlo
  have hki := lr_hd (lr_tl o2)
  have h0 := hW 2 0 hki
  exact va_aldq (D := D) (cl := lr_cl) (ws := [(ad 2 0, .inl (aC 2, 32, lr_rs (fun j => some (ad 3 (t.2 j)))))]) (C := lr_R0) hx hb hK (fun a q hq => by
    cases a with
    | zero => cases hq; exact h0
    | succ a => simp at hq) 0 2 rfl rfl (lr_in_vp hin) hd (kk o1 (lr_okc ⟨Nat.zero_le _, show 3 < 20 by decide, hp⟩ (lr_tl (lr_tl o2))) H locs la hW hS hl')
theorem lr_aastp {X : lr_X} {cc : ByteArray} {own : String} {nL fr lc lo hi : Nat} (C : lr_C X cc own nL fr lc lo hi) {pc : Nat} {ls : List (Nat × lr_V)} {st : List lr_V} {t : lr_S} {x : Int32} {r : Nat} (hd : decode cc pc = .ok (.aastore, 1)) (hin : lr_in x 32 = true) (kk : lr_T X (pc + 1) ls st (lr_wp t x.toNatClampNeg r)) : lr_T X pc ls (.inr (3, r) :: .inl x :: .inr (2, 0) :: st) t := by
  obtain ⟨p, l, e, fr', lc', s, m, args, below, meth, c, Q, D, aC, ad, H0, nL', lo', hi'⟩ := X
  obtain ⟨hx, hb, hml, hown, hts, hK, hinj, rfl, rfl, rfl, rfl, rfl⟩ := C
  intro o1 o2 H locs la hW hS hl'
  have hki : lr_ok lo' hi' 2 0 := lr_hd (lr_tl (lr_tl o2))
  have hv : ∃ r1 : vw_C, lr_cl[0]? = some r1 ∧ t_OB (ad 3 r) (D.1 0) r1.2.2 (D.2 0) H (vp_V [.int (t.1 3 r 0), .int (t.1 3 r 1), .int (t.1 3 r 2), .int (t.1 3 r 3), .int (t.1 3 r 4), .int (t.1 3 r 5)]) := hW 3 r (lr_hd o2)
  have h0 : H[ad 2 0]? = some (arrV (aC 2) 32 (fun j => va_rf (some (ad 3 (t.2 j))))) := hW 2 0 hki
  have hcls := (hK.1 0 _ rfl).2
  obtain ⟨r', hr', cellV, g1, g2, g3, -⟩ := hv
  have hra : va_RA s (aC 2) (.object lr_R0) := (hK.2 2 _ rfl).2
  obtain ⟨kA, comp, k1, k2, k3, -⟩ := hra
  have hcomp : comp = D.1 0 := Option.some.inj (k3.symm.trans hcls.1)
  subst hcomp
  obtain ⟨kC, hkC, -⟩ := hcls.2
  have hlt : x.toNatClampNeg < 32 := lr_in_lt hin
  have hx0 : ¬ x < 0 := fun q => lr_in_vp hin (Or.inl q)
  refine W.aast (cell := arrV (aC 2) 32 (fun j => va_rf (some (ad 3 (t.2 j))))) (v := ad 3 r) (j := x) hx hb h0 (fun q h => by cases h) (fun h => by cases h) k1 k2 rfl hkC ⟨hx0, by rw [arrV_size]; exact hlt⟩ g1 (fun q h => by rw [g3] at h; cases h) (by rw [g2]; exact hkC) (by rw [g2]; exact va_assign hcls) rfl rfl hd fun H1 e z oq => ?_
  refine kk o1 (lr_tl (lr_tl (lr_tl o2))) H1 _ la (lr_W_wp hinj hki hW oq ?_) (hS.put z oq ⟨2, 0, hki, rfl⟩) hl'
  show H1[ad 2 0]? = some (arrV (aC 2) 32 (fun j => va_rf (some (ad 3 ((lr_wp t x.toNatClampNeg r).2 j)))))
  rw [e, arrV_store]
  congr 2
  funext q
  by_cases hq : q = x.toNatClampNeg
  · subst hq
    simp [updV, va_rf, lr_wp]
  · simp [updV, hq, lr_wp]
theorem lr_sum (ad : Nat → Nat → Nat) : ∀ st : List lr_V, ((st.map (lr_rv ad)).map fun v => v.category).sum = st.length
  | [] => rfl
  | v :: st => by
    have ih := lr_sum ad st
    simp only [List.map_cons, List.sum_cons, lr_cat, List.length_cons, ih]
    omega
theorem lr_mmax {X : lr_X} {cc : ByteArray} {own : String} {nL fr lc lo hi : Nat} (C : lr_C X cc own nL fr lc lo hi) {pc : Nat} {ls : List (Nat × lr_V)} {st : List lr_V} {t : lr_S} {idx : Nat} {x y : Int32} (w1 : Cond.methodLink own idx Lib.Math.max.name ∈ lr_tb) (w2 : Cond.static Lib.Math.max.name ∈ lr_tb) (w3 : Cond.initialized "java/lang/Math" ∈ lr_tb) (w4 : Cond.code Lib.Math.max.name Lib.Math.max.code 2 (some .int) ∈ lr_tb) (hd : decode cc pc = .ok (.invokestatic idx, 3)) (hf : 1 ≤ fr) (hs : st.length + 13 ≤ lc) (kk : lr_T X (pc + 3) ls (.inl (if x < y then y else x) :: st) t) : lr_T X pc ls (.inl y :: .inl x :: st) t := by
  obtain ⟨p, l, e, fr', lc', s, m, args, below, meth, c, Q, D, aC, ad, H0, nL', lo', hi'⟩ := X
  obtain ⟨hx, hb, hml, hown, hts, hK, hinj, rfl, rfl, rfl, rfl, rfl⟩ := C
  intro o1 o2 H locs la hW hS hl'
  exact va_mmax hx hb (hml.trans hl'.1.symm) hown (hts _ w1) (hts _ w2) (hts _ w3) (hts _ w4) hf (by rw [lr_sum]; exact hs) (Nat.zero_le _) (Nat.zero_le _) hd (kk o1 (lr_okc trivial (lr_tl (lr_tl o2))) H locs la hW hS hl')
/-- a call's place: what the tables say of it -/
def lr_siteV (own : String) (idx : Nat) (M : lr_M) (n : Nat) : Prop := Cond.methodLink own idx M.1 ∈ lr_tb ∧ Cond.instanceMethod M.1 ∈ lr_tb ∧ Cond.selects M.1.cls M.1 M.1 ∈ lr_tb ∧ Cond.initialized M.1.cls ∈ lr_tb ∧ Cond.code M.1 M.2.1 M.2.2.1 M.2.2.2.1 ∈ lr_tb ∧ (M.1.cls ≠ "java/lang/invoke/MethodHandle" ∧ M.1.cls ≠ "java/lang/invoke/VarHandle" ∧ (parseMethodDescriptor M.1.desc).map (fun d => d.parameters.length) = some n)
def lr_siteS (own : String) (idx : Nat) (M : lr_M) (n : Nat) : Prop := Cond.methodLink own idx M.1 ∈ lr_tb ∧ Cond.static M.1 ∈ lr_tb ∧ Cond.initialized M.1.cls ∈ lr_tb ∧ Cond.code M.1 M.2.1 M.2.2.1 M.2.2.2.1 ∈ lr_tb ∧ (M.1.cls ≠ "java/lang/invoke/MethodHandle" ∧ M.1.cls ≠ "java/lang/invoke/VarHandle" ∧ (parseMethodDescriptor M.1.desc).map (fun d => d.parameters.length) = some n)
theorem lr_goodc {w : Cond} (h : w ∈ lr_tb) : GoodIn lr_tb (w :: lr_tb) := fun u hu => by
  rcases List.mem_cons.mp hu with rfl | hu
  · exact ⟨h, lr_gd1 h⟩
  · exact ⟨hu, lr_gd1 hu⟩
theorem lr_callVi {X : lr_X} {cc : ByteArray} {own : String} {nL fr lc lo hi : Nat} (C : lr_C X cc own nL fr lc lo hi) {pc : Nat} {ls : List (Nat × lr_V)} {st : List lr_V} {t : lr_S} {idx ci k i n : Nat} {M : lr_M} {q0 : vw_C} {fs : (Nat → Nat → Nat) → List Value} {as : List lr_V} {r : Int32} {t' : lr_S} {stk : List lr_V} (hR : lr_RI lo hi M (.inr (k, i) :: as) t r t') (hs : lr_siteV own idx M n) (hd : decode cc pc = .ok (.invokevirtual idx, 3)) (hstk : stk = as.reverse ++ .inr (k, i) :: st) (hn : as.length = n) (hcell : ∀ ad aC, lr_cell ad aC t k i = .inr (ci, fs ad)) (hc : lr_cl[ci]? = some q0) (hq0 : q0.1 = M.1.cls) (hroom : M.2.2.2.2.1 + 1 ≤ fr ∧ 8 + (M.2.2.1 + 11) + M.2.2.2.2.2 ≤ lc) (hsm : st.length ≤ 8) (kk : lr_T X (pc + 3) ls (.inl r :: st) t') : lr_T X pc ls stk t := by
  obtain ⟨p, l, e, fr', lc', s, m, args, below, meth, c, Q, D, aC, ad, H0, nL', lo', hi'⟩ := X
  obtain ⟨hx, hb, hml, hown, hts, hK, hinj, rfl, rfl, rfl, rfl, rfl⟩ := C
  intro o1 o2 H locs la hW hS hl'
  subst hstk
  obtain ⟨s1, s2, s3, s4, s5, s6⟩ := hs
  have o3 : ∀ v ∈ st, lr_okv lo' hi' v := fun v hv => o2 v (List.mem_append_right _ (List.mem_cons_of_mem _ hv))
  have oi : lr_okv lo' hi' (.inr (k, i)) := o2 _ (List.mem_append_right _ List.mem_cons_self)
  have oa : ∀ v ∈ (.inr (k, i) :: as : List lr_V), lr_okv lo' hi' v := lr_okc oi (fun v hv => o2 v (List.mem_append_left _ (List.mem_reverse.mpr hv)))
  have h0 := hW k i oi
  rw [hcell] at h0
  obtain ⟨r0, hr0, cell, q1, q2, q3, -⟩ := h0
  have e0 : r0 = q0 := Option.some.inj (hr0.symm.trans hc)
  subst e0
  have hcl := hK.1 ci _ hc
  have hM := hR l D aC ad hinj oa
  refine va_calli (A0 := lr_A lo' hi' ad) (H0 := H0) (A1 := lr_A lo' hi' ad) (va_runV (rest := st.map (lr_rv ad)) (As := as.map (lr_rv ad)) (b := ad k i) (C := M.1.cls) (n := n) (maxL := M.2.2.1) (ret := M.2.2.2.1) (bytes := M.2.1) ⟨hx, hb, hml, hown, hts⟩ hM ⟨callB_of n hts (lr_goodc s5) rfl rfl rfl (hts _ s4) (hts _ s1) s6 hroom, hts _ s2, hts _ s3⟩ ⟨lr_Pc_blind, ⟨cell, q1, by rw [q3]; rfl, by rw [q2, ← hq0]; exact hcl.2.1⟩, fun U hU hw => ⟨rfl, by rw [hU]; exact hW, va_K.moved hw.alike hK⟩⟩ rfl (by rw [List.length_map]; exact hn) hl'.1 (by simp [List.map_append, List.map_reverse, lr_rv]) (lv_room (by rw [lr_sum]; exact hsm)) hd ⟨Nat.zero_le _, Nat.zero_le _⟩) hS (fun q _ h => h) (fun q h => h) (fun r1 _ u H1 locs1 hu hvm hr1 hB hz hk1 hS1 => ?_)
  · subst hr1
    subst hu
    exact kk o1 (lr_okc trivial o3) _ _ la hB hS1 hl'
theorem lr_callSi {X : lr_X} {cc : ByteArray} {own : String} {nL fr lc lo hi : Nat} (C : lr_C X cc own nL fr lc lo hi) {pc : Nat} {ls : List (Nat × lr_V)} {st : List lr_V} {t : lr_S} {idx n : Nat} {M : lr_M} {as : List lr_V} {r : Int32} {t' : lr_S} {stk : List lr_V} (hR : lr_RI lo hi M as t r t') (hs : lr_siteS own idx M n) (hd : decode cc pc = .ok (.invokestatic idx, 3)) (hstk : stk = as.reverse ++ st) (hn : as.length = n) (hroom : M.2.2.2.2.1 + 1 ≤ fr ∧ 8 + (M.2.2.1 + 11) + M.2.2.2.2.2 ≤ lc) (hsm : st.length ≤ 8) (kk : lr_T X (pc + 3) ls (.inl r :: st) t') : lr_T X pc ls stk t := by
  obtain ⟨p, l, e, fr', lc', s, m, args, below, meth, c, Q, D, aC, ad, H0, nL', lo', hi'⟩ := X
  obtain ⟨hx, hb, hml, hown, hts, hK, hinj, rfl, rfl, rfl, rfl, rfl⟩ := C
  intro o1 o2 H locs la hW hS hl'
  subst hstk
  obtain ⟨s1, s2, s4, s5, s6⟩ := hs
  have o3 : ∀ v ∈ st, lr_okv lo' hi' v := fun v hv => o2 v (List.mem_append_right _ hv)
  have oa : ∀ v ∈ as, lr_okv lo' hi' v := fun v hv => o2 v (List.mem_append_left _ (List.mem_reverse.mpr hv))
  have hM := hR l D aC ad hinj oa
  refine va_calli (A0 := lr_A lo' hi' ad) (H0 := H0) (A1 := lr_A lo' hi' ad) (va_runS (rest := st.map (lr_rv ad)) (As := as.map (lr_rv ad)) (n := n) (maxL := M.2.2.1) (ret := M.2.2.2.1) (bytes := M.2.1) ⟨hx, hb, hml, hown, hts⟩ hM ⟨callB_of n hts (lr_goodc s5) rfl rfl rfl (hts _ s4) (hts _ s1) s6 hroom, hts _ s2⟩ ⟨lr_Pc_blind, fun U hU hw => ⟨rfl, by rw [hU]; exact hW, va_K.moved hw.alike hK⟩⟩ rfl (by rw [List.length_map]; exact hn) hl'.1 (by simp [List.map_append, List.map_reverse]) (lv_room (by rw [lr_sum]; exact hsm)) hd ⟨Nat.zero_le _, Nat.zero_le _⟩) hS (fun q _ h => h) (fun q h => h) (fun r1 _ u H1 locs1 hu hvm hr1 hB hz hk1 hS1 => ?_)
  · subst hr1
    subst hu
    exact kk o1 (lr_okc trivial o3) _ _ la hB hS1 hl'
theorem lr_callVv {X : lr_X} {cc : ByteArray} {own : String} {nL fr lc lo hi : Nat} (C : lr_C X cc own nL fr lc lo hi) {pc : Nat} {ls : List (Nat × lr_V)} {st : List lr_V} {t : lr_S} {idx ci k i n : Nat} {M : lr_M} {q0 : vw_C} {fs : (Nat → Nat → Nat) → List Value} {as : List lr_V} {t' : lr_S} {stk : List lr_V} (hR : lr_RV lo hi M (.inr (k, i) :: as) t t') (hs : lr_siteV own idx M n) (hd : decode cc pc = .ok (.invokevirtual idx, 3)) (hstk : stk = as.reverse ++ .inr (k, i) :: st) (hn : as.length = n) (hcell : ∀ ad aC, lr_cell ad aC t k i = .inr (ci, fs ad)) (hc : lr_cl[ci]? = some q0) (hq0 : q0.1 = M.1.cls) (hroom : M.2.2.2.2.1 + 1 ≤ fr ∧ 8 + (M.2.2.1 + 11) + M.2.2.2.2.2 ≤ lc) (hsm : st.length ≤ 8) (kk : lr_T X (pc + 3) ls (st) t') : lr_T X pc ls stk t := by
  obtain ⟨p, l, e, fr', lc', s, m, args, below, meth, c, Q, D, aC, ad, H0, nL', lo', hi'⟩ := X
  obtain ⟨hx, hb, hml, hown, hts, hK, hinj, rfl, rfl, rfl, rfl, rfl⟩ := C
  intro o1 o2 H locs la hW hS hl'
  subst hstk
  obtain ⟨s1, s2, s3, s4, s5, s6⟩ := hs
  have o3 : ∀ v ∈ st, lr_okv lo' hi' v := fun v hv => o2 v (List.mem_append_right _ (List.mem_cons_of_mem _ hv))
  have oi : lr_okv lo' hi' (.inr (k, i)) := o2 _ (List.mem_append_right _ List.mem_cons_self)
  have oa : ∀ v ∈ (.inr (k, i) :: as : List lr_V), lr_okv lo' hi' v := lr_okc oi (fun v hv => o2 v (List.mem_append_left _ (List.mem_reverse.mpr hv)))
  have h0 := hW k i oi
  rw [hcell] at h0
  obtain ⟨r0, hr0, cell, q1, q2, q3, -⟩ := h0
  have e0 : r0 = q0 := Option.some.inj (hr0.symm.trans hc)
  subst e0
  have hcl := hK.1 ci _ hc
  have hM := hR l D aC ad hinj oa
  refine va_callv (A0 := lr_A lo' hi' ad) (H0 := H0) (A1 := lr_A lo' hi' ad) (va_runV (rest := st.map (lr_rv ad)) (As := as.map (lr_rv ad)) (b := ad k i) (C := M.1.cls) (n := n) (maxL := M.2.2.1) (ret := M.2.2.2.1) (bytes := M.2.1) ⟨hx, hb, hml, hown, hts⟩ hM ⟨callB_of n hts (lr_goodc s5) rfl rfl rfl (hts _ s4) (hts _ s1) s6 hroom, hts _ s2, hts _ s3⟩ ⟨lr_Pc_blind, ⟨cell, q1, by rw [q3]; rfl, by rw [q2, ← hq0]; exact hcl.2.1⟩, fun U hU hw => ⟨rfl, by rw [hU]; exact hW, va_K.moved hw.alike hK⟩⟩ rfl (by rw [List.length_map]; exact hn) hl'.1 (by simp [List.map_append, List.map_reverse, lr_rv]) (lv_room (by rw [lr_sum]; exact hsm)) hd ⟨Nat.zero_le _, Nat.zero_le _⟩) hS (fun q _ h => h) (fun q h => h) (fun _ u H1 locs1 hu hvm hr1 hB hz hk1 hS1 => ?_)
  · subst hu
    exact kk o1 o3 _ _ la hB hS1 hl'
theorem lr_callSv {X : lr_X} {cc : ByteArray} {own : String} {nL fr lc lo hi : Nat} (C : lr_C X cc own nL fr lc lo hi) {pc : Nat} {ls : List (Nat × lr_V)} {st : List lr_V} {t : lr_S} {idx n : Nat} {M : lr_M} {as : List lr_V} {t' : lr_S} {stk : List lr_V} (hR : lr_RV lo hi M as t t') (hs : lr_siteS own idx M n) (hd : decode cc pc = .ok (.invokestatic idx, 3)) (hstk : stk = as.reverse ++ st) (hn : as.length = n) (hroom : M.2.2.2.2.1 + 1 ≤ fr ∧ 8 + (M.2.2.1 + 11) + M.2.2.2.2.2 ≤ lc) (hsm : st.length ≤ 8) (kk : lr_T X (pc + 3) ls (st) t') : lr_T X pc ls stk t := by
  obtain ⟨p, l, e, fr', lc', s, m, args, below, meth, c, Q, D, aC, ad, H0, nL', lo', hi'⟩ := X
  obtain ⟨hx, hb, hml, hown, hts, hK, hinj, rfl, rfl, rfl, rfl, rfl⟩ := C
  intro o1 o2 H locs la hW hS hl'
  subst hstk
  obtain ⟨s1, s2, s4, s5, s6⟩ := hs
  have o3 : ∀ v ∈ st, lr_okv lo' hi' v := fun v hv => o2 v (List.mem_append_right _ hv)
  have oa : ∀ v ∈ as, lr_okv lo' hi' v := fun v hv => o2 v (List.mem_append_left _ (List.mem_reverse.mpr hv))
  have hM := hR l D aC ad hinj oa
  refine va_callv (A0 := lr_A lo' hi' ad) (H0 := H0) (A1 := lr_A lo' hi' ad) (va_runS (rest := st.map (lr_rv ad)) (As := as.map (lr_rv ad)) (n := n) (maxL := M.2.2.1) (ret := M.2.2.2.1) (bytes := M.2.1) ⟨hx, hb, hml, hown, hts⟩ hM ⟨callB_of n hts (lr_goodc s5) rfl rfl rfl (hts _ s4) (hts _ s1) s6 hroom, hts _ s2⟩ ⟨lr_Pc_blind, fun U hU hw => ⟨rfl, by rw [hU]; exact hW, va_K.moved hw.alike hK⟩⟩ rfl (by rw [List.length_map]; exact hn) hl'.1 (by simp [List.map_append, List.map_reverse]) (lv_room (by rw [lr_sum]; exact hsm)) hd ⟨Nat.zero_le _, Nat.zero_le _⟩) hS (fun q _ h => h) (fun q h => h) (fun _ u H1 locs1 hu hvm hr1 hB hz hk1 hS1 => ?_)
  · subst hu
    exact kk o1 o3 _ _ la hB hS1 hl'
