/-! whose a thing is, in pure words -/
theorem put_put {h : Hp} {k i : Nat} {a b : Int32} : put (put h k i a) k i b = put h k i b := by
  funext x y
  by_cases e : x = k
  · subst e
    by_cases e2 : y = i
    · subst e2
      rw [put_s, put_s]
    · rw [put_i e2, put_i e2, put_i e2]
  · rw [put_n e, put_n e, put_n e]
def jP (gv : Nat → Bool) (d1 : Nat → Int32) (k : Int32) : Nat → Bool := fun r => gv r && decide (d1 r = k)
def orI (a b : Int32) : Int32 := if a = -1 then b else a
def rowF (gv : Nat → Bool) (d1 : Nat → Int32) (rr k : Nat) : Int32 := if k = 0 then fsI (jP gv d1 0) rr else if k = 4 then orI (fsI (jP gv d1 4) rr) (orI (fsI (jP gv d1 2) rr) (fsI (jP gv d1 0) rr)) else orI (fsI (jP gv d1 (nI k)) rr) (fsI (jP gv d1 0) rr)
def sP (sd : Nat → Bool) (d1 d2 : Nat → Int32) (k q : Int32) : Nat → Bool := fun r => sd r && decide (d1 r = k) && decide (d2 r = q)
def nxt (sd : Nat → Bool) (d1 d2 d3 : Nat → Int32) (rr : Nat) (q k : Int32) : Int32 := if fst (sP sd d1 d2 k q) rr < rr then d3 (fst (sP sd d1 d2 k q) rr) else -1
/-- a text as it may stand -/
def TV (gv sd : Nat → Bool) (d1 d2 d3 : Nat → Int32) (rr : Nat) : Prop := ∀ r, r < rr → (gv r = true ∧ sd r = false ∧ (∃ k, k < 5 ∧ d1 r = nI k) ∧ (∃ k, k < 6 ∧ d2 r = nI k) ∧ ∃ k, 1 ≤ k ∧ k < 10 ∧ d3 r = nI k) ∨ (gv r = false ∧ sd r = true ∧ (∃ k, k < 6 ∧ d1 r = nI k) ∧ (∃ k, k < 4 ∧ d2 r = nI k) ∧ ∃ k, k < 6 ∧ d3 r = nI k)
theorem fst_true {p : Nat → Bool} : ∀ {n : Nat}, fst p n < n → p (fst p n) = true
  | 0, h => absurd h (Nat.not_lt_zero _)
  | n + 1, h => by
    rw [fst] at h ⊢
    by_cases e : fst p n < n
    · rw [if_pos e]
      exact fst_true e
    · rw [if_neg e] at h ⊢
      by_cases e2 : p n = true
      · rw [if_pos e2]
        exact e2
      · rw [if_neg e2] at h
        omega
theorem fsI_cases {p : Nat → Bool} {n : Nat} : fsI p n = -1 ∨ ∃ r, r < n ∧ fsI p n = nI r ∧ p r = true := by
  by_cases e : fst p n < n
  · exact Or.inr ⟨fst p n, e, by rw [fsI, if_pos e], fst_true e⟩
  · exact Or.inl (by rw [fsI, if_neg e])
theorem orI_cases {a b : Int32} {P : Nat → Prop} (ha : a = -1 ∨ ∃ r, a = nI r ∧ P r) (hb : b = -1 ∨ ∃ r, b = nI r ∧ P r) : orI a b = -1 ∨ ∃ r, orI a b = nI r ∧ P r := by
  by_cases e : a = -1
  · rw [orI, if_pos e]; exact hb
  · rw [orI, if_neg e]
    exact ha
theorem rowF_cases {gv : Nat → Bool} {d1 : Nat → Int32} {rr k : Nat} : rowF gv d1 rr k = -1 ∨ ∃ r, rowF gv d1 rr k = nI r ∧ r < rr ∧ gv r = true := by
  have key : ∀ z : Int32, fsI (jP gv d1 z) rr = -1 ∨ ∃ r, fsI (jP gv d1 z) rr = nI r ∧ r < rr ∧ gv r = true := by
    intro z
    rcases fsI_cases (p := jP gv d1 z) (n := rr) with h | ⟨r, h1, h2, h3⟩
    · exact Or.inl h
    · refine Or.inr ⟨r, h2, h1, ?_⟩
      rw [jP, Bool.and_eq_true] at h3
      exact h3.1
  rw [rowF]
  by_cases e0 : k = 0
  · rw [if_pos e0]; exact key 0
  · rw [if_neg e0]
    by_cases e4 : k = 4
    · rw [if_pos e4]; exact orI_cases (key 4) (orI_cases (key 2) (key 0))
    · rw [if_neg e4]; exact orI_cases (key _) (key 0)
theorem nxt_cases {gv sd : Nat → Bool} {d1 d2 d3 : Nat → Int32} {rr : Nat} (hV : TV gv sd d1 d2 d3 rr) (q k : Int32) : nxt sd d1 d2 d3 rr q k = -1 ∨ ∃ j, j < 6 ∧ nxt sd d1 d2 d3 rr q k = nI j := by
  by_cases e : fst (sP sd d1 d2 k q) rr < rr
  · have h3 := fst_true e
    rw [nxt, if_pos e]
    rcases hV _ e with ⟨-, h1, -⟩ | ⟨-, -, -, -, h⟩
    · simp [sP, h1] at h3
    · exact Or.inr h
  · exact Or.inl (by rw [nxt, if_neg e])
def pop6 (b : Nat) : Nat := (List.range 6).countP (fun i => b.testBit i)
theorem pop6_le (b : Nat) : pop6 b ≤ 6 := by
  have := List.countP_le_length (p := fun i => b.testBit i) (l := List.range 6)
  simpa [pop6] using this
theorem m64a : ∀ b, b < 64 → ∀ j, j < 6 → b.testBit j = false → pop6 (b ||| 2 ^ j) = pop6 b + 1 := by decide +kernel
theorem m64b : ∀ b, b < 64 → ∀ j, j < 6 → hasB (nI b) (nI j) = b.testBit j := by decide +kernel
theorem m64c : ∀ b, b < 64 → ∀ j, j < 6 → (nI b ||| (1 <<< (nI j &&& 31))) = nI (b ||| 2 ^ j) := by decide +kernel
theorem m64d : ∀ b, b < 64 → ∀ j, j < 6 → b ||| 2 ^ j < 64 := by decide +kernel
theorem m64e : ∀ j, j < 6 → ((1 : Int32) <<< (nI j &&& 31)) = nI (2 ^ j) ∧ pop6 (2 ^ j) = 1 ∧ 2 ^ j < 64 := by decide +kernel
theorem m64f : ∀ j, j < 6 → ∀ i, i < 6 → (2 ^ j).testBit i = decide (i = j) := by decide +kernel
theorem m64g : ∀ b, b < 64 → ∀ j, j < 6 → ∀ i, i < 6 → (b ||| 2 ^ j).testBit i = (b.testBit i || decide (i = j)) := by decide +kernel
def gone (nx : Int32 → Int32) : Nat → Nat → Int32 → Int32 → Int32
  | 0, g, _, _ => nI g
  | m + 1, g, at', been => if nx at' = -1 then nI g else if hasB been (nx at') then nI (g + 1) else gone nx m (g + 1) (nx at') (been ||| (1 <<< (nx at' &&& 31)))
def ownY (nx : Int32 → Int32) : Nat → Nat → Int32 → Int32 → Int32 × Nat
  | 0, g, at', _ => (at', g)
  | m + 1, g, at', been => if nx at' = -1 then (at', g) else if hasB been (nx at') then (-1000007, g + 1) else ownY nx m (g + 1) (nx at') (been ||| (1 <<< (nx at' &&& 31)))
def itN (nx : Int32 → Int32) : Nat → Int32 → Int32
  | 0, a => a
  | k + 1, a => itN nx k (nx a)
/-- where desks lead: to none, or to a desk -/
def NX (nx : Int32 → Int32) : Prop := ∀ k, nx k = -1 ∨ ∃ j, j < 6 ∧ nx k = nI j
theorem gone_own {nx : Int32 → Int32} (hN : NX nx) : ∀ (m k g a b : Nat), a < 6 → b < 64 → 6 < m + pop6 b → m ≤ k → gone nx m g (nI a) (nI b) = nI (ownY nx k g (nI a) (nI b)).2
  | 0, k, g, a, b, ha, hb, hm, _ => by have := pop6_le b; omega
  | m + 1, 0, g, a, b, ha, hb, hm, hk => by omega
  | m + 1, k + 1, g, a, b, ha, hb, hm, hk => by
    rw [gone, ownY]
    by_cases e : nx (nI a) = -1
    · rw [if_pos e, if_pos e]
    · rw [if_neg e, if_neg e]
      rcases hN (nI a) with h | ⟨j, hj, h⟩
      · exact absurd h e
      · rw [h, m64b b hb j hj]
        by_cases e2 : b.testBit j = true
        · rw [if_pos e2, if_pos e2]
        · rw [if_neg e2, if_neg e2, m64c b hb j hj]
          have e3 : b.testBit j = false := by simpa using e2
          have := m64a b hb j hj e3
          exact gone_own hN m k (g + 1) j _ hj (m64d b hb j hj) (by omega) (by omega)
theorem own_it {nx : Int32 → Int32} (hN : NX nx) : ∀ (m g a b : Nat), a < 6 → b < 64 → 6 < m + pop6 b → b.testBit a = true → (∀ i, i < 6 → b.testBit i = true → i ≠ a → nx (nI i) ≠ -1) → ∃ w, (ownY nx m g (nI a) (nI b)).2 = g + w ∧ (ownY nx m g (nI a) (nI b)).1 = (if nx (itN nx w (nI a)) = -1 then itN nx w (nI a) else -1000007)
  | 0, g, a, b, ha, hb, hm, _, _ => by have := pop6_le b; omega
  | m + 1, g, a, b, ha, hb, hm, hba, hI => by
    rw [ownY]
    by_cases e : nx (nI a) = -1
    · rw [if_pos e]
      exact ⟨0, rfl, by rw [itN, if_pos e]⟩
    · rw [if_neg e]
      rcases hN (nI a) with h | ⟨j, hj, h⟩
      · exact absurd h e
      · rw [h, m64b b hb j hj]
        by_cases e2 : b.testBit j = true
        · rw [if_pos e2]
          refine ⟨1, rfl, ?_⟩
          rw [itN, itN, h, if_neg]
          by_cases e3 : j = a
          · subst e3; exact e
          · exact hI j hj e2 e3
        · rw [if_neg e2, m64c b hb j hj]
          have e3 : b.testBit j = false := by simpa using e2
          have hp := m64a b hb j hj e3
          obtain ⟨w, h1, h2⟩ := own_it hN m (g + 1) j (b ||| 2 ^ j) hj (m64d b hb j hj) (by omega) (by rw [m64g b hb j hj j hj]; simp) (fun i hi hb2 hne => by
            rw [m64g b hb j hj i hi] at hb2
            have hb3 : b.testBit i = true := by simpa [hne] using hb2
            by_cases e4 : i = a
            · subst e4; exact e
            · exact hI i hi hb3 e4)
          exact ⟨w + 1, by rw [h1]; omega, by rw [h2, itN, h]⟩
def own0 (nx : Int32 → Int32) (a : Int32) : Int32 × Nat := ownY nx 7 0 a (1 <<< (a &&& 31))
theorem own0_gone {nx : Int32 → Int32} (hN : NX nx) {a : Nat} (ha : a < 6) : gone nx 6 0 (nI a) (1 <<< (nI a &&& 31)) = nI (own0 nx (nI a)).2 := by
  obtain ⟨e1, e2, e3⟩ := m64e a ha
  rw [own0, e1]
  exact gone_own hN 6 7 0 a _ ha e3 (by omega) (by omega)
theorem own0_it {nx : Int32 → Int32} (hN : NX nx) {a : Nat} (ha : a < 6) : (own0 nx (nI a)).1 = (if nx (itN nx (own0 nx (nI a)).2 (nI a)) = -1 then itN nx (own0 nx (nI a)).2 (nI a) else -1000007) := by
  obtain ⟨e1, e2, e3⟩ := m64e a ha
  rw [own0, e1]
  obtain ⟨w, h1, h2⟩ := own_it hN 7 0 a _ ha e3 (by omega) (by rw [m64f a ha a ha]; simp) (fun i hi hb hne => by
    rw [m64f a ha i hi] at hb
    exact absurd (of_decide_eq_true hb) hne)
  rw [h1, Nat.zero_add, h2]
theorem gone_le (nx : Int32 → Int32) : ∀ (m g : Nat) (a b : Int32), ∃ w, w ≤ m ∧ gone nx m g a b = nI (g + w)
  | 0, g, a, b => ⟨0, Nat.le_refl _, rfl⟩
  | m + 1, g, a, b => by
    rw [gone]
    by_cases e : nx a = -1
    · exact ⟨0, by omega, by rw [if_pos e]; rfl⟩
    · rw [if_neg e]
      by_cases e2 : hasB b (nx a) = true
      · exact ⟨1, by omega, by rw [if_pos e2]⟩
      · rw [if_neg e2]
        obtain ⟨w, h1, h2⟩ := gone_le nx m (g + 1) (nx a) _
        exact ⟨w + 1, by omega, by rw [h2, show g + 1 + w = g + (w + 1) by omega]⟩
theorem itN_cases {nx : Int32 → Int32} (hN : NX nx) : ∀ (k : Nat) (a : Int32), (a = -1 ∨ ∃ j, j < 6 ∧ a = nI j) → itN nx k a = -1 ∨ ∃ j, j < 6 ∧ itN nx k a = nI j
  | 0, a, h => h
  | k + 1, a, _ => itN_cases hN k (nx a) (hN a)
theorem own_cases {nx : Int32 → Int32} (hN : NX nx) : ∀ (m g : Nat) (a b : Int32), (∃ j, j < 6 ∧ a = nI j) → (ownY nx m g a b).1 = -1000007 ∨ ∃ j, j < 6 ∧ (ownY nx m g a b).1 = nI j
  | 0, g, a, b, h => Or.inr h
  | m + 1, g, a, b, h => by
    rw [ownY]
    by_cases e : nx a = -1
    · rw [if_pos e]; exact Or.inr h
    · rw [if_neg e]
      by_cases e2 : hasB b (nx a) = true
      · rw [if_pos e2]; exact Or.inl rfl
      · rw [if_neg e2]
        rcases hN a with h1 | h1
        · exact absurd h1 e
        · exact own_cases hN m (g + 1) (nx a) _ h1
