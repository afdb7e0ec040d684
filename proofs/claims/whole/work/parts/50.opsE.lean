theorem fst_stay {p : Nat → Bool} {c : Nat} (hc : p c = true) : ∀ n, c < n → fst p n = fst p (c + 1)
  | 0, h => absurd h (Nat.not_lt_zero _)
  | n + 1, h => by
    by_cases e : c = n
    · rw [e]
    · have h1 := fst_cap hc n (by omega)
      have h2 := fst_stay hc n (by omega)
      rw [fst, if_pos (by omega), h2]
theorem fst_all {p : Nat → Bool} {n : Nat} (h : fst p n = n) : ∀ j9, j9 < n → p j9 = false := by
  intro j9 hj9
  cases e : p j9
  · rfl
  · have := fst_cap e n hj9
    omega
theorem sh256 : ∀ m, m < 256 → inB (nI m - 48) 0 4 = inB (nI m) 48 52 ∧ inB (nI m - 48) 0 5 = inB (nI m) 48 53 ∧ inB (nI m - 48) 0 3 = inB (nI m) 48 51 ∧ inB (nI m - 48) 1 9 = inB (nI m) 49 57 := by decide +kernel
theorem st_ft {f : Nat → Int32} {p : Nat} (hB : Bd f 256) (hp : p < 60) : stB f p = ftB f p := by
  obtain ⟨m, hm, e⟩ := hB p
  obtain ⟨s1, s2, s3, s4⟩ := sh256 m hm
  rw [← e] at s1 s2 s3 s4
  simp only [stB, ftB, stB2, ftB2]
  by_cases c0 : p % 5 = 0
  · rw [if_pos c0, if_pos c0, c0, Nat.sub_zero, decide_eq_true hp, Bool.and_true]
  · rw [if_neg c0, if_neg c0]
    by_cases z : f (p - p % 5) = 97
    · simp only [if_pos z, s1, s2, s4]
    · simp only [if_neg z, s2, s3]
theorem wt_eq {f : Nat → Int32} (hB : Bd f 256) (l : Nat) : ftN f l = wpN f l := by
  have hP : ∀ p, p < 61 → (!ftB f p) = !(decide (p < 60) && stB f p) := by
    intro p hp
    by_cases e : p = 60
    · subst e
      rw [ftB_60]
      rfl
    · rw [decide_eq_true (show p < 60 by omega), Bool.true_and, st_ft hB (by omega)]
  rw [ftN, wpN]
  by_cases hl : l ≤ 61
  · exact fst_cong (fun p hp => hP p (by omega))
  · rw [fst_stay (p := fun p => !ftB f p) (c := 60) (by simp [ftB_60]) l (by omega), fst_stay (p := fun p => !(decide (p < 60) && stB f p)) (c := 60) (by simp) l (by omega)]
    exact fst_cong hP
theorem okt_eq {f : Nat → Int32} (hB : Bd f 256) (l : Nat) : okTy f l = okTx f l := by rw [okTy, okTx, wt_eq hB]
theorem ldH_at {h : Hp} {rr : Nat} : ∀ n r, r < n → ldH h rr n 29 r = h 28 (5 * r) ∧ ldH h rr n 30 r = h 28 (5 * r + 1) - 48 ∧ ldH h rr n 31 r = h 28 (5 * r + 2) - 48 ∧ ldH h rr n 32 r = h 28 (5 * r + 3) - 48
  | 0, r, hr => absurd hr (Nat.not_lt_zero _)
  | n + 1, r, hr => by
    rw [ldH]
    by_cases e : r = n
    · subst e
      refine ⟨?_, ?_, ?_, ?_⟩
      · rw [put_n (by decide), put_n (by decide), put_n (by decide), put_s]
      · rw [put_n (by decide), put_n (by decide), put_s]
      · rw [put_n (by decide), put_s]
      · rw [put_s]
    · obtain ⟨q1, q2, q3, q4⟩ := ldH_at (h := h) (rr := rr) n r (by omega)
      refine ⟨?_, ?_, ?_, ?_⟩
      · rw [put_n (by decide), put_n (by decide), put_n (by decide), put_i e]; exact q1
      · rw [put_n (by decide), put_n (by decide), put_i e, put_n (by decide)]; exact q2
      · rw [put_n (by decide), put_i e, put_n (by decide), put_n (by decide)]; exact q3
      · rw [put_i e, put_n (by decide), put_n (by decide), put_n (by decide)]; exact q4
theorem ldH_n {h : Hp} {rr k : Nat} (h5 : k ≠ 5) (hk : k < 29 ∨ 32 < k) : ∀ r, ldH h rr r k = h k
  | 0 => by rw [ldH, put_n h5]
  | r + 1 => by rw [ldH, put_n (by omega), put_n (by omega), put_n (by omega), put_n (by omega)]; exact ldH_n h5 hk r
theorem txH_at {h : Hp} {rr : Nat} : ∀ n r, r < n → txH h rr n 16 (4 * r) = (if h 15 (5 * r) = 97 then 1 else 0) ∧ txH h rr n 16 (4 * r + 1) = h 15 (5 * r + 1) - 48 ∧ txH h rr n 16 (4 * r + 2) = h 15 (5 * r + 2) - 48 ∧ txH h rr n 16 (4 * r + 3) = h 15 (5 * r + 3) - 48
  | 0, r, hr => absurd hr (Nat.not_lt_zero _)
  | n + 1, r, hr => by
    rw [txH]
    by_cases e : r = n
    · subst e
      refine ⟨?_, ?_, ?_, ?_⟩
      · rw [put_i (by omega), put_i (by omega), put_i (by omega), put_s]
      · rw [put_i (by omega), put_i (by omega), put_s]
      · rw [put_i (by omega), put_s]
      · rw [put_s]
    · obtain ⟨q1, q2, q3, q4⟩ := txH_at (h := h) (rr := rr) n r (by omega)
      refine ⟨?_, ?_, ?_, ?_⟩
      · rw [put_i (by omega), put_i (by omega), put_i (by omega), put_i (by omega)]; exact q1
      · rw [put_i (by omega), put_i (by omega), put_i (by omega), put_i (by omega)]; exact q2
      · rw [put_i (by omega), put_i (by omega), put_i (by omega), put_i (by omega)]; exact q3
      · rw [put_i (by omega), put_i (by omega), put_i (by omega), put_i (by omega)]; exact q4
theorem txH_n {h : Hp} {rr k : Nat} (h5 : k ≠ 0) (hk : k ≠ 16) : ∀ r, txH h rr r k = h k
  | 0 => by rw [txH, put_n h5]
  | r + 1 => by rw [txH, put_n hk, put_n hk, put_n hk, put_n hk]; exact txH_n h5 hk r
theorem txH_0 {h : Hp} {rr i : Nat} (hi : i ≠ 19) : ∀ r, txH h rr r 0 i = h 0 i
  | 0 => by rw [txH, put_i hi]
  | r + 1 => by rw [txH, put_n (by decide), put_n (by decide), put_n (by decide), put_n (by decide)]; exact txH_0 hi r
theorem inB_1k {v : Int32} (k : Nat) (b : inB v 1 (nI k) = true) (hk : k < 2 ^ 31 := by decide) : ∃ m, 1 ≤ m ∧ m < k + 1 ∧ v = nI m := by
  obtain ⟨h1, h2⟩ := inB_iff.mp b
  have h0 : inB v 0 (nI k) = true := inB_iff.mpr ⟨Int32.le_trans (by decide) h1, h2⟩
  obtain ⟨m, hm, rfl⟩ := inB_ex k h0 hk
  refine ⟨m, ?_, hm, rfl⟩
  exact (nI_leI (a := 1) (by decide) (by omega)).mp h1
/-- a row of a text that may stand -/
theorem st_row {f : Nat → Int32} {r : Nat} (h0 : stB f (5 * r) = true) (h1 : stB f (5 * r + 1) = true) (h2 : stB f (5 * r + 2) = true) (h3 : stB f (5 * r + 3) = true) : (f (5 * r) = 97 ∧ (∃ k, k < 5 ∧ f (5 * r + 1) - 48 = nI k) ∧ (∃ k, k < 6 ∧ f (5 * r + 2) - 48 = nI k) ∧ ∃ k, 1 ≤ k ∧ k < 10 ∧ f (5 * r + 3) - 48 = nI k) ∨ (¬ f (5 * r) = 97 ∧ f (5 * r) = 115 ∧ (∃ k, k < 6 ∧ f (5 * r + 1) - 48 = nI k) ∧ (∃ k, k < 4 ∧ f (5 * r + 2) - 48 = nI k) ∧ ∃ k, k < 6 ∧ f (5 * r + 3) - 48 = nI k) := by
  rw [stB, stB2, show 5 * r % 5 = 0 by omega, if_pos rfl, Nat.sub_zero, Bool.or_eq_true, decide_eq_true_eq, decide_eq_true_eq] at h0
  rw [stB, stB2, show (5 * r + 1) % 5 = 1 by omega, show 5 * r + 1 - 1 = 5 * r by omega, if_neg (by decide), if_pos rfl] at h1
  rw [stB, stB2, show (5 * r + 2) % 5 = 2 by omega, show 5 * r + 2 - 2 = 5 * r by omega, if_neg (by decide), if_neg (by decide), if_pos rfl] at h2
  rw [stB, stB2, show (5 * r + 3) % 5 = 3 by omega, show 5 * r + 3 - 3 = 5 * r by omega, if_neg (by decide), if_neg (by decide), if_neg (by decide), if_pos rfl] at h3
  by_cases z : f (5 * r) = 97
  · rw [if_pos z] at h1 h2 h3
    exact Or.inl ⟨z, inB_ex 4 h1, inB_ex 5 h2, inB_1k 9 h3⟩
  · rw [if_neg z] at h1 h2 h3
    rw [Bool.and_eq_true] at h3
    exact Or.inr ⟨z, h0.resolve_left z, inB_ex 5 h1, inB_ex 3 h2, inB_ex 5 h3.1⟩
theorem RD_text {h g : Hp} {l : Nat} (hB : Bd (h 28) 256) (he : g 15 = h 28) (hok : okTx (h 28) l = true) : RD (put (ldH h (l / 5) (l / 5)) 4 1 0) (txH (put g 0 17 0) (l / 5) (l / 5)) 0 (l / 5) := by
  rw [okTx, Bool.and_eq_true, decide_eq_true_eq, decide_eq_true_eq] at hok
  obtain ⟨h1, h2⟩ := hok
  have h60 := wpN_60 h1
  have hall := fst_all h1
  have hst : ∀ p, p < l → stB (h 28) p = true := by
    intro p hp
    have := hall p hp
    simp only [Bool.not_eq_false', Bool.and_eq_true] at this
    exact this.2
  have e29 : ∀ r, r < l / 5 → put (ldH h (l / 5) (l / 5)) 4 1 0 29 r = h 28 (5 * r) := fun r hr => by rw [put_n (by decide)]; exact (ldH_at _ r hr).1
  have e30 : ∀ r, r < l / 5 → put (ldH h (l / 5) (l / 5)) 4 1 0 30 r = h 28 (5 * r + 1) - 48 := fun r hr => by rw [put_n (by decide)]; exact (ldH_at _ r hr).2.1
  have e31 : ∀ r, r < l / 5 → put (ldH h (l / 5) (l / 5)) 4 1 0 31 r = h 28 (5 * r + 2) - 48 := fun r hr => by rw [put_n (by decide)]; exact (ldH_at _ r hr).2.2.1
  have e32 : ∀ r, r < l / 5 → put (ldH h (l / 5) (l / 5)) 4 1 0 32 r = h 28 (5 * r + 3) - 48 := fun r hr => by rw [put_n (by decide)]; exact (ldH_at _ r hr).2.2.2
  have ep : put g 0 17 0 15 = h 28 := by rw [put_n (by decide)]; exact he
  refine ⟨put_s, ?_, by omega, ?_, ?_, ?_, txH_19 _, by omega, ?_, ?_⟩
  · rw [txH_0 (by decide), put_s]; rfl
  · rw [txH_n (by decide) (by decide), put_n (by decide), put_n (by decide), ldH_28]; exact he
  · rw [put_n (by decide), ldH_28]; exact hB
  · rw [put_n (by decide)]; exact ldH_5 _
  · intro r hr
    have hrow := st_row (hst (5 * r) (by omega)) (hst (5 * r + 1) (by omega)) (hst (5 * r + 2) (by omega)) (hst (5 * r + 3) (by omega))
    simp only [gvX, sdX, e29 r hr, e30 r hr, e31 r hr, e32 r hr, decide_eq_true_eq, decide_eq_false_iff_not]
    rcases hrow with ⟨q1, q2, q3, q4⟩ | ⟨q0, q1, q2, q3, q4⟩
    · exact Or.inl ⟨q1, by rw [q1]; decide, q2, q3, q4⟩
    · exact Or.inr ⟨q0, q1, q2, q3, q4⟩
  · intro r hr
    have hrow := st_row (hst (5 * r) (by omega)) (hst (5 * r + 1) (by omega)) (hst (5 * r + 2) (by omega)) (hst (5 * r + 3) (by omega))
    obtain ⟨y0, y1, y2, y3⟩ := txH_at (h := put g 0 17 0) (rr := l / 5) (l / 5) r hr
    rw [ep] at y0 y1 y2 y3
    simp only [gvX, sdX, gvY, sdY, e29 r hr, e30 r hr, e31 r hr, e32 r hr, y0, y1, y2, y3, and_self, and_true]
    rcases hrow with ⟨q1, q2, q3, q4⟩ | ⟨q0, q1, q2, q3, q4⟩
    · rw [q1]; decide
    · rw [q1]; decide
set_option maxHeartbeats 4000000 in
theorem op_text {E E2 : Ev} {h g : Hp} (hR : Rel h g)  : OP yX8_text cX8_text 2 yX9_text cX9_text 5 E E2 [] h g := by
  have hR0 := hR
  obtain ⟨nA, nT, nL, nR, hA, hT, hD, hM, hS, hf⟩ := hR
  have hA0 := hA
  have hT0 := hT
  have hD0 := hD
  have hM0 := hM
  obtain ⟨a1, a2, a3, a4, a5, a6, a7, a8, a9, a10, a11, aB⟩ := hA
  obtain ⟨t1, t2, t3, t4, t5, t6, t7, t8, tB1, tB2, tB3, t9, t10⟩ := hT
  obtain ⟨d1, d2, d3, d4, d5, d6, d7, d8, dV, d9⟩ := hD
  obtain ⟨m1, m2, m3, m4, m5, m6, mE⟩ := hM
  have e01 : g 0 1 = h 1 8 := a2.trans a1.symm
  have e010 : g 0 10 = h 2 6 := t2.trans t1.symm
  have e017 : g 0 17 = h 4 1 := d2.trans d1.symm
  have e019 : g 0 19 = h 5 4 := d7.trans d6.symm
  have e00 : g 0 0 = h 0 11 := hf.symm
  have aBY : AB (g 1) (g 2) (g 3) (g 4) (g 5) (g 7) (g 8) := by rw [a4, a5, a6, a7, a8, a10, a11]; exact aB
  have t40 : nT ≤ 40 := Nat.le_trans t3 a3
  have tB1Y : Bd (g 9) 40 := by rw [t4]; exact tB1
  have tB2Y : Bd (g 10) 2 := by rw [t5]; exact tB2
  have tB3Y : Bd (g 13) 6 := by rw [t8]; exact tB3
  have dY : TVY (g 16) nR := by
    intro r hr
    obtain ⟨q1, q2, q3, q4, q5⟩ := d9 r hr
    rw [← q1, ← q2, show d1Y (g 16) r = h 30 r from q3.symm, show d2Y (g 16) r = h 31 r from q4.symm, show d3Y (g 16) r = h 32 r from q5.symm]
    exact dV r hr
  have kX := k_X8_text (E := E) (d := 40) (by decide) d1 d3
  have kY := k_X9_text (E := E2) (d := 40) (by decide) d2 d3
  rw [d4, okt_eq d5, wt_eq d5] at kY
  by_cases z : okTx (h 28) nL = true
  · rw [if_pos z, if_pos z] at kX kY
    have e0 : ∀ i, i ≠ 17 → i ≠ 19 → txH (put g 0 17 0) (nL / 5) (nL / 5) 0 i = g 0 i := fun i h1 h2 => by rw [txH_0 h2, put_i h1]
    refine OP_of kX kY rfl ⟨nA, nT, 0, nL / 5, RA_cong hA0 ?_ ?_ ?_ ?_, RT_cong hT0 ?_ ?_ ?_ ?_, RD_text d5 d4 z, RM_cong hM0 ?_ ?_, RS_cong hS ?_ ?_, ?_⟩
    · rw [put_n (by decide), ldH_n (by decide) (by omega)]
    · exact e0 1 (by decide) (by decide)
    · exact fun k h1 h2 => by rw [put_n (by omega), ldH_n (by omega) (by omega)]
    · exact fun k h1 h2 => by rw [txH_n (by omega) (by omega), put_n (by omega)]
    · rw [put_n (by decide), ldH_n (by decide) (by omega)]
    · exact e0 10 (by decide) (by decide)
    · exact fun k h1 h2 => by rw [put_n (by omega), ldH_n (by omega) (by omega)]
    · exact fun k h1 h2 => by rw [txH_n (by omega) (by omega), put_n (by omega)]
    · exact fun k h1 => by rw [put_n (by omega), ldH_n (by omega) (by omega)]
    · exact fun k h1 h2 => by rw [txH_n (by omega) (by omega), put_n (by omega)]
    · exact fun k h1 => by rw [put_n (by omega), ldH_n (by omega) (by omega)]
    · exact fun k h1 h2 => by rw [txH_n (by omega) (by omega), put_n (by omega)]
    · rw [put_n (by decide), ldH_n (by decide) (by omega), e0 0 (by decide) (by decide)]; exact hf
  · rw [if_neg z, if_neg z] at kX kY
    have hR1 : Rel (put h 4 1 0) (put g 0 17 0) := by
      refine ⟨nA, nT, 0, nR, RA_cong hA0 ?_ ?_ ?_ ?_, RT_cong hT0 ?_ ?_ ?_ ?_, ?_, RM_cong hM0 ?_ ?_, RS_cong hS ?_ ?_, ?_⟩
      · rw [put_n (by decide)]
      · rw [put_i (by decide)]
      · exact fun k h1 h2 => put_n (by omega)
      · exact fun k h1 h2 => put_n (by omega)
      · rw [put_n (by decide)]
      · rw [put_i (by decide)]
      · exact fun k h1 h2 => put_n (by omega)
      · exact fun k h1 h2 => put_n (by omega)
      · refine ⟨put_s, put_s, by omega, ?_, ?_, ?_, ?_, d8, ?_, ?_⟩
        · rw [put_n (by decide), put_n (by decide)]; exact d4
        · rw [put_n (by decide)]; exact d5
        · rw [put_n (by decide)]; exact d6
        · rw [put_i (by decide)]; exact d7
        · have : ∀ k, k ≠ 4 → put h 4 1 0 k = h k := fun k hk => put_n hk
          simp only [TVX, gvX, sdX, this 29 (by decide), this 30 (by decide), this 31 (by decide), this 32 (by decide)]
          exact dV
        · have : ∀ k, k ≠ 4 → put h 4 1 0 k = h k := fun k hk => put_n hk
          have e16 : put g 0 17 0 16 = g 16 := put_n (by decide)
          simp only [gvX, sdX, this 29 (by decide), this 30 (by decide), this 31 (by decide), this 32 (by decide), e16]
          exact d9
      · exact fun k h1 => put_n (by omega)
      · exact fun k h1 h2 => put_n (by omega)
      · exact fun k h1 => put_n (by omega)
      · exact fun k h1 h2 => put_n (by omega)
      · rw [put_n (by decide), put_i (by decide)]; exact hf
    exact OP_of kX kY rfl (Rel_fi hR1)
