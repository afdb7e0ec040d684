/-! a crew's order: all orders in turn, the first of the best -/
abbrev Bst : Type := Nat × Nat × (Nat → Nat)
abbrev Sst : Type := Nat × Nat × Nat
def anyP (p : Nat → Nat) : Nat → Nat → Bool
  | 0, _ => false
  | dp + 1, i => anyP p dp i || decide (p dp = i)
theorem anyP_cong {p q : Nat → Nat} : ∀ {dp : Nat}, (∀ j9, j9 < dp → p j9 = q j9) → ∀ i, anyP p dp i = anyP q dp i
  | 0, _, _ => rfl
  | dp + 1, h, i => by rw [anyP, anyP, anyP_cong (fun j9 hj => h j9 (by omega)) i, h dp (by omega)]
def fl (f : Nat → Bst → Bst) : Nat → Bst → Bst
  | 0, B => B
  | i + 1, B => f i (fl f i B)
def btr (s : Sst) (B : Bst) : Prop := s.2.2 < B.1 ∨ (s.2.2 = B.1 ∧ s.2.1 < B.2.1)
noncomputable def updB (B : Bst) (s : Sst) (p : Nat → Nat) : Bst := if s.2.2 < B.1 ∨ (s.2.2 = B.1 ∧ s.2.1 < B.2.1) then (s.2.2, s.2.1, p) else B
noncomputable def srch (N : Sst → Nat → Sst) (m : Nat) : Nat → Nat → (Nat → Nat) → Sst → Bst → Bst
  | 0, _, p, s, B => updB B s p
  | r + 1, dp, p, s, B => fl (fun i B' => if anyP p dp i then B' else srch N m r (dp + 1) (cx p dp i) (N s i) B') m B
theorem updB_y {B : Bst} {s : Sst} {p : Nat → Nat} (h : btr s B) : updB B s p = (s.2.2, s.2.1, p) := if_pos h
theorem updB_n {B : Bst} {s : Sst} {p : Nat → Nat} (h : ¬ btr s B) : updB B s p = B := if_neg h
theorem fl_id {f : Nat → Bst → Bst} {B : Bst} (h : ∀ i, f i B = B) : ∀ m, fl f m B = B
  | 0 => rfl
  | m + 1 => by rw [fl, fl_id h m, h m]
def mono (N : Sst → Nat → Sst) : Prop := ∀ s i, s.2.1 ≤ (N s i).2.1 ∧ s.2.2 ≤ (N s i).2.2
theorem srch_cut {N : Sst → Nat → Sst} (hN : mono N) {m : Nat} : ∀ (r dp : Nat) (p : Nat → Nat) (s : Sst) (B : Bst), ¬ btr s B → srch N m r dp p s B = B
  | 0, dp, p, s, B, h => updB_n h
  | r + 1, dp, p, s, B, h => by
    rw [srch]
    apply fl_id
    intro i
    by_cases e : anyP p dp i = true
    · rw [if_pos e]
    · rw [if_neg e]
      apply srch_cut hN r
      intro z
      obtain ⟨h1, h2⟩ := hN s i
      apply h
      simp only [btr] at z ⊢
      omega
/-- what stays true of the best -/
def OKB (m : Nat) (B : Bst) : Prop := B.1 ≤ m + 1 ∧ B.2.1 ≤ 50 * m ∧ (B.1 ≤ m → ∀ j9, j9 < m → B.2.2 j9 < m)
def OKN (m : Nat) (N : Sst → Nat → Sst) : Prop := ∀ s i, i < m → (N s i).2.1 ≤ s.2.1 + 50 ∧ (N s i).2.2 ≤ s.2.2 + 1
theorem cx_lt {p : Nat → Nat} {dp i m : Nat} (h : ∀ j9, j9 < dp → p j9 < m) (hi : i < m) : ∀ j9, j9 < dp + 1 → cx p dp i j9 < m := by
  intro j9 hj
  by_cases e : j9 = dp
  · rw [e, cx_s]; exact hi
  · rw [cx_n e]; exact h j9 (by omega)
theorem srch_ok {N : Sst → Nat → Sst} {m : Nat} (hO : OKN m N) : ∀ (r dp : Nat) (p : Nat → Nat) (s : Sst) (B : Bst), dp + r = m → s.2.1 ≤ 50 * dp → s.2.2 ≤ dp → (∀ j9, j9 < dp → p j9 < m) → OKB m B → OKB m (srch N m r dp p s B) ∧ (srch N m r dp p s B).1 ≤ B.1
  | 0, dp, p, s, B, hm, h1, h2, h3, hB => by
    rw [srch]
    obtain rfl : dp = m := by omega
    by_cases z : btr s B
    · rw [updB_y z]
      refine ⟨⟨by show s.2.2 ≤ _; omega, h1, fun _ => h3⟩, ?_⟩
      show s.2.2 ≤ B.1
      simp only [btr] at z
      omega
    · rw [updB_n z]; exact ⟨hB, Nat.le_refl _⟩
  | r + 1, dp, p, s, B, hm, h1, h2, h3, hB => by
    rw [srch]
    have key : ∀ i, i ≤ m → OKB m (fl (fun i B' => if anyP p dp i then B' else srch N m r (dp + 1) (cx p dp i) (N s i) B') i B) ∧ (fl (fun i B' => if anyP p dp i then B' else srch N m r (dp + 1) (cx p dp i) (N s i) B') i B).1 ≤ B.1 := by
      intro i
      induction i with
      | zero => intro _; exact ⟨hB, Nat.le_refl _⟩
      | succ i ih =>
        intro hi
        obtain ⟨y1, y2⟩ := ih (by omega)
        rw [fl]
        by_cases e : anyP p dp i = true
        · rw [if_pos e]; exact ⟨y1, y2⟩
        · rw [if_neg e]
          obtain ⟨o1, o2⟩ := hO s i (by omega)
          obtain ⟨z1, z2⟩ := srch_ok hO r (dp + 1) (cx p dp i) (N s i) _ (by omega) (by omega) (by omega) (cx_lt h3 (by omega)) y1
          exact ⟨z1, Nat.le_trans z2 y2⟩
    exact key m (Nat.le_refl _)
theorem fl_ok {N : Sst → Nat → Sst} {m : Nat} (hO : OKN m N) {r dp : Nat} {p : Nat → Nat} {s : Sst} {B : Bst} (hm : dp + r + 1 = m) (h1 : s.2.1 ≤ 50 * dp) (h2 : s.2.2 ≤ dp) (h3 : ∀ j9, j9 < dp → p j9 < m) (hB : OKB m B) : ∀ i, i ≤ m → OKB m (fl (fun i B' => if anyP p dp i then B' else srch N m r (dp + 1) (cx p dp i) (N s i) B') i B) ∧ (fl (fun i B' => if anyP p dp i then B' else srch N m r (dp + 1) (cx p dp i) (N s i) B') i B).1 ≤ B.1 := by
  intro i
  induction i with
  | zero => intro _; exact ⟨hB, Nat.le_refl _⟩
  | succ i ih =>
    intro hi
    obtain ⟨y1, y2⟩ := ih (by omega)
    rw [fl]
    by_cases e : anyP p dp i = true
    · rw [if_pos e]; exact ⟨y1, y2⟩
    · rw [if_neg e]
      obtain ⟨o1, o2⟩ := hO s i (by omega)
      obtain ⟨z1, z2⟩ := srch_ok hO r (dp + 1) (cx p dp i) (N s i) _ (by omega) (by omega) (by omega) (cx_lt h3 (by omega)) y1
      exact ⟨z1, Nat.le_trans z2 y2⟩
/-- one is left -/
theorem cnt_or {q : Nat → Bool} {a : Nat} : ∀ m, cnt (fun i => q i || decide (a = i)) m ≤ cnt q m + 1 ∧ (m ≤ a → cnt (fun i => q i || decide (a = i)) m = cnt q m)
  | 0 => ⟨Nat.zero_le _, fun _ => rfl⟩
  | m + 1 => by
    obtain ⟨h1, h2⟩ := cnt_or (q := q) (a := a) m
    rw [cnt, cnt]
    by_cases e : a = m
    · have h3 := h2 (by omega)
      refine ⟨?_, fun z => by omega⟩
      cases hq : q m <;> simp [e] <;> (rw [e] at h3; omega)
    · have h4 : (q m || decide (a = m)) = q m := by rw [decide_eq_false e, Bool.or_false]
      rw [h4]
      refine ⟨?_, fun z => ?_⟩
      · cases q m <;> simp <;> omega
      · rw [h2 (by omega)]
theorem cnt_any {p : Nat → Nat} {m : Nat} : ∀ dp, cnt (anyP p dp) m ≤ dp
  | 0 => by
    have : ∀ m, cnt (anyP p 0) m = 0 := by
      intro m
      induction m with
      | zero => rfl
      | succ m ih => rw [cnt, ih]; rfl
    rw [this]
    exact Nat.le_refl _
  | dp + 1 => by
    have h1 := cnt_any (p := p) (m := m) dp
    have h2 := (cnt_or (q := anyP p dp) (a := p dp) m).1
    have h3 : anyP p (dp + 1) = fun i => anyP p dp i || decide (p dp = i) := by funext i; rfl
    rw [h3]
    omega
theorem cnt_all {q : Nat → Bool} : ∀ {m : Nat}, (∀ i, i < m → q i = true) → cnt q m = m
  | 0, _ => rfl
  | m + 1, h => by rw [cnt, cnt_all (fun i hi => h i (by omega)), h m (by omega)]; rfl
theorem left_one {p : Nat → Nat} {dp m : Nat} (h : dp < m) : ∃ i, i < m ∧ anyP p dp i = false := by
  apply Classical.byContradiction
  intro z
  have h1 := cnt_any (p := p) (m := m) dp
  have h2 : cnt (anyP p dp) m = m := cnt_all (fun i hi => by
    cases e : anyP p dp i
    · exact absurd ⟨i, hi, e⟩ z
    · rfl)
  omega
theorem srch_le {N : Sst → Nat → Sst} {m : Nat} (hO : OKN m N) : ∀ (r dp : Nat) (p : Nat → Nat) (s : Sst) (B : Bst), dp + r = m → s.2.1 ≤ 50 * dp → s.2.2 ≤ dp → (∀ j9, j9 < dp → p j9 < m) → OKB m B → (srch N m r dp p s B).1 ≤ m
  | 0, dp, p, s, B, hm, h1, h2, h3, hB => by
    rw [srch]
    by_cases z : btr s B
    · rw [updB_y z]
      show s.2.2 ≤ m
      omega
    · rw [updB_n z]
      simp only [btr] at z
      omega
  | r + 1, dp, p, s, B, hm, h1, h2, h3, hB => by
    rw [srch]
    obtain ⟨i, hi, hn⟩ := left_one (p := p) (show dp < m by omega)
    have hst : ∀ k9, i < k9 → k9 ≤ m → (fl (fun i B' => if anyP p dp i then B' else srch N m r (dp + 1) (cx p dp i) (N s i) B') k9 B).1 ≤ m := by
      intro k9
      induction k9 with
      | zero => intro z; omega
      | succ k9 ih =>
        intro z1 z2
        obtain ⟨y1, y2⟩ := fl_ok (N := N) (r := r) hO (by omega) h1 h2 h3 hB k9 (by omega)
        obtain ⟨o1, o2⟩ := hO s k9 (by omega)
        rw [fl]
        by_cases e : anyP p dp k9 = true
        · rw [if_pos e]
          have : i ≠ k9 := fun z => by rw [z, e] at hn; cases hn
          exact ih (by omega) (by omega)
        · rw [if_neg e]
          exact srch_le hO r (dp + 1) (cx p dp k9) (N s k9) _ (by omega) (by omega) (by omega) (cx_lt h3 (by omega)) y1
    exact hst m hi (Nat.le_refl _)
/-- the state along a path -/
def sQ (N : Sst → Nat → Sst) (s0 : Sst) (p : Nat → Nat) : Nat → Sst
  | 0 => s0
  | k9 + 1 => N (sQ N s0 p k9) (p k9)
theorem sQ_cong {N : Sst → Nat → Sst} {s0 : Sst} {p q : Nat → Nat} : ∀ {dp : Nat}, (∀ j9, j9 < dp → p j9 = q j9) → sQ N s0 p dp = sQ N s0 q dp
  | 0, _ => rfl
  | dp + 1, h => by rw [sQ, sQ, sQ_cong (fun j9 hj => h j9 (by omega)), h dp (by omega)]
theorem sQ_cx {N : Sst → Nat → Sst} {s0 : Sst} {p : Nat → Nat} {dp i : Nat} : sQ N s0 (cx p dp i) (dp + 1) = N (sQ N s0 p dp) i := by
  rw [sQ, cx_s, sQ_cong (q := p) (fun j9 hj => cx_n (by omega))]
/-- the mask of what is done -/
theorem mk2_any {p : Nat → Nat} {dp i : Nat} (hi : i < 6) : mk2 (anyP p dp) 6 ||| 2 ^ i = mk2 (anyP (cx p dp i) (dp + 1)) 6 := by
  apply Nat.eq_of_testBit_eq
  intro t
  rw [Nat.testBit_or, mk2_t, mk2_t, t2p, anyP, cx_s, anyP_cong (q := p) (fun j9 hj => cx_n (by omega))]
  by_cases e : i = t
  · subst e
    rw [decide_eq_true hi]; simp
  · rw [decide_eq_false e]; simp
/-- hours and what is broken, one more thing on -/
def dst (a b : Nat) : Nat := (a - b) + (b - a)
def Nx (px py ef du : Nat → Nat) (day : Nat) (s : Sst) (i : Nat) : Sst :=
  (i, s.2.1 + (dst (px s.1) (px i) + dst (py s.1) (py i)) / 8 + ef i, s.2.2 + (if du i < day + (s.2.1 + (dst (px s.1) (px i) + dst (py s.1) (py i)) / 8 + ef i - 1) / 8 then 1 else 0))
theorem Nx_mono {px py ef du : Nat → Nat} {day : Nat} : mono (Nx px py ef du day) := by
  intro s i
  refine ⟨?_, ?_⟩
  · show s.2.1 ≤ s.2.1 + _ + _
    omega
  · exact Nat.le_add_right _ _
theorem Nx_ok {px py ef du : Nat → Nat} {day m : Nat} (hx : ∀ a, px a < 32) (hy : ∀ a, py a < 32) (he : ∀ a, ef a ≤ 40) : OKN m (Nx px py ef du day) := by
  intro s i hi
  have h1 := hx s.1
  have h2 := hx i
  have h3 := hy s.1
  have h4 := hy i
  have h5 := he i
  refine ⟨?_, ?_⟩
  · show s.2.1 + (dst (px s.1) (px i) + dst (py s.1) (py i)) / 8 + ef i ≤ s.2.1 + 50
    simp only [dst]
    omega
  · show s.2.2 + (if _ then 1 else 0) ≤ s.2.2 + 1
    split <;> omega
/-- the members: which bits, in their order -/
def bp (q : Nat → Bool) (c : Nat) : Nat := fst (fun k9 => q k9 && decide (cnt q k9 = c)) 8
theorem cnt_mono {q : Nat → Bool} : ∀ {a b : Nat}, a ≤ b → cnt q a ≤ cnt q b
  | a, 0, h => by
    obtain rfl : a = 0 := by omega
    exact Nat.le_refl _
  | a, b + 1, h => by
    by_cases e : a = b + 1
    · rw [e]; exact Nat.le_refl _
    · exact Nat.le_trans (cnt_mono (q := q) (show a ≤ b by omega)) (by rw [cnt]; exact Nat.le_add_right _ _)
theorem bp_ex {q : Nat → Bool} {c : Nat} : ∀ n, c < cnt q n → ∃ k9, k9 < n ∧ q k9 = true ∧ cnt q k9 = c
  | 0, h => absurd h (Nat.not_lt_zero _)
  | n + 1, h => by
    by_cases e : c < cnt q n
    · obtain ⟨k9, h1, h2⟩ := bp_ex n e
      exact ⟨k9, by omega, h2⟩
    · rw [cnt] at h
      cases hq : q n
      · rw [hq] at h
        simp at h
        omega
      · rw [hq] at h
        simp at h
        exact ⟨n, by omega, hq, by omega⟩
theorem bp_at {q : Nat → Bool} {c : Nat} (h : c < cnt q 8) : bp q c < 8 ∧ q (bp q c) = true ∧ cnt q (bp q c) = c := by
  obtain ⟨k9, h1, h2, h3⟩ := bp_ex 8 h
  have h4 : bp q c ≤ k9 := fst_cap (p := fun k9 => q k9 && decide (cnt q k9 = c)) (by rw [h2, decide_eq_true h3]; rfl) 8 h1
  have h5 : bp q c < 8 := by omega
  have h6 := fst_true (p := fun k9 => q k9 && decide (cnt q k9 = c)) h5
  rw [Bool.and_eq_true, decide_eq_true_eq] at h6
  exact ⟨h5, h6⟩
theorem bp_of {q : Nat → Bool} {k9 : Nat} (hk : k9 < 8) (hq : q k9 = true) : bp q (cnt q k9) = k9 := by
  refine fst_at (fun j9 hj => ?_) (by rw [hq, decide_eq_true rfl]; rfl) hk
  cases e : q j9
  · rfl
  · have h1 : cnt q (j9 + 1) = cnt q j9 + 1 := by rw [cnt, e]; rfl
    have h2 := cnt_mono (q := q) (show j9 + 1 ≤ k9 by omega)
    rw [decide_eq_false (by omega)]
    rfl
