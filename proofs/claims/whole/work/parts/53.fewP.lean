/-! the reference's fewest: sets by their masks -/
theorem FwS_uniq {M : Nat → Nat → Bool} {u a b : Nat} (h1 : FwS M u a) (h2 : FwS M u b) : a = b := by
  obtain ⟨⟨c1, v1, l1⟩, m1⟩ := h1
  obtain ⟨⟨c2, v2, l2⟩, m2⟩ := h2
  exact Nat.le_antisymm (m1 c2 b v2 l2) (m2 c1 a v1 l1)
theorem t2p (l t : Nat) : (2 ^ l).testBit t = decide (l = t) := by
  by_cases e : l = t
  · subst e; rw [Nat.testBit_two_pow_self, decide_eq_true rfl]
  · rw [Nat.testBit_two_pow_of_ne e, decide_eq_false e]
theorem tb_12 {s t : Nat} (hs : s < 4096) (h : s.testBit t = true) : t < 12 := by
  apply Classical.byContradiction
  intro z
  rw [Nat.testBit_lt_two_pow (Nat.lt_of_lt_of_le (show s < 2 ^ 12 from hs) (Nat.pow_le_pow_right (by decide) (show 12 ≤ t by omega)))] at h
  cases h
theorem tb_n {s n t : Nat} (hs : s < 2 ^ n) (h : s.testBit t = true) : t < n := by
  apply Classical.byContradiction
  intro z
  rw [Nat.testBit_lt_two_pow (Nat.lt_of_lt_of_le hs (Nat.pow_le_pow_right (by decide) (show n ≤ t by omega)))] at h
  cases h
theorem tb_low {s : Nat} (hs : 0 < s) : ∃ l, s.testBit l = true ∧ ∀ j9, j9 < l → s.testBit j9 = false := by
  have h1 : ∃ l, s.testBit l = true := by
    apply Classical.byContradiction
    intro z
    have : s = 0 := by
      apply Nat.eq_of_testBit_eq
      intro i
      rw [Nat.zero_testBit]
      cases e : s.testBit i
      · rfl
      · exact absurd ⟨i, e⟩ z
    omega
  obtain ⟨l, h2, h3⟩ := pk_least _ h1
  exact ⟨l, h2, fun j9 hj => by
    cases e : s.testBit j9
    · rfl
    · exact absurd e (h3 j9 hj)⟩
theorem le_sbs {q r : Nat} (h : sbs q r) : q ≤ r := by
  have : q &&& r = q := by
    apply Nat.eq_of_testBit_eq
    intro i
    rw [Nat.testBit_and]
    cases e : q.testBit i
    · rfl
    · rw [h i e]; rfl
  rw [← this]
  exact Nat.and_le_right
def rs (s l : Nat) : Nat := an s (2 ^ l)
theorem rs_t {s l : Nat} (hs : s < 4096) (t : Nat) : (rs s l).testBit t = (s.testBit t && !decide (l = t)) := by
  rw [rs, an_t (Nat.lt_trans hs (by decide)), t2p]
theorem rs_lt {s l : Nat} (hs : s < 4096) (hl : s.testBit l = true) : rs s l < s := by
  have h1 : rs s l ≤ s := an_le _ _
  have h2 : rs s l ≠ s := by
    intro e
    have := rs_t (l := l) hs l
    rw [e, hl] at this
    simp at this
  omega
theorem own_t {s l q : Nat} (t : Nat) : (q ||| 2 ^ l).testBit t = (q.testBit t || decide (l = t)) := by
  rw [Nat.testBit_or, t2p]
theorem own_sub {s l q : Nat} (hs : s < 4096) (hl : s.testBit l = true) (hq : sbs q (rs s l)) : sbs (q ||| 2 ^ l) s := by
  intro t ht
  rw [own_t (s := s), Bool.or_eq_true, decide_eq_true_eq] at ht
  rcases ht with ht | ht
  · have := hq t ht
    rw [rs_t hs, Bool.and_eq_true] at this
    exact this.1
  · rw [← ht]; exact hl
theorem out_t {s l q : Nat} (hs : s < 4096) (t : Nat) : (an s (q ||| 2 ^ l)).testBit t = (s.testBit t && !(q.testBit t || decide (l = t))) := by
  rw [an_t (Nat.lt_trans hs (by decide)), own_t (s := s)]
theorem out_lt {s l q : Nat} (hs : s < 4096) (hl : s.testBit l = true) : an s (q ||| 2 ^ l) < s := by
  have h1 : an s (q ||| 2 ^ l) ≤ s := an_le _ _
  have h2 : an s (q ||| 2 ^ l) ≠ s := by
    intro e
    have := out_t (l := l) (q := q) hs l
    rw [e, hl] at this
    simp at this
  omega
/-- a set all of which meet -/
theorem clq_step {M : Nat → Nat → Bool} {s l : Nat} (hs : s < 4096) (hl : s.testBit l = true) (hlow : ∀ j9, j9 < l → s.testBit j9 = false) : clq M s ↔ clq M (rs s l) ∧ ∀ t, (rs s l).testBit t = true → M t l = true := by
  have hsub : ∀ t, (rs s l).testBit t = true → s.testBit t = true ∧ l < t := by
    intro t ht
    rw [rs_t hs, Bool.and_eq_true] at ht
    refine ⟨ht.1, ?_⟩
    have h2 : ¬ l = t := by simpa using ht.2
    apply Classical.byContradiction
    intro z
    have := hlow t (by omega)
    rw [ht.1] at this
    cases this
  constructor
  · intro h
    exact ⟨fun a b ha hb => h a b (hsub a ha).1 (hsub b hb).1, fun t ht => h t l (hsub t ht).1 hl (hsub t ht).2⟩
  · rintro ⟨h1, h2⟩ a b ha hb hab
    have hla : ∀ t, s.testBit t = true → t ≠ l → (rs s l).testBit t = true := by
      intro t ht hne
      rw [rs_t hs, ht, decide_eq_false (fun z => hne z.symm)]; rfl
    by_cases ea : a = l
    · exfalso
      have := hlow b (by omega)
      rw [hb] at this
      cases this
    · by_cases eb : b = l
      · subst eb
        exact h2 a (hla a ha ea)
      · exact h1 a b (hla a ha ea) (hla b hb eb) hab
def mY (M : Nat → Nat → Bool) (a j9 : Nat) : Nat := 2 ^ a ||| mk2 (fun b => !decide (a = b) && M a b) j9
theorem mY_lt {M : Nat → Nat → Bool} {a j9 : Nat} (ha : a < 12) (hj : j9 ≤ 12) : mY M a j9 < 4096 :=
  Nat.or_lt_two_pow (n := 12) (Nat.pow_lt_pow_right (by decide) ha) (mk2_12 _ hj)
theorem mY_all {M : Nat → Nat → Bool} (hsym : ∀ a b, M a b = M b a) {s l n : Nat} (hn : n ≤ 12) (hs : s < 2 ^ n) : an (rs s l) (mY M l n) = 0 ↔ ∀ t, (rs s l).testBit t = true → M t l = true := by
  have hs2 : s < 4096 := Nat.lt_of_lt_of_le hs (p12 hn)
  have hr : rs s l < 2 ^ 31 := Nat.lt_of_le_of_lt (an_le _ _) (Nat.lt_trans hs2 (by decide))
  rw [an_0 hr]
  have key : ∀ t, (rs s l).testBit t = true → (mY M l n).testBit t = M t l := by
    intro t ht
    have h1 := ht
    rw [rs_t hs2, Bool.and_eq_true] at h1
    have h2 : ¬ l = t := by simpa using h1.2
    have h3 := tb_n hs h1.1
    rw [mY, Nat.testBit_or, t2p, mk2_t, decide_eq_false h2, decide_eq_true h3, hsym l t]
    simp
  constructor
  · intro h t ht
    rw [← key t ht]; exact h t ht
  · intro h t ht
    rw [key t ht]; exact h t ht
def JI (M : Nat → Nat → Bool) (s l : Nat) (P : Nat → Prop) (b : Nat) : Prop := b ≤ 100 ∧ (b = 100 ∨ ∃ q k9, sbs q (rs s l) ∧ clq M (q ||| 2 ^ l) ∧ FwS M (an s (q ||| 2 ^ l)) k9 ∧ b = 1 + k9) ∧ ∀ q k9, sbs q (rs s l) → P q → clq M (q ||| 2 ^ l) → FwS M (an s (q ||| 2 ^ l)) k9 → b ≤ 1 + k9
theorem JI_0 {M : Nat → Nat → Bool} {s l : Nat} : JI M s l (fun q => rs s l < q) 100 := ⟨Nat.le_refl _, Or.inl rfl, fun q _ hq hlt _ _ => absurd (le_sbs hq) (by omega)⟩
theorem JI_y {M : Nat → Nat → Bool} {s l p b k9 : Nat} (hJ : JI M s l (fun q => p < q) b) (hp : sbs p (rs s l)) (hk : FwS M (an s (p ||| 2 ^ l)) k9) (hc : clq M (p ||| 2 ^ l)) (hb : 1 + k9 < b) : JI M s l (fun q => p ≤ q) (1 + k9) := by
  obtain ⟨h0, h1, h2⟩ := hJ
  refine ⟨by omega, Or.inr ⟨p, k9, hp, hc, hk, rfl⟩, ?_⟩
  intro q k' hq hpq hcq hkq
  by_cases e : q = p
  · subst e
    rw [FwS_uniq hk hkq]
    exact Nat.le_refl _
  · exact Nat.le_trans (Nat.le_of_lt hb) (h2 q k' hq (by omega) hcq hkq)
theorem JI_n {M : Nat → Nat → Bool} {s l p b k9 : Nat} (hJ : JI M s l (fun q => p < q) b) (hk : FwS M (an s (p ||| 2 ^ l)) k9) (hc : ¬ clq M (p ||| 2 ^ l) ∨ b ≤ 1 + k9) : JI M s l (fun q => p ≤ q) b := by
  obtain ⟨h0, h1, h2⟩ := hJ
  refine ⟨h0, h1, ?_⟩
  intro q k' hq hpq hcq hkq
  by_cases e : q = p
  · subst e
    rcases hc with hc | hc
    · exact absurd hcq hc
    · rw [← FwS_uniq hk hkq]; exact hc
  · exact h2 q k' hq (by omega) hcq hkq
theorem JI_next {M : Nat → Nat → Bool} {s l p b : Nat} (hJ : JI M s l (fun q => p ≤ q) b) (hp : sbs p (rs s l)) : JI M s l (fun q => ((p - 1) &&& rs s l) < q) b := by
  obtain ⟨h0, h1, h2⟩ := hJ
  refine ⟨h0, h1, fun q k' hq hlt => h2 q k' hq ?_⟩
  apply Classical.byContradiction
  intro z
  have := sbs_next (rs s l) q p hq hp (by omega)
  omega
theorem sbs_and (p r : Nat) : sbs (p &&& r) r := by
  intro i hi
  rw [Nat.testBit_and, Bool.and_eq_true] at hi
  exact hi.2
theorem JI_end {M : Nat → Nat → Bool} {s l b : Nat} (hs : s < 4096) (hl : s.testBit l = true) (hlow : ∀ j9, j9 < l → s.testBit j9 = false) (hall : ∀ u, u < s → ∃ k9, FwS M u k9) (hJ : JI M s l (fun q => 0 ≤ q) b) : FwS M s b := by
  obtain ⟨h0, h1, h2⟩ := hJ
  have hz : ∀ t, (0 : Nat).testBit t = false := fun t => Nat.zero_testBit t
  refine ⟨?_, ?_⟩
  · rcases h1 with h1 | ⟨q, k9, hq, hc, hk, e⟩
    · exfalso
      obtain ⟨k9, hk⟩ := hall (an s (0 ||| 2 ^ l)) (out_lt hs hl)
      have h12 := FwS_12 (Nat.lt_trans (out_lt hs hl) hs) hk
      have := h2 0 k9 (fun i hi => by rw [hz] at hi; cases hi) (Nat.zero_le _) (fun a x ha hx hax => by
        rw [own_t (s := s), hz, Bool.false_or, decide_eq_true_eq] at ha hx
        omega) hk
      omega
    · obtain ⟨⟨c, v, hlt⟩, -⟩ := hk
      refine ⟨fun j9 => if (q ||| 2 ^ l).testBit j9 then k9 else c j9, ?_, ?_⟩
      · intro a x ha hx hax e2
        have e3 : (if (q ||| 2 ^ l).testBit a then k9 else c a) = (if (q ||| 2 ^ l).testBit x then k9 else c x) := e2
        have hin : ∀ t, s.testBit t = true → ¬ (q ||| 2 ^ l).testBit t = true → (an s (q ||| 2 ^ l)).testBit t = true := by
          intro t ht hn
          rw [an_t (Nat.lt_trans hs (by decide)), ht]
          simpa using hn
        by_cases z1 : (q ||| 2 ^ l).testBit a = true
        · by_cases z2 : (q ||| 2 ^ l).testBit x = true
          · exact hc a x z1 z2 hax
          · rw [if_pos z1, if_neg z2] at e3
            have := hlt x (hin x hx z2)
            omega
        · by_cases z2 : (q ||| 2 ^ l).testBit x = true
          · rw [if_neg z1, if_pos z2] at e3
            have := hlt a (hin a ha z1)
            omega
          · rw [if_neg z1, if_neg z2] at e3
            exact v a x (hin a ha z1) (hin x hx z2) hax e3
      · intro j9 hj
        show (if (q ||| 2 ^ l).testBit j9 then k9 else c j9) < b
        by_cases z1 : (q ||| 2 ^ l).testBit j9 = true
        · rw [if_pos z1]; omega
        · rw [if_neg z1]
          have := hlt j9 (by
            rw [an_t (Nat.lt_trans hs (by decide)), hj]
            simpa using z1)
          omega
  · intro c k' hv hlt
    have hcl := hlt l hl
    have qt : ∀ t, (mk2 (fun t => s.testBit t && !decide (l = t) && decide (c t = c l)) 12).testBit t = (s.testBit t && !decide (l = t) && decide (c t = c l)) := by
      intro t
      rw [mk2_t]
      by_cases z : t < 12
      · rw [decide_eq_true z, Bool.true_and]
      · have : s.testBit t = false := by
          cases e : s.testBit t
          · rfl
          · exact absurd (tb_12 hs e) z
        rw [this]; simp
    have hq : sbs (mk2 (fun t => s.testBit t && !decide (l = t) && decide (c t = c l)) 12) (rs s l) := by
      intro t ht
      rw [qt, Bool.and_eq_true] at ht
      rw [rs_t hs]
      exact ht.1
    have ot : ∀ t, (mk2 (fun t => s.testBit t && !decide (l = t) && decide (c t = c l)) 12 ||| 2 ^ l).testBit t = true → s.testBit t = true ∧ c t = c l := by
      intro t ht
      rw [own_t (s := s), qt, Bool.or_eq_true, Bool.and_eq_true, Bool.and_eq_true, decide_eq_true_eq, decide_eq_true_eq] at ht
      rcases ht with ht | ht
      · exact ⟨ht.1.1, ht.2⟩
      · subst ht; exact ⟨hl, rfl⟩
    obtain ⟨k9, hk⟩ := hall (an s (mk2 (fun t => s.testBit t && !decide (l = t) && decide (c t = c l)) 12 ||| 2 ^ l)) (out_lt hs hl)
    have h3 := h2 _ k9 hq (Nat.zero_le _) (fun a x ha hx hax => hv a x (ot a ha).1 (ot x hx).1 hax (by rw [(ot a ha).2, (ot x hx).2])) hk
    have rt : ∀ t, (an s (mk2 (fun t => s.testBit t && !decide (l = t) && decide (c t = c l)) 12 ||| 2 ^ l)).testBit t = true → s.testBit t = true ∧ ¬ c t = c l := by
      intro t ht
      rw [an_t (Nat.lt_trans hs (by decide)), own_t (s := s), qt, Bool.and_eq_true] at ht
      refine ⟨ht.1, fun z => ?_⟩
      have h5 := ht.2
      rw [ht.1, decide_eq_true z] at h5
      cases e : decide (l = t) <;> rw [e] at h5 <;> simp at h5
    have h4 : k9 ≤ k' - 1 := by
      refine hk.2 (fun t => if c t = k' - 1 then c l else c t) (k' - 1) ?_ ?_
      · intro a x ha hx hax e
        refine hv a x (rt a ha).1 (rt x hx).1 hax ?_
        have e3 : (if c a = k' - 1 then c l else c a) = (if c x = k' - 1 then c l else c x) := e
        have na := (rt a ha).2
        have nx := (rt x hx).2
        by_cases z1 : c a = k' - 1
        · rw [if_pos z1] at e3
          by_cases z2 : c x = k' - 1
          · omega
          · rw [if_neg z2] at e3; omega
        · rw [if_neg z1] at e3
          by_cases z2 : c x = k' - 1
          · rw [if_pos z2] at e3; omega
          · rw [if_neg z2] at e3; exact e3
      · intro t ht
        have h5 := hlt t (rt t ht).1
        have h6 := (rt t ht).2
        show (if c t = k' - 1 then c l else c t) < k' - 1
        split <;> omega
    omega
theorem awy_sym (a b : Int32) : awy a b = awy b a := by
  rw [awy, awy]
  by_cases h1 : a < b
  · rw [if_pos h1, if_neg (Int32.not_lt.mpr (Int32.le_of_lt h1))]
  · by_cases h2 : b < a
    · rw [if_neg h1, if_pos h2]
    · have e : a = b := Int32.le_antisymm (Int32.not_lt.mp h2) (Int32.not_lt.mp h1)
      rw [e]
theorem mtB_sym (kd xs ys db dy nr ap : Nat → Int32) (a b : Nat) : mtB kd xs ys db dy nr ap a b = mtB kd xs ys db dy nr ap b a := by
  rw [mtB, mtB]
  by_cases e : kd a = kd b
  · rw [e, awy_sym (xs a) (xs b), awy_sym (ys a) (ys b), awy_sym (dy a) (dy b), Int32.add_assoc, Int32.add_comm (db a) (db b), ← Int32.add_assoc]
  · have e2 : ¬ kd b = kd a := fun z => e z.symm
    rw [decide_eq_false e, decide_eq_false e2, Bool.false_and, Bool.false_and]
