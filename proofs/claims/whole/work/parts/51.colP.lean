/-! colourings: the fewest sets -/
def mk2 (p : Nat → Bool) : Nat → Nat
  | 0 => 0
  | n + 1 => mk2 p n ||| (if p n then 2 ^ n else 0)
theorem mk2_t (p : Nat → Bool) : ∀ n i, (mk2 p n).testBit i = (decide (i < n) && p i)
  | 0, i => by simp [mk2]
  | n + 1, i => by
    rw [mk2, Nat.testBit_or, mk2_t p n i]
    by_cases e : i = n
    · subst e
      cases hp : p i <;> simp [Nat.testBit_two_pow_self]
    · have h0 : (if p n then 2 ^ n else 0 : Nat).testBit i = false := by
        split
        · exact Nat.testBit_two_pow_of_ne (Ne.symm e)
        · simp
      rw [h0, Bool.or_false, show decide (i < n) = decide (i < n + 1) from decide_eq_decide.mpr (by omega)]
theorem mk2_lt (p : Nat → Bool) : ∀ n, mk2 p n < 2 ^ n
  | 0 => by simp [mk2]
  | n + 1 => by
    rw [mk2]
    refine Nat.or_lt_two_pow (Nat.lt_trans (mk2_lt p n) (Nat.pow_lt_pow_right (by decide) (by omega))) ?_
    split
    · exact Nat.pow_lt_pow_right (by decide) (by omega)
    · exact Nat.two_pow_pos _
theorem mk2_cong {p q : Nat → Bool} : ∀ n, (∀ j9, j9 < n → p j9 = q j9) → mk2 p n = mk2 q n
  | 0, _ => rfl
  | n + 1, h => by rw [mk2, mk2, mk2_cong n (fun j9 hj => h j9 (by omega)), h n (by omega)]
theorem p12 {i : Nat} (h : i ≤ 12) : 2 ^ i ≤ 4096 := Nat.pow_le_pow_right (n := 2) (by decide) h
theorem mk2_12 (p : Nat → Bool) {n : Nat} (h : n ≤ 12) : mk2 p n < 4096 := Nat.lt_of_lt_of_le (mk2_lt p n) (p12 h)
theorem nI_and (a b : Nat) : nI a &&& nI b = nI (a &&& b) := Int32.toBitVec_inj.mp (by
  show BitVec.ofNat 32 a &&& BitVec.ofNat 32 b = BitVec.ofNat 32 (a &&& b)
  exact BitVec.ofNat_and.symm)
theorem nI_or (a b : Nat) : nI a ||| nI b = nI (a ||| b) := Int32.toBitVec_inj.mp (by
  show BitVec.ofNat 32 a ||| BitVec.ofNat 32 b = BitVec.ofNat 32 (a ||| b)
  exact BitVec.ofNat_or.symm)
theorem nI_xor (a b : Nat) : nI a ^^^ nI b = nI (a ^^^ b) := Int32.toBitVec_inj.mp (by
  show BitVec.ofNat 32 a ^^^ BitVec.ofNat 32 b = BitVec.ofNat 32 (a ^^^ b)
  exact BitVec.ofNat_xor.symm)
def an (a b : Nat) : Nat := a &&& (b ^^^ (2 ^ 32 - 1))
theorem nI_an (a b : Nat) : nI a &&& (nI b ^^^ (-1)) = nI (an a b) := by
  rw [show (-1 : Int32) = nI (2 ^ 32 - 1) by decide +kernel, nI_xor, nI_and]
  rfl
theorem an_t {a : Nat} (ha : a < 2 ^ 31) (b i : Nat) : (an a b).testBit i = (a.testBit i && !b.testBit i) := by
  rw [an, Nat.testBit_and, Nat.testBit_xor, Nat.testBit_two_pow_sub_one]
  by_cases h : i < 32
  · simp [h]
  · have : a.testBit i = false := Nat.testBit_lt_two_pow (Nat.lt_of_lt_of_le ha (Nat.pow_le_pow_right (by decide) (by omega)))
    simp [this]
theorem an_le (a b : Nat) : an a b ≤ a := Nat.and_le_left
theorem an_0 {a : Nat} (ha : a < 2 ^ 31) (b : Nat) : an a b = 0 ↔ ∀ i, a.testBit i = true → b.testBit i = true := by
  constructor
  · intro h i hi
    have := an_t ha b i
    rw [h, hi] at this
    simp at this
    exact this
  · intro h
    apply Nat.eq_of_testBit_eq
    intro i
    rw [an_t ha, Nat.zero_testBit]
    cases e : a.testBit i
    · rfl
    · rw [h i e]; rfl
theorem sl12 : ∀ j9, j9 < 13 → ((1 : Int32) <<< (nI j9 &&& 31)) = nI (2 ^ j9) := by decide +kernel
theorem tb_sh {a i : Nat} (ha : a < 2 ^ 31) (hi : i < 31) : (nI a >>> (nI i &&& 31)) &&& 1 = bI (a.testBit i) := by
  have hs : ∀ i, i < 31 → ((nI i &&& 31 : Int32).toBitVec.smod 32).toNat = i := by decide +kernel
  rw [pk_shrN ha (nI i &&& 31) i (hs i hi), pk_andN (Nat.lt_of_le_of_lt (Nat.div_le_self _ _) (Nat.lt_trans ha (by decide))) 1 (by decide +kernel), Nat.testBit_eq_decide_div_mod_eq]
  rcases Nat.mod_two_eq_zero_or_one (a / 2 ^ i) with h | h
  · rw [show a / 2 ^ i % 2 ^ 1 = 0 from h]; rfl
  · rw [show a / 2 ^ i % 2 ^ 1 = 1 from h]; rfl
def Val (M : Nat → Nat → Bool) (c : Nat → Nat) (i : Nat) : Prop := ∀ a b, a < i → b < a → c a = c b → M a b = true
def Ext (M : Nat → Nat → Bool) (n : Nat) (c : Nat → Nat) (i b : Nat) : Prop := ∃ c' : Nat → Nat, (∀ j9, j9 < i → c' j9 = c j9) ∧ Val M c' n ∧ ∀ j9, j9 < n → c' j9 < b
def LB (M : Nat → Nat → Bool) (n : Nat) (c : Nat → Nat) (i sets b : Nat) : Prop := ∀ (c' : Nat → Nat) (k9 : Nat), (∀ j9, j9 < i → c' j9 = c j9) → Val M c' n → (∀ j9, j9 < n → c' j9 < k9) → sets ≤ k9 → b ≤ k9
def Fw (M : Nat → Nat → Bool) (n k9 : Nat) : Prop := (∃ c : Nat → Nat, Val M c n ∧ ∀ j9, j9 < n → c j9 < k9) ∧ ∀ (c : Nat → Nat) (k' : Nat), Val M c n → (∀ j9, j9 < n → c j9 < k') → k9 ≤ k'
theorem Fw_uniq {M : Nat → Nat → Bool} {n a b : Nat} (h1 : Fw M n a) (h2 : Fw M n b) : a = b := by
  obtain ⟨⟨c1, v1, l1⟩, m1⟩ := h1
  obtain ⟨⟨c2, v2, l2⟩, m2⟩ := h2
  exact Nat.le_antisymm (m1 c2 b v2 l2) (m2 c1 a v1 l1)
def cx (c : Nat → Nat) (i s : Nat) : Nat → Nat := fun j9 => if j9 = i then s else c j9
theorem cx_s {c : Nat → Nat} {i s : Nat} : cx c i s i = s := if_pos rfl
theorem cx_n {c : Nat → Nat} {i s j9 : Nat} (h : j9 ≠ i) : cx c i s j9 = c j9 := if_neg h
theorem Val_cx {M : Nat → Nat → Bool} {c : Nat → Nat} {i s : Nat} (h : Val M c i) (hs : ∀ j9, j9 < i → c j9 = s → M i j9 = true) : Val M (cx c i s) (i + 1) := by
  intro a b ha hb e
  by_cases ea : a = i
  · subst ea
    rw [cx_s, cx_n (by omega)] at e
    exact hs b hb e.symm
  · rw [cx_n ea, cx_n (by omega)] at e
    exact h a b (by omega) hb e
theorem Ext_cx {M : Nat → Nat → Bool} {c : Nat → Nat} {n i s b : Nat} (h : Ext M n (cx c i s) (i + 1) b) : Ext M n c i b := by
  obtain ⟨c', h1, h2⟩ := h
  exact ⟨c', fun j9 hj => by rw [h1 j9 (by omega), cx_n (by omega)], h2⟩
theorem swp_inj {t s x y : Nat} (h : (if x = t then s else if x = s then t else x) = (if y = t then s else if y = s then t else y)) : x = y := by
  by_cases q1 : x = t
  · rw [if_pos q1] at h
    by_cases q2 : y = t
    · omega
    · rw [if_neg q2] at h
      by_cases q3 : y = s
      · rw [if_pos q3] at h; omega
      · rw [if_neg q3] at h; omega
  · rw [if_neg q1] at h
    by_cases q3 : x = s
    · rw [if_pos q3] at h
      by_cases q2 : y = t
      · rw [if_pos q2] at h; omega
      · rw [if_neg q2] at h
        by_cases q4 : y = s
        · omega
        · rw [if_neg q4] at h; omega
    · rw [if_neg q3] at h
      by_cases q2 : y = t
      · rw [if_pos q2] at h; omega
      · rw [if_neg q2] at h
        by_cases q4 : y = s
        · rw [if_pos q4] at h; omega
        · rw [if_neg q4] at h; omega
/-- a new set stands for every set that isn't there yet -/
theorem LB_new {M : Nat → Nat → Bool} {c : Nat → Nat} {n i sets b : Nat} (hi : i < n) (hc : ∀ j9, j9 < i → c j9 < sets) (h : LB M n (cx c i sets) (i + 1) (sets + 1) b) (hl : ∀ (c' : Nat → Nat) (k9 : Nat), (∀ j9, j9 < i → c' j9 = c j9) → Val M c' n → (∀ j9, j9 < n → c' j9 < k9) → sets ≤ k9 → c' i < sets → b ≤ k9) : LB M n c i sets b := by
  intro c' k9 h1 h2 h3 h4
  by_cases e : c' i < sets
  · exact hl c' k9 h1 h2 h3 h4 e
  · have ht := h3 i hi
    refine h (fun j9 => if c' j9 = c' i then sets else if c' j9 = sets then c' i else c' j9) k9 ?_ ?_ ?_ (by omega)
    · intro j9 hj
      by_cases ej : j9 = i
      · subst ej; rw [cx_s]; simp
      · have e1 := h1 j9 (by omega)
        have e2 := hc j9 (by omega)
        rw [cx_n ej]
        show (if c' j9 = c' i then sets else if c' j9 = sets then c' i else c' j9) = c j9
        rw [if_neg (by omega), if_neg (by omega), e1]
    · intro a x ha hx e3
      exact h2 a x ha hx (swp_inj e3)
    · intro j9 hj
      have := h3 j9 hj
      show (if c' j9 = c' i then sets else if c' j9 = sets then c' i else c' j9) < k9
      split
      · omega
      · split <;> omega
/-! sets of numbers -/
def ValS (M : Nat → Nat → Bool) (u : Nat) (c : Nat → Nat) : Prop := ∀ a b, u.testBit a = true → u.testBit b = true → b < a → c a = c b → M a b = true
def FwS (M : Nat → Nat → Bool) (u k9 : Nat) : Prop := (∃ c : Nat → Nat, ValS M u c ∧ ∀ j9, u.testBit j9 = true → c j9 < k9) ∧ ∀ (c : Nat → Nat) (k' : Nat), ValS M u c → (∀ j9, u.testBit j9 = true → c j9 < k') → k9 ≤ k'
def clq (M : Nat → Nat → Bool) (u : Nat) : Prop := ∀ a b, u.testBit a = true → u.testBit b = true → b < a → M a b = true
def sbs (q r : Nat) : Prop := ∀ i, q.testBit i = true → r.testBit i = true
theorem Fw_of {M : Nat → Nat → Bool} {n k9 : Nat} (h : FwS M (2 ^ n - 1) k9) : Fw M n k9 := by
  have t : ∀ i, (2 ^ n - 1).testBit i = decide (i < n) := fun i => Nat.testBit_two_pow_sub_one n i
  obtain ⟨⟨c, h1, h2⟩, h3⟩ := h
  refine ⟨⟨c, fun a b ha hb e => h1 a b (by rw [t]; exact decide_eq_true ha) (by rw [t]; exact decide_eq_true (by omega)) hb e, fun j9 hj => h2 j9 (by rw [t]; exact decide_eq_true hj)⟩, fun c' k' v l => h3 c' k' (fun a b ha hb hab e => ?_) (fun j9 hj => ?_)⟩
  · rw [t] at ha
    exact v a b (of_decide_eq_true ha) hab e
  · rw [t] at hj
    exact l j9 (of_decide_eq_true hj)
theorem FwS_0 (M : Nat → Nat → Bool) : FwS M 0 0 := ⟨⟨fun _ => 0, fun a b ha => by simp at ha, fun j9 hj => by simp at hj⟩, fun _ _ _ _ => Nat.zero_le _⟩
theorem clq_0 (M : Nat → Nat → Bool) : clq M 0 := fun a b ha => by simp at ha
theorem FwS_12 {M : Nat → Nat → Bool} {u k9 : Nat} (hu : u < 4096) (h : FwS M u k9) : k9 ≤ 12 := by
  refine h.2 (fun j9 => j9) 12 (fun a b _ _ hab e => ?_) (fun j9 hj => ?_)
  · have e2 : a = b := e
    omega
  · show j9 < 12
    apply Classical.byContradiction
    intro z
    rw [Nat.testBit_lt_two_pow (Nat.lt_of_lt_of_le (show u < 2 ^ 12 from hu) (Nat.pow_le_pow_right (by decide) (show 12 ≤ j9 by omega)))] at hj
    cases hj
/-- the next part in the order -/
theorem sbs_next : ∀ (r q p : Nat), sbs q r → sbs p r → q < p → q ≤ (p - 1) &&& r := by
  intro r
  induction r using Nat.strongRecOn with
  | _ r ih =>
    intro q p hq hp hqp
    have half : ∀ u, sbs u r → sbs (u / 2) (r / 2) := by
      intro u hu i hi
      rw [Nat.testBit_div_two] at hi ⊢
      exact hu (i + 1) hi
    by_cases r0 : r = 0
    · subst r0
      exfalso
      have : p = 0 := by
        apply Nat.eq_of_testBit_eq
        intro i
        rw [Nat.zero_testBit]
        cases e : p.testBit i
        · rfl
        · have := hp i e
          rw [Nat.zero_testBit] at this
          cases this
      omega
    · have hr2 : r / 2 < r := by omega
      have b0 : ∀ u, sbs u r → u % 2 ≤ r % 2 := by
        intro u hu
        have h0 := hu 0
        rw [Nat.testBit_zero, Nat.testBit_zero, decide_eq_true_eq, decide_eq_true_eq] at h0
        omega
      have hqb := b0 q hq
      have hpb := b0 p hp
      have hd : ∀ x, (x &&& r) / 2 = (x / 2) &&& (r / 2) := by
        intro x
        exact Nat.and_div_two
      have hm : ∀ x, (x &&& r) % 2 = (if x % 2 = 1 ∧ r % 2 = 1 then 1 else 0) := by
        intro x
        have h0 := Nat.testBit_and x r 0
        rw [Nat.testBit_zero, Nat.testBit_zero, Nat.testBit_zero] at h0
        by_cases z1 : x % 2 = 1
        · by_cases z2 : r % 2 = 1
          · rw [if_pos ⟨z1, z2⟩]
            rw [decide_eq_true z1, decide_eq_true z2] at h0
            exact of_decide_eq_true h0
          · rw [if_neg (fun y => z2 y.2)]
            rw [decide_eq_false z2, Bool.and_false] at h0
            have := of_decide_eq_false h0
            omega
        · rw [if_neg (fun y => z1 y.1)]
          rw [decide_eq_false z1, Bool.false_and] at h0
          have := of_decide_eq_false h0
          omega
      have d1 := hd (p - 1)
      have m1 := hm (p - 1)
      by_cases pb : p % 2 = 1
      · have hh : (p - 1) / 2 = p / 2 := by omega
        have hsub : (p / 2) &&& (r / 2) = p / 2 := by
          apply Nat.eq_of_testBit_eq
          intro i
          rw [Nat.testBit_and]
          cases e : (p / 2).testBit i
          · rfl
          · rw [half p hp i e]; rfl
        rw [hh, hsub] at d1
        omega
      · have hlt : q / 2 < p / 2 := by omega
        have hh : (p - 1) / 2 = p / 2 - 1 := by omega
        have := ih (r / 2) hr2 (q / 2) (p / 2) (half q hq) (half p hp) hlt
        rw [hh] at d1
        by_cases rb : r % 2 = 1
        · rw [if_pos ⟨by omega, rb⟩] at m1
          omega
        · omega
