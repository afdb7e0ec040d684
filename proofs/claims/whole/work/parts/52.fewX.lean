def PF (M : Nat → Nat → Bool) (n i sets b : Nat) (c : Nat → Nat) (h : Hp) : Prop := h 3 2 = nI n ∧ h 3 3 = nI b ∧ b ≤ 12 ∧ (∀ a, a < n → h 26 a = nI (mk2 (M a) a)) ∧ (∀ s, s < sets → h 27 s = nI (mk2 (fun j9 => decide (c j9 = s)) i)) ∧ Val M c i ∧ ∀ j9, j9 < i → c j9 < sets
def QF (M : Nat → Nat → Bool) (n i sets b : Nat) (c : Nat → Nat) (h h' : Hp) : Prop := ∃ b', h' 3 3 = nI b' ∧ b' ≤ b ∧ (b' = b ∨ Ext M n c i b') ∧ LB M n c i sets b' ∧ h' 3 2 = h 3 2 ∧ (∀ s, s < sets → h' 27 s = h 27 s) ∧ ∀ k9, k9 ≠ 3 → k9 ≠ 27 → h' k9 = h k9
def LF (M : Nat → Nat → Bool) (n i sets b : Nat) (c : Nat → Nat) (s b1 : Nat) (h h1 : Hp) : Prop := h1 3 3 = nI b1 ∧ b1 ≤ b ∧ (b1 = b ∨ Ext M n c i b1) ∧ (∀ (c' : Nat → Nat) (k9 : Nat), (∀ j9, j9 < i → c' j9 = c j9) → Val M c' n → (∀ j9, j9 < n → c' j9 < k9) → sets ≤ k9 → c' i < s → b1 ≤ k9) ∧ h1 3 2 = h 3 2 ∧ (∀ s', s' < sets → h1 27 s' = h 27 s') ∧ ∀ k9, k9 ≠ 3 → k9 ≠ 27 → h1 k9 = h k9
theorem LF_0 {M : Nat → Nat → Bool} {n i sets b : Nat} {c : Nat → Nat} {h : Hp} (hP : PF M n i sets b c h) : LF M n i sets b c 0 b h h := ⟨hP.2.1, Nat.le_refl _, Or.inl rfl, fun _ _ _ _ _ _ z => absurd z (Nat.not_lt_zero _), rfl, fun _ _ => rfl, fun _ _ _ => rfl⟩
theorem mk2_cx {c : Nat → Nat} {i s s' : Nat} : mk2 (fun j9 => decide (cx c i s j9 = s')) (i + 1) = mk2 (fun j9 => decide (c j9 = s')) i ||| (if s = s' then 2 ^ i else 0) := by
  rw [mk2, mk2_cong (q := fun j9 => decide (c j9 = s')) i (fun j9 hj => by rw [cx_n (by omega)]), cx_s]
  by_cases e : s = s'
  · rw [if_pos e, decide_eq_true e]; rfl
  · rw [if_neg e, decide_eq_false e]; rfl
theorem fits_of {M : Nat → Nat → Bool} {i s : Nat} {c : Nat → Nat} (hi : i ≤ 12) (h : an (mk2 (fun j9 => decide (c j9 = s)) i) (mk2 (M i) i) = 0) : ∀ j9, j9 < i → c j9 = s → M i j9 = true := by
  intro j9 hj e
  have := (an_0 (Nat.lt_trans (mk2_12 _ hi) (by decide)) _).mp h j9 (by rw [mk2_t, decide_eq_true hj, decide_eq_true e]; rfl)
  rw [mk2_t, decide_eq_true hj] at this
  exact this
theorem fits_no {M : Nat → Nat → Bool} {i s n : Nat} {c c' : Nat → Nat} (hi : i ≤ 12) (hin : i < n) (h : ¬ an (mk2 (fun j9 => decide (c j9 = s)) i) (mk2 (M i) i) = 0) (ha : ∀ j9, j9 < i → c' j9 = c j9) (hv : Val M c' n) : c' i ≠ s := by
  intro e
  apply h
  rw [an_0 (Nat.lt_trans (mk2_12 _ hi) (by decide))]
  intro t ht
  rw [mk2_t, Bool.and_eq_true, decide_eq_true_eq, decide_eq_true_eq] at ht
  rw [mk2_t, decide_eq_true ht.1, Bool.true_and]
  exact hv i t hin ht.1 (by rw [ha t ht.1, ht.2, e])
theorem PF_in {M : Nat → Nat → Bool} {n i sets b s b1 : Nat} {c : Nat → Nat} {h h1 : Hp} (hn : n ≤ 12) (hi : i < n) (hs : s < sets) (hP : PF M n i sets b c h) (hL : LF M n i sets b c s b1 h h1) (hf : an (mk2 (fun j9 => decide (c j9 = s)) i) (mk2 (M i) i) = 0) : PF M n (i + 1) sets b1 (cx c i s) (put h1 27 s (h1 27 s ||| ((1 : Int32) <<< (nI i &&& 31)))) := by
  obtain ⟨p1, p2, p3, p4, p5, p6, p7⟩ := hP
  obtain ⟨l1, l2, l3, l4, l5, l6, l7⟩ := hL
  refine ⟨?_, ?_, by omega, ?_, ?_, Val_cx p6 (fits_of (by omega) hf), ?_⟩
  · rw [put_n (by decide), l5, p1]
  · rw [put_n (by decide), l1]
  · intro a ha
    rw [put_n (by decide), l7 26 (by decide) (by decide), p4 a ha]
  · intro s' hs'
    rw [mk2_cx]
    by_cases e : s' = s
    · subst e
      rw [put_s, l6 s' hs', p5 s' hs', sl12 i (by omega), nI_or, if_pos rfl]
    · rw [put_i e, l6 s' hs', p5 s' hs', if_neg (Ne.symm e), Nat.or_zero]
  · intro j9 hj
    by_cases e : j9 = i
    · rw [e, cx_s]; exact hs
    · rw [cx_n e]; exact p7 j9 (by omega)
theorem an_or {x i : Nat} (hx : x < 2 ^ i) (hi : i ≤ 12) : an (x ||| 2 ^ i) (2 ^ i) = x := by
  have h12 : x ||| 2 ^ i < 2 ^ 31 := by
    have h1 : x ||| 2 ^ i < 2 ^ (i + 1) := Nat.or_lt_two_pow (Nat.lt_trans hx (Nat.pow_lt_pow_right (by decide) (by omega))) (Nat.pow_lt_pow_right (by decide) (by omega))
    exact Nat.lt_of_lt_of_le h1 (Nat.pow_le_pow_right (by decide) (by omega))
  apply Nat.eq_of_testBit_eq
  intro t
  rw [an_t h12, Nat.testBit_or]
  by_cases e : t = i
  · subst e
    rw [Nat.testBit_two_pow_self, Nat.testBit_lt_two_pow hx]; rfl
  · rw [Nat.testBit_two_pow_of_ne (Ne.symm e)]; simp
theorem LF_in {M : Nat → Nat → Bool} {n i sets b s b1 : Nat} {c : Nat → Nat} {h h1 h2 : Hp} (hn : n ≤ 12) (hi : i < n) (hs : s < sets) (hP : PF M n i sets b c h) (hL : LF M n i sets b c s b1 h h1) (hq : QF M n (i + 1) sets b1 (cx c i s) (put h1 27 s (h1 27 s ||| ((1 : Int32) <<< (nI i &&& 31)))) h2) : ∃ b2, LF M n i sets b c (s + 1) b2 h (put h2 27 s (h2 27 s &&& (((1 : Int32) <<< (nI i &&& 31)) ^^^ (-1)))) := by
  obtain ⟨p1, p2, p3, p4, p5, p6, p7⟩ := hP
  obtain ⟨l1, l2, l3, l4, l5, l6, l7⟩ := hL
  obtain ⟨b2, q1, q2, q3, q4, q5, q6, q7⟩ := hq
  refine ⟨b2, ?_, by omega, ?_, ?_, ?_, ?_, ?_⟩
  · rw [put_n (by decide), q1]
  · rcases q3 with q3 | q3
    · rw [q3]; exact l3
    · exact Or.inr (Ext_cx q3)
  · intro c' k9 h1' h2' h3' h4' h5'
    by_cases e : c' i = s
    · refine q4 c' k9 (fun j9 hj => ?_) h2' h3' h4'
      by_cases ej : j9 = i
      · rw [ej, cx_s, e]
      · rw [cx_n ej]; exact h1' j9 (by omega)
    · exact Nat.le_trans q2 (l4 c' k9 h1' h2' h3' h4' (by omega))
  · rw [put_n (by decide), q5, put_n (by decide), l5]
  · intro s' hs'
    by_cases e : s' = s
    · subst e
      rw [put_s, q6 s' hs', put_s, l6 s' hs', p5 s' hs', sl12 i (by omega), nI_or, nI_an, an_or (mk2_lt _ _) (by omega)]
    · rw [put_i e, q6 s' hs', put_i e, l6 s' hs']
  · intro k9 h3' h4'
    rw [put_n h4', q7 k9 h3' h4', put_n h4', l7 k9 h3' h4']
theorem LF_no {M : Nat → Nat → Bool} {n i sets b s b1 : Nat} {c : Nat → Nat} {h h1 : Hp} (hn : n ≤ 12) (hi : i < n) (hL : LF M n i sets b c s b1 h h1) (hf : ¬ an (mk2 (fun j9 => decide (c j9 = s)) i) (mk2 (M i) i) = 0) : LF M n i sets b c (s + 1) b1 h h1 := by
  obtain ⟨l1, l2, l3, l4, l5, l6, l7⟩ := hL
  refine ⟨l1, l2, l3, ?_, l5, l6, l7⟩
  intro c' k9 h1' h2' h3' h4' h5'
  have := fits_no (by omega) hi hf h1' h2'
  exact l4 c' k9 h1' h2' h3' h4' (by omega)
theorem mk2_0 {p : Nat → Bool} {n : Nat} (h : ∀ j9, j9 < n → p j9 = false) : mk2 p n = 0 := by
  apply Nat.eq_of_testBit_eq
  intro t
  rw [mk2_t, Nat.zero_testBit]
  by_cases e : t < n
  · rw [h t e, Bool.and_false]
  · rw [decide_eq_false e, Bool.false_and]
theorem PF_new {M : Nat → Nat → Bool} {n i sets b b1 : Nat} {c : Nat → Nat} {h h1 : Hp} (hn : n ≤ 12) (hi : i < n) (hP : PF M n i sets b c h) (hL : LF M n i sets b c sets b1 h h1) : PF M n (i + 1) (sets + 1) b1 (cx c i sets) (put h1 27 sets ((1 : Int32) <<< (nI i &&& 31))) := by
  obtain ⟨p1, p2, p3, p4, p5, p6, p7⟩ := hP
  obtain ⟨l1, l2, l3, l4, l5, l6, l7⟩ := hL
  refine ⟨?_, ?_, by omega, ?_, ?_, Val_cx p6 (fun j9 hj e => by have := p7 j9 hj; omega), ?_⟩
  · rw [put_n (by decide), l5, p1]
  · rw [put_n (by decide), l1]
  · intro a ha
    rw [put_n (by decide), l7 26 (by decide) (by decide), p4 a ha]
  · intro s' hs'
    rw [mk2_cx]
    by_cases e : s' = sets
    · subst e
      rw [put_s, sl12 i (by omega), if_pos rfl, mk2_0 (fun j9 hj => decide_eq_false (by have := p7 j9 hj; omega)), Nat.zero_or]
    · rw [put_i e, l6 s' (by omega), p5 s' (by omega), if_neg (Ne.symm e), Nat.or_zero]
  · intro j9 hj
    by_cases e : j9 = i
    · rw [e, cx_s]; omega
    · rw [cx_n e]; have := p7 j9 (by omega); omega
theorem QF_new {M : Nat → Nat → Bool} {n i sets b b1 : Nat} {c : Nat → Nat} {h h1 h2 : Hp} (hi : i < n) (hP : PF M n i sets b c h) (hL : LF M n i sets b c sets b1 h h1) (hq : QF M n (i + 1) (sets + 1) b1 (cx c i sets) (put h1 27 sets ((1 : Int32) <<< (nI i &&& 31))) h2) : QF M n i sets b c h h2 := by
  obtain ⟨p1, p2, p3, p4, p5, p6, p7⟩ := hP
  obtain ⟨l1, l2, l3, l4, l5, l6, l7⟩ := hL
  obtain ⟨b2, q1, q2, q3, q4, q5, q6, q7⟩ := hq
  refine ⟨b2, q1, by omega, ?_, ?_, ?_, ?_, ?_⟩
  · rcases q3 with q3 | q3
    · rw [q3]; exact l3
    · exact Or.inr (Ext_cx q3)
  · refine LB_new hi p7 q4 ?_
    intro c' k9 h1' h2' h3' h4' h5'
    exact Nat.le_trans q2 (l4 c' k9 h1' h2' h3' h4' h5')
  · rw [q5, put_n (by decide), l5]
  · intro s' hs'
    rw [q6 s' (by omega), put_i (by omega), l6 s' hs']
  · intro k9 h3' h4'
    rw [q7 k9 h3' h4', put_n h4', l7 k9 h3' h4']
theorem QF_cut {M : Nat → Nat → Bool} {n i sets b : Nat} {c : Nat → Nat} {h : Hp} (hP : PF M n i sets b c h) (hb : b ≤ sets) : QF M n i sets b c h h := ⟨b, hP.2.1, Nat.le_refl _, Or.inl rfl, fun _ _ _ _ _ z => Nat.le_trans hb z, rfl, fun _ _ => rfl, fun _ _ _ => rfl⟩
theorem QF_leaf {M : Nat → Nat → Bool} {n sets b : Nat} {c : Nat → Nat} {h : Hp} (hP : PF M n n sets b c h) (hb : sets < b) : QF M n n sets b c h (put h 3 3 (nI sets)) := by
  obtain ⟨p1, p2, p3, p4, p5, p6, p7⟩ := hP
  exact ⟨sets, put_s, by omega, Or.inr ⟨c, fun _ _ => rfl, p6, p7⟩, fun _ _ _ _ _ z => z, put_i (by decide), fun _ _ => by rw [put_n (by decide)], fun k9 z _ => put_n z⟩

set_option maxHeartbeats 4000000 in
set_option maxRecDepth 100000 in
theorem k_X3_putFrom {E : Ev} {M : Nat → Nat → Bool} {n : Nat} (hn : n ≤ 12) : ∀ (mm d i sets b : Nat) (c : Nat → Nat) (h : Hp), mm ≤ d → i + mm = n → sets ≤ i → PF M n i sets b c h → Cl d yX3_putFrom cX3_putFrom 4 none E (wdX E) [.ref (E.2.2.1 3), .int (nI i), .int (nI sets)] h (fun r h' => r = none ∧ QF M n i sets b c h h') := by
  intro mm
  induction mm with
  | zero =>
    intro d i sets b c h hd hm hs hP
    obtain rfl : i = n := by omega
    refine Cl_of [some (.ref (E.2.2.1 3)), some (.int (nI i)), some (.int (nI sets)), none] (by decide) rfl (Nat.le_of_ble_eq_true rfl) (fun K A X hQ => ?_)
    have hb12 := hP.2.2.1
    refine P_iload2 X 1 dX3_putFrom_0 rfl ?_
    refine P_aload0 X 2 dX3_putFrom_1 rfl ?_
    refine gX_3_3 X 5 dX3_putFrom_2 rfl fl_X3_28 ?_
    refine P_top hP.2.1 ?_
    refine P_icmp_lt X 9 8 dX3_putFrom_5 rfl rfl (fun b5 => ?_) (fun b5 => ?_)
    · have hsb : sets < b := (nI_ltI (by omega) (by omega)).mp b5
      refine P_iload1 X 10 dX3_putFrom_9 rfl ?_
      refine P_aload0 X 11 dX3_putFrom_10 rfl ?_
      refine gX_3_2 X 14 dX3_putFrom_11 rfl fl_X3_24 ?_
      refine P_top hP.1 ?_
      refine P_icmp_lt X 23 17 dX3_putFrom_14 rfl rfl (fun b14 => ?_) (fun b14 => ?_)
      · exact absurd b14 (nI_nlt (Nat.le_refl _) (by omega))
      · refine P_aload0 X 18 dX3_putFrom_17 rfl ?_
        refine P_iload2 X 19 dX3_putFrom_18 rfl ?_
        refine pX_3_3 X 22 dX3_putFrom_19 rfl fw_X3_28 ?_
        exact P_ret X hQ dX3_putFrom_22 ⟨rfl, QF_leaf hP hsb⟩
    · have hbs : b ≤ sets := Nat.le_of_not_lt (fun z => b5 (nI_lt z (by omega)))
      exact P_ret X hQ dX3_putFrom_8 ⟨rfl, QF_cut hP hbs⟩
  | succ mm ihm =>
    intro d i sets b c h hd hm hs hP
    refine Cl_of [some (.ref (E.2.2.1 3)), some (.int (nI i)), some (.int (nI sets)), none] (by decide) rfl (Nat.le_of_ble_eq_true rfl) (fun K A X hQ => ?_)
    have hb12 := hP.2.2.1
    refine P_iload2 X 1 dX3_putFrom_0 rfl ?_
    refine P_aload0 X 2 dX3_putFrom_1 rfl ?_
    refine gX_3_3 X 5 dX3_putFrom_2 rfl fl_X3_28 ?_
    refine P_top hP.2.1 ?_
    refine P_icmp_lt X 9 8 dX3_putFrom_5 rfl rfl (fun b5 => ?_) (fun b5 => ?_)
    · have hsb : sets < b := (nI_ltI (by omega) (by omega)).mp b5
      refine P_iload1 X 10 dX3_putFrom_9 rfl ?_
      refine P_aload0 X 11 dX3_putFrom_10 rfl ?_
      refine gX_3_2 X 14 dX3_putFrom_11 rfl fl_X3_24 ?_
      refine P_top hP.1 ?_
      refine P_icmp_lt X 23 17 dX3_putFrom_14 rfl rfl (fun b14 => ?_) (fun b14 => ?_)
      · have L : ∀ (m s : Nat) (b1 : Nat) (h1 : Hp), s + m = sets → (LF M n i sets b c s b1 h h1) → GW K 4 E (wdX E) A 25 [some (.ref (E.2.2.1 3)), some (.int (nI i)), some (.int (nI sets)), some (.int (nI s))] [] h1 := by
          intro m
          induction m with
          | zero =>
            intro s b1 h1 hm hI0
            refine P_iload3 X 26 dX3_putFrom_25 rfl ?_
            refine P_iload2 X 27 dX3_putFrom_26 rfl ?_
            refine P_icmp_ge X 88 30 dX3_putFrom_27 rfl rfl (fun b27 => ?_) (fun b27 => ?_)
            · have hse : s = sets := by omega
              rw [hse] at hI0
              have hPN := PF_new (h1 := h1) hn (by omega) hP hI0
              refine P_aload0 X 89 dX3_putFrom_88 rfl ?_
              refine gX_3_1 X 92 dX3_putFrom_89 rfl fl_X3_15 ?_
              refine P_iload2 X 93 dX3_putFrom_92 rfl ?_
              refine P_iconst X (1) rfl 94 dX3_putFrom_93 rfl ?_
              refine P_iload1 X 95 dX3_putFrom_94 rfl ?_
              refine P_ishl X 96 dX3_putFrom_95 rfl ?_
              refine sX_27 X 97 dX3_putFrom_96 rfl rfl (by omega) ?_
              refine P_aload0 X 98 dX3_putFrom_97 rfl ?_
              refine P_iload1 X 99 dX3_putFrom_98 rfl ?_
              refine P_iconst X (1) rfl 100 dX3_putFrom_99 rfl ?_
              refine P_iadd X 101 dX3_putFrom_100 rfl ?_
              refine P_iload2 X 102 dX3_putFrom_101 rfl ?_
              refine P_iconst X (1) rfl 103 dX3_putFrom_102 rfl ?_
              refine P_iadd X 104 dX3_putFrom_103 rfl ?_
              rw [nI_1, nI_1]
              refine V2g X 3 107 dX3_putFrom_104 rfl lk_X3_31 mv_X3_putFrom rfl (by omega) (Nat.le_of_ble_eq_true rfl) (Nat.le_of_ble_eq_true rfl) rfl rfl (ihm (d - 1) (i + 1) (sets + 1) b1 (cx c i sets) _ (by omega) (by omega) (by omega) hPN) (fun r h2 hp => ?_)
              obtain ⟨rfl, hq⟩ := hp
              change GW K 4 E (wdX E) A 107 [some (.ref (E.2.2.1 3)), some (.int (nI i)), some (.int (nI sets)), some (.int (nI s))] [] h2
              exact P_ret X hQ dX3_putFrom_107 ⟨rfl, QF_new (by omega) hP hI0 hq⟩
            · exact (geN rfl b27 (by omega) (by omega)).elim
          | succ m ih =>
            intro s b1 h1 hm hI0
            refine P_iload3 X 26 dX3_putFrom_25 rfl ?_
            refine P_iload2 X 27 dX3_putFrom_26 rfl ?_
            refine P_icmp_ge X 88 30 dX3_putFrom_27 rfl rfl (fun b27 => ?_) (fun b27 => ?_)
            · exact (geY rfl b27 (by omega) (by omega)).elim
            · refine P_aload0 X 31 dX3_putFrom_30 rfl ?_
              refine gX_3_1 X 34 dX3_putFrom_31 rfl fl_X3_15 ?_
              refine P_iload3 X 35 dX3_putFrom_34 rfl ?_
              refine lX_27 X 36 dX3_putFrom_35 rfl rfl (by omega) ?_
              refine P_aload0 X 37 dX3_putFrom_36 rfl ?_
              refine gX_3_0 X 40 dX3_putFrom_37 rfl fl_X3_9 ?_
              refine P_iload1 X 41 dX3_putFrom_40 rfl ?_
              refine lX_26 X 42 dX3_putFrom_41 rfl rfl (by omega) ?_
              refine P_iconst X (-1) rfl 43 dX3_putFrom_42 rfl ?_
              refine P_ixor X 44 dX3_putFrom_43 rfl ?_
              refine P_iand X 45 dX3_putFrom_44 rfl ?_
              refine P_top (y := nI (an (mk2 (fun j9 => decide (c j9 = s)) i) (mk2 (M i) i))) (by rw [hI0.2.2.2.2.2.1 s (by omega), hP.2.2.2.2.1 s (by omega), hI0.2.2.2.2.2.2 26 (by decide) (by decide), hP.2.2.2.1 i (by omega), nI_an]) ?_
              have hx12 : an (mk2 (fun j9 => decide (c j9 = s)) i) (mk2 (M i) i) < 2 ^ 31 := Nat.lt_of_le_of_lt (an_le _ _) (Nat.lt_trans (mk2_12 _ (by omega)) (by decide))
              refine P_if_ne X 82 48 dX3_putFrom_45 rfl rfl (fun b45 => ?_) (fun b45 => ?_)
              · refine P_iinc3 X (1) rfl 85 dX3_putFrom_82 rfl (by decide) rfl ?_
                refine P_goto X 25 dX3_putFrom_85 rfl ?_
                rw [nI_1]
                first | exact ih (s + 1) _ _ (by omega) hL2 | exact ih (s + 1) _ _ (by omega) (LF_no hn (by omega) hI0 (fun z => b45 (by rw [z]; rfl)))
              · have hf : an (mk2 (fun j9 => decide (c j9 = s)) i) (mk2 (M i) i) = 0 := (nI_eq hx12 (b := 0) (by decide)).mp b45
                have hPF := PF_in (h1 := h1) hn (by omega) (by omega) hP hI0 hf
                refine P_aload0 X 49 dX3_putFrom_48 rfl ?_
                refine gX_3_1 X 52 dX3_putFrom_49 rfl fl_X3_15 ?_
                refine P_iload3 X 53 dX3_putFrom_52 rfl ?_
                refine P_dup2 X rfl rfl 54 dX3_putFrom_53 rfl ?_
                refine lX_27 X 55 dX3_putFrom_54 rfl rfl (by omega) ?_
                refine P_iconst X (1) rfl 56 dX3_putFrom_55 rfl ?_
                refine P_iload1 X 57 dX3_putFrom_56 rfl ?_
                refine P_ishl X 58 dX3_putFrom_57 rfl ?_
                refine P_ior X 59 dX3_putFrom_58 rfl ?_
                refine sX_27 X 60 dX3_putFrom_59 rfl rfl (by omega) ?_
                refine P_aload0 X 61 dX3_putFrom_60 rfl ?_
                refine P_iload1 X 62 dX3_putFrom_61 rfl ?_
                refine P_iconst X (1) rfl 63 dX3_putFrom_62 rfl ?_
                refine P_iadd X 64 dX3_putFrom_63 rfl ?_
                refine P_iload2 X 65 dX3_putFrom_64 rfl ?_
                rw [nI_1]
                refine V2g X 3 68 dX3_putFrom_65 rfl lk_X3_31 mv_X3_putFrom rfl (by omega) (Nat.le_of_ble_eq_true rfl) (Nat.le_of_ble_eq_true rfl) rfl rfl (ihm (d - 1) (i + 1) sets b1 (cx c i s) _ (by omega) (by omega) (by omega) hPF) (fun r h2 hp => ?_)
                obtain ⟨rfl, hq⟩ := hp
                have hLF := LF_in hn (by omega) (by omega) hP hI0 hq
                obtain ⟨b2, hL2⟩ := hLF
                change GW K 4 E (wdX E) A 68 [some (.ref (E.2.2.1 3)), some (.int (nI i)), some (.int (nI sets)), some (.int (nI s))] [] h2
                refine P_aload0 X 69 dX3_putFrom_68 rfl ?_
                refine gX_3_1 X 72 dX3_putFrom_69 rfl fl_X3_15 ?_
                refine P_iload3 X 73 dX3_putFrom_72 rfl ?_
                refine P_dup2 X rfl rfl 74 dX3_putFrom_73 rfl ?_
                refine lX_27 X 75 dX3_putFrom_74 rfl rfl (by omega) ?_
                refine P_iconst X (1) rfl 76 dX3_putFrom_75 rfl ?_
                refine P_iload1 X 77 dX3_putFrom_76 rfl ?_
                refine P_ishl X 78 dX3_putFrom_77 rfl ?_
                refine P_iconst X (-1) rfl 79 dX3_putFrom_78 rfl ?_
                refine P_ixor X 80 dX3_putFrom_79 rfl ?_
                refine P_iand X 81 dX3_putFrom_80 rfl ?_
                refine sX_27 X 82 dX3_putFrom_81 rfl rfl (by omega) ?_
                refine P_iinc3 X (1) rfl 85 dX3_putFrom_82 rfl (by decide) rfl ?_
                refine P_goto X 25 dX3_putFrom_85 rfl ?_
                rw [nI_1]
                first | exact ih (s + 1) _ _ (by omega) hL2 | exact ih (s + 1) _ _ (by omega) (LF_no hn (by omega) hI0 (fun z => b45 (by rw [z]; rfl)))
        refine P_iconst X (0) rfl 24 dX3_putFrom_23 rfl ?_
        refine P_istore3 X 25 dX3_putFrom_24 rfl (by decide) rfl ?_
        exact L sets 0 b h (by omega) (LF_0 hP)
      · exact absurd (nI_lt (by omega) (by omega)) b14
    · have hbs : b ≤ sets := Nat.le_of_not_lt (fun z => b5 (nI_lt z (by omega)))
      exact P_ret X hQ dX3_putFrom_8 ⟨rfl, QF_cut hP hbs⟩
abbrev MX (h : Hp) (fr : Nat) : Nat → Nat → Bool := fun a b => mtB (h 12) (h 13) (h 14) (h 15) (h 16) (h 18) (h 19) (fr + a) (fr + b)
theorem put_up2 {h : Hp} {k i : Nat} {f : Nat → Int32} {v : Int32} : put (up2 h k f) k i v = up2 h k (upd f i v) := by
  funext j9
  by_cases e : j9 = k
  · subst e; simp [put, up2]
  · simp [put, up2, e]
theorem mk2_y {p : Nat → Bool} {n : Nat} (hn : n < 13) (h : p n = true) : nI (mk2 p n) ||| ((1 : Int32) <<< (nI n &&& 31)) = nI (mk2 p (n + 1)) := by rw [sl12 n hn, nI_or, mk2, if_pos h]
theorem mk2_n {p : Nat → Bool} {n : Nat} (h : p n = false) : mk2 p (n + 1) = mk2 p n := by rw [mk2, h]; exact Nat.or_zero _
theorem fx_y {M : Nat → Nat → Bool} {f2 : Nat → Int32} {i j9 : Nat} (hj : j9 < 13) (h0 : f2 i = nI (mk2 (M i) j9)) (hm : M i j9 = true) : upd f2 i (f2 i ||| ((1 : Int32) <<< (nI j9 &&& 31))) i = nI (mk2 (M i) (j9 + 1)) := by rw [pk_us, h0, mk2_y hj hm]
theorem fx_o {f2 g2 : Nat → Int32} {i : Nat} {v : Int32} (h1 : ∀ a, a < i → f2 a = g2 a) : ∀ a, a < i → upd f2 i v a = g2 a := fun a ha => by rw [pk_un (by omega)]; exact h1 a ha
theorem PF_start {h : Hp} {f : Nat → Int32} {fr n : Nat} (hn : n ≤ 12) (hI : ∀ a, a < n → f a = nI (mk2 (MX h fr a) a)) : PF (MX h fr) n 0 0 n (fun _ => 0) (put (put (up2 h 26 f) 3 2 (nI n)) 3 3 (nI n)) := by
  refine ⟨?_, put_s, hn, ?_, fun s hs => absurd hs (Nat.not_lt_zero _), fun a b ha => absurd ha (Nat.not_lt_zero _), fun j9 hj => absurd hj (Nat.not_lt_zero _)⟩
  · rw [put_i (by decide), put_s]
  · intro a ha
    rw [put_n (by decide), put_n (by decide), up2_s]
    exact hI a ha
theorem FW_end {h h2 : Hp} {f : Nat → Int32} {fr n : Nat} (hn : n ≤ 12) (hq : QF (MX h fr) n 0 0 n (fun _ => 0) (put (put (up2 h 26 f) 3 2 (nI n)) 3 3 (nI n)) h2) : ∃ k9, some (Value.int (h2 3 3)) = some (.int (nI k9)) ∧ Fw (MX h fr) n k9 ∧ k9 ≤ 12 ∧ ∀ j9, j9 ≠ 3 → j9 ≠ 26 → j9 ≠ 27 → h2 j9 = h j9 := by
  obtain ⟨b2, q1, q2, q3, q4, q5, q6, q7⟩ := hq
  refine ⟨b2, by rw [q1], ⟨?_, ?_⟩, by omega, ?_⟩
  · rcases q3 with q3 | ⟨c', -, q3, q8⟩
    · refine ⟨fun j9 => j9, fun a b ha hb e => ?_, fun j9 hj => by rw [q3]; exact hj⟩
      have e2 : a = b := e
      omega
    · exact ⟨c', q3, q8⟩
  · intro c k' hv hl
    exact q4 c k' (fun j9 hj => absurd hj (Nat.not_lt_zero _)) hv hl (Nat.zero_le _)
  · intro j9 z1 z2 z3
    rw [q7 j9 z1 z3, put_n z1, put_n z1, up2_n z2]
set_option maxHeartbeats 4000000 in
set_option maxRecDepth 100000 in
theorem k_X3_fewestSets {d : Nat} {E : Ev} {fr n : Nat} {h : Hp} (hd : 14 ≤ d) (hn : n ≤ 12) (hfr : fr + n ≤ 40) (hB : AB (h 12) (h 13) (h 14) (h 15) (h 16) (h 18) (h 19)) : Cl d yX3_fewestSets cX3_fewestSets 6 (some .int) E (wdX E) [.ref (E.2.2.1 3), .ref (E.2.2.1 1), .int (nI fr), .int (nI n)] h (fun r h' => ∃ k9, r = some (.int (nI k9)) ∧ Fw (MX h fr) n k9 ∧ k9 ≤ 12 ∧ ∀ j9, j9 ≠ 3 → j9 ≠ 26 → j9 ≠ 27 → h' j9 = h j9) := by
  refine Cl_of [some (.ref (E.2.2.1 3)), some (.ref (E.2.2.1 1)), some (.int (nI fr)), some (.int (nI n)), none, none] (by decide) rfl (Nat.le_of_ble_eq_true rfl) (fun K A X hQ => ?_)
  have L : ∀ (m i : Nat) (f : Nat → Int32) (o5 : Option Value), i + m = n → (∀ a, a < i → f a = nI (mk2 (MX h fr a) a)) → GW K 6 E (wdX E) A 3 [some (.ref (E.2.2.1 3)), some (.ref (E.2.2.1 1)), some (.int (nI fr)), some (.int (nI n)), some (.int (nI i)), o5] [] (up2 h 26 f) := by
    intro m
    induction m with
    | zero =>
      intro i f o5 hm hI0
      refine P_iload4 X 5 dX3_fewestSets_3 rfl ?_
      refine P_iload3 X 6 dX3_fewestSets_5 rfl ?_
      refine P_icmp_ge X 68 9 dX3_fewestSets_6 rfl rfl (fun b6 => ?_) (fun b6 => ?_)
      · have hin : i = n := by omega
        rw [hin] at hI0
        have hPF := PF_start hn hI0
        refine P_aload0 X 69 dX3_fewestSets_68 rfl ?_
        refine P_iload3 X 70 dX3_fewestSets_69 rfl ?_
        refine pX_3_2 X 73 dX3_fewestSets_70 rfl fw_X3_24 ?_
        refine P_aload0 X 74 dX3_fewestSets_73 rfl ?_
        refine P_iload3 X 75 dX3_fewestSets_74 rfl ?_
        refine pX_3_3 X 78 dX3_fewestSets_75 rfl fw_X3_28 ?_
        refine P_aload0 X 79 dX3_fewestSets_78 rfl ?_
        refine P_iconst X (0) rfl 80 dX3_fewestSets_79 rfl ?_
        refine P_iconst X (0) rfl 81 dX3_fewestSets_80 rfl ?_
        refine V2g X 3 84 dX3_fewestSets_81 rfl lk_X3_31 mv_X3_putFrom rfl (by omega) (Nat.le_of_ble_eq_true rfl) (Nat.le_of_ble_eq_true rfl) rfl rfl (k_X3_putFrom (M := MX h fr) hn n (d - 1) 0 0 n (fun _ => 0) _ (by omega) (by omega) (by omega) hPF) (fun r h2 hp => ?_)
        obtain ⟨rfl, hq⟩ := hp
        change GW K 6 E (wdX E) A 84 [some (.ref (E.2.2.1 3)), some (.ref (E.2.2.1 1)), some (.int (nI fr)), some (.int (nI n)), some (.int (nI i)), o5] [] h2
        refine P_aload0 X 85 dX3_fewestSets_84 rfl ?_
        refine gX_3_3 X 88 dX3_fewestSets_85 rfl fl_X3_28 ?_
        exact P_iret X hQ dX3_fewestSets_88 (FW_end hn hq)
      · exact (geN rfl b6 (by omega) (by omega)).elim
    | succ m ih =>
      intro i f o5 hm hI0
      refine P_iload4 X 5 dX3_fewestSets_3 rfl ?_
      refine P_iload3 X 6 dX3_fewestSets_5 rfl ?_
      refine P_icmp_ge X 68 9 dX3_fewestSets_6 rfl rfl (fun b6 => ?_) (fun b6 => ?_)
      · exact (geY rfl b6 (by omega) (by omega)).elim
      · refine P_aload0 X 10 dX3_fewestSets_9 rfl ?_
        refine gX_3_0 X 13 dX3_fewestSets_10 rfl fl_X3_9 ?_
        refine P_iload4 X 15 dX3_fewestSets_13 rfl ?_
        refine P_iconst X (0) rfl 16 dX3_fewestSets_15 rfl ?_
        refine sX_26 X 17 dX3_fewestSets_16 rfl rfl (by omega) ?_
        refine P_iconst X (0) rfl 18 dX3_fewestSets_17 rfl ?_
        refine P_istore5 X 20 dX3_fewestSets_18 rfl (by decide) rfl ?_
        rw [put_up2]
        have L2 : ∀ (m j9 : Nat) (f2 : Nat → Int32), j9 + m = i → (f2 i = nI (mk2 (MX h fr i) j9)) → (∀ a, a < i → f2 a = nI (mk2 (MX h fr a) a)) → GW K 6 E (wdX E) A 20 [some (.ref (E.2.2.1 3)), some (.ref (E.2.2.1 1)), some (.int (nI fr)), some (.int (nI n)), some (.int (nI i)), some (.int (nI j9))] [] (up2 h 26 f2) := by
          intro m
          induction m with
          | zero =>
            intro j9 f2 hm hI0 hI1
            refine P_iload5 X 22 dX3_fewestSets_20 rfl ?_
            refine P_iload4 X 24 dX3_fewestSets_22 rfl ?_
            refine P_icmp_ge X 62 27 dX3_fewestSets_24 rfl rfl (fun b24 => ?_) (fun b24 => ?_)
            · have hji : j9 = i := by omega
              refine P_iinc4 X (1) rfl 65 dX3_fewestSets_62 rfl (by decide) rfl ?_
              refine P_goto X 3 dX3_fewestSets_65 rfl ?_
              rw [nI_1]
              exact ih (i + 1) f2 _ (by omega) (lt_s hI1 (by rw [hI0, hji]))
            · exact (geN rfl b24 (by omega) (by omega)).elim
          | succ m ih =>
            intro j9 f2 hm hI0 hI1
            refine P_iload5 X 22 dX3_fewestSets_20 rfl ?_
            refine P_iload4 X 24 dX3_fewestSets_22 rfl ?_
            refine P_icmp_ge X 62 27 dX3_fewestSets_24 rfl rfl (fun b24 => ?_) (fun b24 => ?_)
            · exact (geY rfl b24 (by omega) (by omega)).elim
            · refine P_aload1 X 28 dX3_fewestSets_27 rfl ?_
              refine P_iload2 X 29 dX3_fewestSets_28 rfl ?_
              refine P_iload4 X 31 dX3_fewestSets_29 rfl ?_
              refine P_iadd X 32 dX3_fewestSets_31 rfl ?_
              refine P_iload2 X 33 dX3_fewestSets_32 rfl ?_
              refine P_iload5 X 35 dX3_fewestSets_33 rfl ?_
              refine P_iadd X 36 dX3_fewestSets_35 rfl ?_
              rw [nI_add, nI_add]
              refine V2r X 1 39 dX3_fewestSets_36 rfl lk_X3_18 mv_X0_areMeeting rfl (by omega) (Nat.le_of_ble_eq_true rfl) (Nat.le_of_ble_eq_true rfl) rfl rfl (k_X0_areMeeting (by omega) (by omega) (by omega) hB) ?_
              refine P_bz X 56 42 dX3_fewestSets_39 rfl rfl (fun b39 => ?_) (fun b39 => ?_)
              · try rw [put_up2]
                refine P_iinc5 X (1) rfl 59 dX3_fewestSets_56 rfl (by decide) rfl ?_
                refine P_goto X 20 dX3_fewestSets_59 rfl ?_
                rw [nI_1]
                first | exact ih (j9 + 1) _ (by omega) (fx_y (M := MX h fr) (by omega) hI0 b39) (fx_o hI1) | exact ih (j9 + 1) _ (by omega) (by rw [hI0, mk2_n (p := MX h fr i) b39]) hI1
              · refine P_aload0 X 43 dX3_fewestSets_42 rfl ?_
                refine gX_3_0 X 46 dX3_fewestSets_43 rfl fl_X3_9 ?_
                refine P_iload4 X 48 dX3_fewestSets_46 rfl ?_
                refine P_dup2 X rfl rfl 49 dX3_fewestSets_48 rfl ?_
                refine lX_26 X 50 dX3_fewestSets_49 rfl rfl (by omega) ?_
                refine P_iconst X (1) rfl 51 dX3_fewestSets_50 rfl ?_
                refine P_iload5 X 53 dX3_fewestSets_51 rfl ?_
                refine P_ishl X 54 dX3_fewestSets_53 rfl ?_
                refine P_ior X 55 dX3_fewestSets_54 rfl ?_
                refine sX_26 X 56 dX3_fewestSets_55 rfl rfl (by omega) ?_
                try rw [put_up2]
                refine P_iinc5 X (1) rfl 59 dX3_fewestSets_56 rfl (by decide) rfl ?_
                refine P_goto X 20 dX3_fewestSets_59 rfl ?_
                rw [nI_1]
                first | exact ih (j9 + 1) _ (by omega) (fx_y (M := MX h fr) (by omega) hI0 b39) (fx_o hI1) | exact ih (j9 + 1) _ (by omega) (by rw [hI0, mk2_n (p := MX h fr i) b39]) hI1
        exact L2 i 0 _ (by omega) pk_us (fx_o hI0)
  refine P_iconst X (0) rfl 1 dX3_fewestSets_0 rfl ?_
  refine P_istore4 X 3 dX3_fewestSets_1 rfl (by decide) rfl ?_
  have e26 : up2 h 26 (h 26) = h := by
    funext j9
    by_cases e : j9 = 26
    · subst e; exact up2_s
    · exact up2_n e
  rw [← e26]
  exact L n 0 (h 26) none (by omega) (fun a ha => absurd ha (Nat.not_lt_zero _))
def okW (nA : Nat) (f n : Int32) : Prop := ∃ fr m9, f = nI fr ∧ n = nI m9 ∧ fr + m9 ≤ nA
theorem okW_f {nA : Nat} {f n : Int32} (hA : nA ≤ 40) (b : f < 0) : ¬ okW nA f n := by
  rintro ⟨fr, m9, rfl, rfl, hle⟩
  exact nI_pos (by omega) b
theorem okW_n {nA : Nat} {f n : Int32} (hA : nA ≤ 40) (b : n < 0) : ¬ okW nA f n := by
  rintro ⟨fr, m9, rfl, rfl, hle⟩
  exact nI_pos (by omega) b
theorem sub31 {a b : Nat} (ha : a < 2 ^ 31) (hb : b < 2 ^ 31) : (nI a - nI b).toInt = (a : Int) - b := by
  rw [Int32.toInt_sub, nI_toInt (by omega), nI_toInt (by omega)]
  exact Int.bmod_eq_of_le (by omega) (by omega)
theorem okW_3 {nA : Nat} {f n : Int32} (hA : nA ≤ 40) (b : ¬ n ≤ nI nA - f) : ¬ okW nA f n := by
  rintro ⟨fr, m9, rfl, rfl, hle⟩
  apply b
  rw [Int32.le_iff_toInt_le, sub31 (by omega) (by omega), nI_toInt (by omega)]
  omega
theorem okW_y {nA : Nat} {f n : Int32} (hA : nA ≤ 40) (hf : ¬ f < 0) (hn : ¬ n < 0) (b : n ≤ nI nA - f) : okW nA f n := by
  obtain ⟨fr, h1, rfl⟩ := nI_of hf
  obtain ⟨m9, h2, rfl⟩ := nI_of hn
  rw [Int32.le_iff_toInt_le, sub31 (by omega) (by omega), nI_toInt (by omega)] at b
  exact ⟨fr, m9, rfl, rfl, by omega⟩
theorem okW_4 {nA : Nat} {f n : Int32} (hA : nA ≤ 40) (b : nI nA < n) : ¬ okW nA f n := by
  rintro ⟨fr, m9, rfl, rfl, hle⟩
  exact nI_nlt (by omega) (by omega) b
theorem okW_5 {nA : Nat} {f n : Int32} (hA : nA ≤ 40) (b : ¬ f ≤ nI nA - n) : ¬ okW nA f n := by
  rintro ⟨fr, m9, rfl, rfl, hle⟩
  apply b
  rw [Int32.le_iff_toInt_le, sub31 (by omega) (by omega), nI_toInt (by omega)]
  omega
theorem okW_6 {nA : Nat} {f n : Int32} (hA : nA ≤ 40) (hf : ¬ f < 0) (hn : ¬ n < 0) (b : f ≤ nI nA - n) : okW nA f n := by
  obtain ⟨fr, h1, rfl⟩ := nI_of hf
  obtain ⟨m9, h2, rfl⟩ := nI_of hn
  rw [Int32.le_iff_toInt_le, sub31 (by omega) (by omega), nI_toInt (by omega)] at b
  exact ⟨fr, m9, rfl, rfl, by omega⟩
/-- how fewest ends: M of the numbers, fi the finding, fm the places that it uses -/
def PW (M : Nat → Nat → Nat → Bool) (nA : Nat) (f n : Int32) (h hf : Hp) (fm : Nat → Bool) : Option Value → Hp → Prop := fun r h' => (¬ okW nA f n ∧ r = some (.int (-1000001)) ∧ h' = hf) ∨ (∃ fr m9, f = nI fr ∧ n = nI m9 ∧ fr + m9 ≤ nA ∧ 12 < m9 ∧ r = some (.int (-1000006)) ∧ h' = hf) ∨ (∃ fr m9, f = nI fr ∧ n = nI m9 ∧ fr + m9 ≤ nA ∧ m9 ≤ 12 ∧ ∃ k9, r = some (.int (nI k9)) ∧ Fw (M fr) m9 k9 ∧ ∀ j9, fm j9 = false → h' j9 = h j9)
set_option maxHeartbeats 4000000 in
set_option maxRecDepth 100000 in
theorem k_X8_fewest {d : Nat} {E : Ev} {nA : Nat} {f n : Int32} {h : Hp} (hd : 15 ≤ d) (hc : h 1 8 = nI nA) (hA : nA ≤ 40) (hB : AB (h 12) (h 13) (h 14) (h 15) (h 16) (h 18) (h 19)) : Cl d yX8_fewest cX8_fewest 3 (some .int) E (wdX E) [.ref (E.2.2.1 0), .int f, .int n] h (PW (MX h) nA f n h (fiX h) (fun j9 => decide (j9 = 3) || decide (j9 = 26) || decide (j9 = 27))) := by
  refine Cl_of [some (.ref (E.2.2.1 0)), some (.int f), some (.int n)] (by decide) rfl (Nat.le_of_ble_eq_true rfl) (fun K A X hQ => ?_)
  refine P_iload1 X 1 dX8_fewest_0 rfl ?_
  refine P_if_lt X 21 4 dX8_fewest_1 rfl rfl (fun b1 => ?_) (fun b1 => ?_)
  · refine P_aload0 X 22 dX8_fewest_21 rfl ?_
    refine P_ldc X kc_X8_90 24 dX8_fewest_22 rfl ?_
    refine V1r X 0 27 dX8_fewest_24 rfl lk_X8_91 mv_X8_finding rfl (by omega) (Nat.le_of_ble_eq_true rfl) (Nat.le_of_ble_eq_true rfl) rfl rfl (k_X8_finding (by omega)) ?_
    exact P_iret X hQ dX8_fewest_27 (Or.inl ⟨okW_f hA b1, rfl, rfl⟩)
  · refine P_iload2 X 5 dX8_fewest_4 rfl ?_
    refine P_if_lt X 21 8 dX8_fewest_5 rfl rfl (fun b5 => ?_) (fun b5 => ?_)
    · refine P_aload0 X 22 dX8_fewest_21 rfl ?_
      refine P_ldc X kc_X8_90 24 dX8_fewest_22 rfl ?_
      refine V1r X 0 27 dX8_fewest_24 rfl lk_X8_91 mv_X8_finding rfl (by omega) (Nat.le_of_ble_eq_true rfl) (Nat.le_of_ble_eq_true rfl) rfl rfl (k_X8_finding (by omega)) ?_
      exact P_iret X hQ dX8_fewest_27 (Or.inl ⟨okW_n hA b5, rfl, rfl⟩)
    · refine P_iload2 X 9 dX8_fewest_8 rfl ?_
      refine P_aload0 X 10 dX8_fewest_9 rfl ?_
      refine gX_0_0 X 13 dX8_fewest_10 rfl fl_X8_10 ?_
      refine gX_1_8 X 16 dX8_fewest_13 rfl fl_X8_95 ?_
      refine P_top hc ?_
      refine P_iload1 X 17 dX8_fewest_16 rfl ?_
      refine P_isub X 18 dX8_fewest_17 rfl ?_
      refine P_icmp_le X 28 21 dX8_fewest_18 rfl rfl (fun b18 => ?_) (fun b18 => ?_)
      · obtain ⟨fr, m9, rfl, rfl, hle⟩ := okW_y hA b1 b5 b18
        refine P_iload2 X 29 dX8_fewest_28 rfl ?_
        refine P_bipush X (12) rfl 31 dX8_fewest_29 rfl ?_
        refine P_icmp_le X 41 34 dX8_fewest_31 rfl rfl (fun b31 => ?_) (fun b31 => ?_)
        · have h12 : m9 ≤ 12 := (nI_leI (b := 12) (by omega) (by decide)).mp b31
          refine P_aload0 X 42 dX8_fewest_41 rfl ?_
          refine gX_0_2 X 45 dX8_fewest_42 rfl fl_X8_26 ?_
          refine P_aload0 X 46 dX8_fewest_45 rfl ?_
          refine gX_0_0 X 49 dX8_fewest_46 rfl fl_X8_10 ?_
          refine P_iload1 X 50 dX8_fewest_49 rfl ?_
          refine P_iload2 X 51 dX8_fewest_50 rfl ?_
          refine V3g X 3 54 dX8_fewest_51 rfl lk_X8_131 mv_X3_fewestSets rfl (by omega) (Nat.le_of_ble_eq_true rfl) (Nat.le_of_ble_eq_true rfl) rfl rfl (k_X3_fewestSets (by omega) h12 (by omega) hB) (fun r h2 hp => ?_)
          obtain ⟨k9, rfl, hfw, hk9, hfr⟩ := hp
          change GW K 3 E (wdX E) A 54 [some (.ref (E.2.2.1 0)), some (.int (nI fr)), some (.int (nI m9))] [.int (nI k9)] h2
          exact P_iret X hQ dX8_fewest_54 (Or.inr (Or.inr ⟨fr, m9, rfl, rfl, hle, h12, k9, rfl, hfw, fun j9 hj => by simp only [Bool.or_eq_false_iff, decide_eq_false_iff_not] at hj; exact hfr j9 hj.1.1 hj.1.2 hj.2⟩))
        · refine P_aload0 X 35 dX8_fewest_34 rfl ?_
          refine P_ldc X kc_X8_130 37 dX8_fewest_35 rfl ?_
          refine V1r X 0 40 dX8_fewest_37 rfl lk_X8_91 mv_X8_finding rfl (by omega) (Nat.le_of_ble_eq_true rfl) (Nat.le_of_ble_eq_true rfl) rfl rfl (k_X8_finding (by omega)) ?_
          exact P_iret X hQ dX8_fewest_40 (Or.inr (Or.inl ⟨fr, m9, rfl, rfl, hle, Nat.lt_of_not_le (fun z => b31 (nI_le (b := 12) z (by decide))), rfl, rfl⟩))
      · refine P_aload0 X 22 dX8_fewest_21 rfl ?_
        refine P_ldc X kc_X8_90 24 dX8_fewest_22 rfl ?_
        refine V1r X 0 27 dX8_fewest_24 rfl lk_X8_91 mv_X8_finding rfl (by omega) (Nat.le_of_ble_eq_true rfl) (Nat.le_of_ble_eq_true rfl) rfl rfl (k_X8_finding (by omega)) ?_
        exact P_iret X hQ dX8_fewest_27 (Or.inl ⟨okW_3 hA b18, rfl, rfl⟩)
