/-! pure loops -/
def cnt (p : Nat → Bool) : Nat → Nat
  | 0 => 0
  | n + 1 => cnt p n + (if p n then 1 else 0)
theorem cnt_le (p : Nat → Bool) : ∀ n, cnt p n ≤ n
  | 0 => Nat.le_refl _
  | n + 1 => by have := cnt_le p n; rw [cnt]; split <;> omega
theorem cnt_y {p : Nat → Bool} {n : Nat} (h : p n = true) : nI (cnt p n) + 1 = nI (cnt p (n + 1)) := by rw [cnt, h]; exact nI_1 _
theorem cnt_n {p : Nat → Bool} {n : Nat} (h : p n = false) : nI (cnt p n) = nI (cnt p (n + 1)) := by rw [cnt, h]; rfl
theorem cnt_n0 {p : Nat → Bool} {n : Nat} (h : p n = false) : nI (cnt p n) + 0 = nI (cnt p (n + 1)) := by rw [Int32.add_zero]; exact cnt_n h
theorem geN {x : Int32} {n i : Nat} (hc : x = nI n) (b : ¬ x ≤ nI i) (e : n ≤ i) (hi : i < 2 ^ 31) : False := b (by rw [hc]; exact nI_le e hi)
theorem geY {x : Int32} {n i : Nat} (hc : x = nI n) (b : x ≤ nI i) (e : i < n) (hn : n < 2 ^ 31) : False := nI_ge e hn (by rw [hc] at b; exact b)
def alln (p : Nat → Bool) : Nat → Bool
  | 0 => true
  | n + 1 => alln p n && p n
theorem alln_t {p : Nat → Bool} : ∀ {n : Nat}, (∀ j, j < n → p j = true) → alln p n = true
  | 0, _ => rfl
  | n + 1, h => by rw [alln, alln_t (fun j hj => h j (by omega)), h n (by omega)]; rfl
theorem alln_f {p : Nat → Bool} {i : Nat} : ∀ {n : Nat}, i < n → p i = false → alln p n = false
  | 0, h, _ => absurd h (Nat.not_lt_zero _)
  | n + 1, h, e => by
    rw [alln]
    by_cases q : i = n
    · subst q; rw [e, Bool.and_false]
    · rw [alln_f (by omega) e]; rfl
theorem alln_cong {p q : Nat → Bool} : ∀ {n : Nat}, (∀ j, j < n → p j = q j) → alln p n = alln q n
  | 0, _ => rfl
  | n + 1, h => by rw [alln, alln, alln_cong (fun j hj => h j (by omega)), h n (by omega)]
def fst (p : Nat → Bool) : Nat → Nat
  | 0 => 0
  | n + 1 => if fst p n < n then fst p n else if p n then n else n + 1
theorem fst_le (p : Nat → Bool) : ∀ n, fst p n ≤ n
  | 0 => Nat.le_refl _
  | n + 1 => by have := fst_le p n; rw [fst]; split <;> (try split) <;> omega
theorem fst_none {p : Nat → Bool} : ∀ {n : Nat}, (∀ j, j < n → p j = false) → fst p n = n
  | 0, _ => rfl
  | n + 1, h => by rw [fst, fst_none (fun j hj => h j (by omega)), if_neg (by omega), h n (by omega)]; rfl
theorem fst_at {p : Nat → Bool} {i : Nat} (h1 : ∀ j, j < i → p j = false) (h2 : p i = true) : ∀ {n : Nat}, i < n → fst p n = i
  | 0, h => absurd h (Nat.not_lt_zero _)
  | n + 1, h => by
    rw [fst]
    by_cases q : i = n
    · subst q; rw [fst_none h1, if_neg (by omega), h2]; rfl
    · rw [fst_at h1 h2 (show i < n by omega), if_pos (by omega)]
theorem fst_cong {p q : Nat → Bool} : ∀ {n : Nat}, (∀ j, j < n → p j = q j) → fst p n = fst q n
  | 0, _ => rfl
  | n + 1, h => by rw [fst, fst, fst_cong (fun j hj => h j (by omega)), h n (by omega)]
def nthF (p : Nat → Bool) : Nat → Nat → Int32 → Int32
  | 0, _, _ => -1
  | m + 1, i, k => if p i then (if k = 0 then nI i else nthF p m (i + 1) (k + -1)) else nthF p m (i + 1) k
theorem lt_s2 {i : Nat} {p : Nat → Prop} (h : ∀ a, a < i → p a) (hi : p i) : ∀ a, a < i + 1 → p a := lt_s h hi

set_option maxHeartbeats 4000000 in
set_option maxRecDepth 100000 in
theorem k_X0_countOfThing {d : Nat} {E : Ev} {n : Nat} {t : Int32} {h : Hp} (hd : 0 ≤ d) (hc : h 1 8 = nI n) (hn : n ≤ 40) : Cl d yX0_countOfThing cX0_countOfThing 4 (some .int) E (wdX E) [.ref (E.2.2.1 1), .int t] h (Rt (some (.int (nI (cnt (fun o => decide (h 17 o = t)) n)))) h) := by
  refine Cl_of [some (.ref (E.2.2.1 1)), some (.int t), none, none] (by decide) rfl (Nat.le_of_ble_eq_true rfl) (fun K A X hQ => ?_)
  have L : ∀ (m i : Nat), i + m = n → GW K 4 E (wdX E) A 4 [some (.ref (E.2.2.1 1)), some (.int t), some (.int (nI (cnt (fun o => decide (h 17 o = t)) i))), some (.int (nI i))] [] h := by
    intro m
    induction m with
    | zero =>
      intro i hm
      refine P_iload3 X 5 dX0_countOfThing_4 rfl ?_
      refine P_aload0 X 6 dX0_countOfThing_5 rfl ?_
      refine gX_1_8 X 9 dX0_countOfThing_6 rfl fl_X0_36 ?_
      refine P_icmp_ge X 31 12 dX0_countOfThing_9 rfl rfl (fun b9 => ?_) (fun b9 => ?_)
      · obtain rfl : i = n := by omega
        refine P_iload2 X 32 dX0_countOfThing_31 rfl ?_
        exact P_iret X hQ dX0_countOfThing_32 ⟨rfl, rfl⟩
      · exact (geN hc b9 (by omega) (by omega)).elim
    | succ m ih =>
      intro i hm
      refine P_iload3 X 5 dX0_countOfThing_4 rfl ?_
      refine P_aload0 X 6 dX0_countOfThing_5 rfl ?_
      refine gX_1_8 X 9 dX0_countOfThing_6 rfl fl_X0_36 ?_
      refine P_icmp_ge X 31 12 dX0_countOfThing_9 rfl rfl (fun b9 => ?_) (fun b9 => ?_)
      · exact (geY hc b9 (by omega) (by omega)).elim
      · refine P_aload0 X 13 dX0_countOfThing_12 rfl ?_
        refine gX_1_5 X 16 dX0_countOfThing_13 rfl fl_X0_27 ?_
        refine P_iload3 X 17 dX0_countOfThing_16 rfl ?_
        refine lX_17 X 18 dX0_countOfThing_17 rfl rfl (by omega) ?_
        refine P_iload1 X 19 dX0_countOfThing_18 rfl ?_
        refine P_icmp_ne X 25 22 dX0_countOfThing_19 rfl rfl (fun b19 => ?_) (fun b19 => ?_)
        · refine P_iinc3 X (1) rfl 28 dX0_countOfThing_25 rfl (by decide) rfl ?_
          refine P_goto X 4 dX0_countOfThing_28 rfl ?_
          have ec := cnt_n (p := (fun o => decide (h 17 o = t))) (n := i) (by simpa using b19)
          rw [ec, nI_1]
          exact ih (i + 1) (by omega)
        · refine P_iinc2 X (1) rfl 25 dX0_countOfThing_22 rfl (by decide) rfl ?_
          refine P_iinc3 X (1) rfl 28 dX0_countOfThing_25 rfl (by decide) rfl ?_
          refine P_goto X 4 dX0_countOfThing_28 rfl ?_
          have ec := cnt_y (p := (fun o => decide (h 17 o = t))) (n := i) (by simpa using b19)
          rw [ec, nI_1]
          exact ih (i + 1) (by omega)
  refine P_iconst X (0) rfl 1 dX0_countOfThing_0 rfl ?_
  refine P_istore2 X 2 dX0_countOfThing_1 rfl (by decide) rfl ?_
  refine P_iconst X (0) rfl 3 dX0_countOfThing_2 rfl ?_
  refine P_istore3 X 4 dX0_countOfThing_3 rfl (by decide) rfl ?_
  exact L n 0 (by omega)
set_option maxHeartbeats 4000000 in
set_option maxRecDepth 100000 in
theorem k_X9_asksOf {d : Nat} {E : Ev} {n : Nat} {t : Int32} {h : Hp} (hd : 0 ≤ d) (hc : h 0 1 = nI n) (hn : n ≤ 40) : Cl d yX9_asksOf cX9_asksOf 4 (some .int) E (wdY E) [.ref (E.2.2.1 0), .int t] h (Rt (some (.int (nI (cnt (fun o => decide (h 6 o = t)) n)))) h) := by
  refine Cl_of [some (.ref (E.2.2.1 0)), some (.int t), none, none] (by decide) rfl (Nat.le_of_ble_eq_true rfl) (fun K A X hQ => ?_)
  have L : ∀ (m i : Nat), i + m = n → GW K 4 E (wdY E) A 4 [some (.ref (E.2.2.1 0)), some (.int t), some (.int (nI (cnt (fun o => decide (h 6 o = t)) i))), some (.int (nI i))] [] h := by
    intro m
    induction m with
    | zero =>
      intro i hm
      refine P_iload3 X 5 dX9_asksOf_4 rfl ?_
      refine P_aload0 X 6 dX9_asksOf_5 rfl ?_
      refine gY_0_1 X 9 dX9_asksOf_6 rfl fl_X9_115 ?_
      refine P_icmp_ge X 36 12 dX9_asksOf_9 rfl rfl (fun b9 => ?_) (fun b9 => ?_)
      · obtain rfl : i = n := by omega
        refine P_iload2 X 37 dX9_asksOf_36 rfl ?_
        exact P_iret X hQ dX9_asksOf_37 ⟨rfl, rfl⟩
      · exact (geN hc b9 (by omega) (by omega)).elim
    | succ m ih =>
      intro i hm
      refine P_iload3 X 5 dX9_asksOf_4 rfl ?_
      refine P_aload0 X 6 dX9_asksOf_5 rfl ?_
      refine gY_0_1 X 9 dX9_asksOf_6 rfl fl_X9_115 ?_
      refine P_icmp_ge X 36 12 dX9_asksOf_9 rfl rfl (fun b9 => ?_) (fun b9 => ?_)
      · exact (geY hc b9 (by omega) (by omega)).elim
      · refine P_iload2 X 13 dX9_asksOf_12 rfl ?_
        refine P_aload0 X 14 dX9_asksOf_13 rfl ?_
        refine gY_0_7 X 17 dX9_asksOf_14 rfl fl_X9_25 ?_
        refine P_iload3 X 18 dX9_asksOf_17 rfl ?_
        refine lY_6 X 19 dX9_asksOf_18 rfl rfl (by omega) ?_
        refine P_iload1 X 20 dX9_asksOf_19 rfl ?_
        refine P_icmp_ne X 27 23 dX9_asksOf_20 rfl rfl (fun b20 => ?_) (fun b20 => ?_)
        · refine P_iconst X (0) rfl 28 dX9_asksOf_27 rfl ?_
          refine P_iadd X 29 dX9_asksOf_28 rfl ?_
          refine P_istore2 X 30 dX9_asksOf_29 rfl (by decide) rfl ?_
          refine P_iinc3 X (1) rfl 33 dX9_asksOf_30 rfl (by decide) rfl ?_
          refine P_goto X 4 dX9_asksOf_33 rfl ?_
          have ec := cnt_n0 (p := (fun o => decide (h 6 o = t))) (n := i) (by simpa using b20)
          rw [ec, nI_1]
          exact ih (i + 1) (by omega)
        · refine P_iconst X (1) rfl 24 dX9_asksOf_23 rfl ?_
          refine P_goto X 28 dX9_asksOf_24 rfl ?_
          refine P_iadd X 29 dX9_asksOf_28 rfl ?_
          refine P_istore2 X 30 dX9_asksOf_29 rfl (by decide) rfl ?_
          refine P_iinc3 X (1) rfl 33 dX9_asksOf_30 rfl (by decide) rfl ?_
          refine P_goto X 4 dX9_asksOf_33 rfl ?_
          have ec := cnt_y (p := (fun o => decide (h 6 o = t))) (n := i) (by simpa using b20)
          rw [ec, nI_1]
          exact ih (i + 1) (by omega)
  refine P_iconst X (0) rfl 1 dX9_asksOf_0 rfl ?_
  refine P_istore2 X 2 dX9_asksOf_1 rfl (by decide) rfl ?_
  refine P_iconst X (0) rfl 3 dX9_asksOf_2 rfl ?_
  refine P_istore3 X 4 dX9_asksOf_3 rfl (by decide) rfl ?_
  exact L n 0 (by omega)
set_option maxHeartbeats 4000000 in
set_option maxRecDepth 100000 in
theorem k_X7_countOpen {d : Nat} {E : Ev} {n : Nat}  {h : Hp} (hd : 0 ≤ d) (hc : h 2 6 = nI n) (hn : n ≤ 40) : Cl d yX7_countOpen cX7_countOpen 3 (some .int) E (wdX E) [.ref (E.2.2.1 2)] h (Rt (some (.int (nI (cnt (fun o => !decide (h 21 o = 0)) n)))) h) := by
  refine Cl_of [some (.ref (E.2.2.1 2)), none, none] (by decide) rfl (Nat.le_of_ble_eq_true rfl) (fun K A X hQ => ?_)
  have L : ∀ (m i : Nat), i + m = n → GW K 3 E (wdX E) A 4 [some (.ref (E.2.2.1 2)), some (.int (nI (cnt (fun o => !decide (h 21 o = 0)) i))), some (.int (nI i))] [] h := by
    intro m
    induction m with
    | zero =>
      intro i hm
      refine P_iload2 X 5 dX7_countOpen_4 rfl ?_
      refine P_aload0 X 6 dX7_countOpen_5 rfl ?_
      refine gX_2_6 X 9 dX7_countOpen_6 rfl fl_X7_31 ?_
      refine P_icmp_ge X 30 12 dX7_countOpen_9 rfl rfl (fun b9 => ?_) (fun b9 => ?_)
      · obtain rfl : i = n := by omega
        refine P_iload1 X 31 dX7_countOpen_30 rfl ?_
        exact P_iret X hQ dX7_countOpen_31 ⟨rfl, rfl⟩
      · exact (geN hc b9 (by omega) (by omega)).elim
    | succ m ih =>
      intro i hm
      refine P_iload2 X 5 dX7_countOpen_4 rfl ?_
      refine P_aload0 X 6 dX7_countOpen_5 rfl ?_
      refine gX_2_6 X 9 dX7_countOpen_6 rfl fl_X7_31 ?_
      refine P_icmp_ge X 30 12 dX7_countOpen_9 rfl rfl (fun b9 => ?_) (fun b9 => ?_)
      · exact (geY hc b9 (by omega) (by omega)).elim
      · refine P_aload0 X 13 dX7_countOpen_12 rfl ?_
        refine gX_2_1 X 16 dX7_countOpen_13 rfl fl_X7_15 ?_
        refine P_iload2 X 17 dX7_countOpen_16 rfl ?_
        refine lX_21 X 18 dX7_countOpen_17 rfl rfl (by omega) ?_
        refine P_if_eq X 24 21 dX7_countOpen_18 rfl rfl (fun b18 => ?_) (fun b18 => ?_)
        · refine P_iinc2 X (1) rfl 27 dX7_countOpen_24 rfl (by decide) rfl ?_
          refine P_goto X 4 dX7_countOpen_27 rfl ?_
          have ec := cnt_n (p := (fun o => !decide (h 21 o = 0))) (n := i) (by simpa using b18)
          rw [ec, nI_1]
          exact ih (i + 1) (by omega)
        · refine P_iinc1 X (1) rfl 24 dX7_countOpen_21 rfl (by decide) rfl ?_
          refine P_iinc2 X (1) rfl 27 dX7_countOpen_24 rfl (by decide) rfl ?_
          refine P_goto X 4 dX7_countOpen_27 rfl ?_
          have ec := cnt_y (p := (fun o => !decide (h 21 o = 0))) (n := i) (by simpa using b18)
          rw [ec, nI_1]
          exact ih (i + 1) (by omega)
  refine P_iconst X (0) rfl 1 dX7_countOpen_0 rfl ?_
  refine P_istore1 X 2 dX7_countOpen_1 rfl (by decide) rfl ?_
  refine P_iconst X (0) rfl 3 dX7_countOpen_2 rfl ?_
  refine P_istore2 X 4 dX7_countOpen_3 rfl (by decide) rfl ?_
  exact L n 0 (by omega)
set_option maxHeartbeats 4000000 in
set_option maxRecDepth 100000 in
theorem k_X9_openMany {d : Nat} {E : Ev} {n : Nat}  {h : Hp} (hd : 0 ≤ d) (hc : h 0 10 = nI n) (hn : n ≤ 40) : Cl d yX9_openMany cX9_openMany 3 (some .int) E (wdY E) [.ref (E.2.2.1 0)] h (Rt (some (.int (nI (cnt (fun o => !decide (h 10 o = 0)) n)))) h) := by
  refine Cl_of [some (.ref (E.2.2.1 0)), none, none] (by decide) rfl (Nat.le_of_ble_eq_true rfl) (fun K A X hQ => ?_)
  have L : ∀ (m i : Nat), i + m = n → GW K 3 E (wdY E) A 4 [some (.ref (E.2.2.1 0)), some (.int (nI (cnt (fun o => !decide (h 10 o = 0)) i))), some (.int (nI i))] [] h := by
    intro m
    induction m with
    | zero =>
      intro i hm
      refine P_iload2 X 5 dX9_openMany_4 rfl ?_
      refine P_aload0 X 6 dX9_openMany_5 rfl ?_
      refine gY_0_10 X 9 dX9_openMany_6 rfl fl_X9_118 ?_
      refine P_icmp_ge X 35 12 dX9_openMany_9 rfl rfl (fun b9 => ?_) (fun b9 => ?_)
      · obtain rfl : i = n := by omega
        refine P_iload1 X 36 dX9_openMany_35 rfl ?_
        exact P_iret X hQ dX9_openMany_36 ⟨rfl, rfl⟩
      · exact (geN hc b9 (by omega) (by omega)).elim
    | succ m ih =>
      intro i hm
      refine P_iload2 X 5 dX9_openMany_4 rfl ?_
      refine P_aload0 X 6 dX9_openMany_5 rfl ?_
      refine gY_0_10 X 9 dX9_openMany_6 rfl fl_X9_118 ?_
      refine P_icmp_ge X 35 12 dX9_openMany_9 rfl rfl (fun b9 => ?_) (fun b9 => ?_)
      · exact (geY hc b9 (by omega) (by omega)).elim
      · refine P_iload1 X 13 dX9_openMany_12 rfl ?_
        refine P_aload0 X 14 dX9_openMany_13 rfl ?_
        refine gY_0_12 X 17 dX9_openMany_14 rfl fl_X9_37 ?_
        refine P_iload2 X 18 dX9_openMany_17 rfl ?_
        refine lY_10 X 19 dX9_openMany_18 rfl rfl (by omega) ?_
        refine P_if_eq X 26 22 dX9_openMany_19 rfl rfl (fun b19 => ?_) (fun b19 => ?_)
        · refine P_iconst X (0) rfl 27 dX9_openMany_26 rfl ?_
          refine P_iadd X 28 dX9_openMany_27 rfl ?_
          refine P_istore1 X 29 dX9_openMany_28 rfl (by decide) rfl ?_
          refine P_iinc2 X (1) rfl 32 dX9_openMany_29 rfl (by decide) rfl ?_
          refine P_goto X 4 dX9_openMany_32 rfl ?_
          have ec := cnt_n0 (p := (fun o => !decide (h 10 o = 0))) (n := i) (by simpa using b19)
          rw [ec, nI_1]
          exact ih (i + 1) (by omega)
        · refine P_iconst X (1) rfl 23 dX9_openMany_22 rfl ?_
          refine P_goto X 27 dX9_openMany_23 rfl ?_
          refine P_iadd X 28 dX9_openMany_27 rfl ?_
          refine P_istore1 X 29 dX9_openMany_28 rfl (by decide) rfl ?_
          refine P_iinc2 X (1) rfl 32 dX9_openMany_29 rfl (by decide) rfl ?_
          refine P_goto X 4 dX9_openMany_32 rfl ?_
          have ec := cnt_y (p := (fun o => !decide (h 10 o = 0))) (n := i) (by simpa using b19)
          rw [ec, nI_1]
          exact ih (i + 1) (by omega)
  refine P_iconst X (0) rfl 1 dX9_openMany_0 rfl ?_
  refine P_istore1 X 2 dX9_openMany_1 rfl (by decide) rfl ?_
  refine P_iconst X (0) rfl 3 dX9_openMany_2 rfl ?_
  refine P_istore2 X 4 dX9_openMany_3 rfl (by decide) rfl ?_
  exact L n 0 (by omega)
set_option maxHeartbeats 4000000 in
set_option maxRecDepth 100000 in
theorem k_X0_quarterOfAsk {d : Nat} {E : Ev} {a : Nat} {h : Hp} (hd : 1 ≤ d) (ha : a < 40) : Cl d yX0_quarterOfAsk cX0_quarterOfAsk 2 (some .int) E (wdX E) [.ref (E.2.2.1 1), .int (nI a)] h (Rt (some (.int (qtr (h 13 a) (h 14 a)))) h) := by
  refine Cl_of [some (.ref (E.2.2.1 1)), some (.int (nI a))] (by decide) rfl (Nat.le_of_ble_eq_true rfl) (fun K A X hQ => ?_)
  refine P_aload0 X 1 dX0_quarterOfAsk_0 rfl ?_
  refine gX_1_1 X 4 dX0_quarterOfAsk_1 rfl fl_X0_15 ?_
  refine P_iload1 X 5 dX0_quarterOfAsk_4 rfl ?_
  refine lX_13 X 6 dX0_quarterOfAsk_5 rfl rfl (by omega) ?_
  refine P_aload0 X 7 dX0_quarterOfAsk_6 rfl ?_
  refine gX_1_2 X 10 dX0_quarterOfAsk_7 rfl fl_X0_18 ?_
  refine P_iload1 X 11 dX0_quarterOfAsk_10 rfl ?_
  refine lX_14 X 12 dX0_quarterOfAsk_11 rfl rfl (by omega) ?_
  refine S2r X 15 dX0_quarterOfAsk_12 rfl lk_X0_54 ms_X8_quarterAt rfl (by omega) (Nat.le_of_ble_eq_true rfl) (k_X8_quarterAt (by omega)) ?_
  exact P_iret X hQ dX0_quarterOfAsk_15 ⟨rfl, rfl⟩
set_option maxHeartbeats 4000000 in
set_option maxRecDepth 100000 in
theorem k_X0_countIn {d : Nat} {E : Ev} {n : Nat} {q : Int32} {h : Hp} (hd : 2 ≤ d) (hc : h 1 8 = nI n) (hn : n ≤ 40) : Cl d yX0_countIn cX0_countIn 4 (some .int) E (wdX E) [.ref (E.2.2.1 1), .int q] h (Rt (some (.int (nI (cnt (fun o => decide (qtr (h 13 o) (h 14 o) = q)) n)))) h) := by
  refine Cl_of [some (.ref (E.2.2.1 1)), some (.int q), none, none] (by decide) rfl (Nat.le_of_ble_eq_true rfl) (fun K A X hQ => ?_)
  have L : ∀ (m i : Nat), i + m = n → GW K 4 E (wdX E) A 4 [some (.ref (E.2.2.1 1)), some (.int q), some (.int (nI (cnt (fun o => decide (qtr (h 13 o) (h 14 o) = q)) i))), some (.int (nI i))] [] h := by
    intro m
    induction m with
    | zero =>
      intro i hm
      refine P_iload3 X 5 dX0_countIn_4 rfl ?_
      refine P_aload0 X 6 dX0_countIn_5 rfl ?_
      refine gX_1_8 X 9 dX0_countIn_6 rfl fl_X0_36 ?_
      refine P_icmp_ge X 30 12 dX0_countIn_9 rfl rfl (fun b9 => ?_) (fun b9 => ?_)
      · obtain rfl : i = n := by omega
        refine P_iload2 X 31 dX0_countIn_30 rfl ?_
        exact P_iret X hQ dX0_countIn_31 ⟨rfl, rfl⟩
      · exact (geN hc b9 (by omega) (by omega)).elim
    | succ m ih =>
      intro i hm
      refine P_iload3 X 5 dX0_countIn_4 rfl ?_
      refine P_aload0 X 6 dX0_countIn_5 rfl ?_
      refine gX_1_8 X 9 dX0_countIn_6 rfl fl_X0_36 ?_
      refine P_icmp_ge X 30 12 dX0_countIn_9 rfl rfl (fun b9 => ?_) (fun b9 => ?_)
      · exact (geY hc b9 (by omega) (by omega)).elim
      · refine P_aload0 X 13 dX0_countIn_12 rfl ?_
        refine P_iload3 X 14 dX0_countIn_13 rfl ?_
        refine V1r X 1 17 dX0_countIn_14 rfl lk_X0_58 mv_X0_quarterOfAsk rfl (by omega) (Nat.le_of_ble_eq_true rfl) (Nat.le_of_ble_eq_true rfl) rfl rfl (k_X0_quarterOfAsk (a := i) (by omega) (by omega)) ?_
        refine P_iload1 X 18 dX0_countIn_17 rfl ?_
        refine P_icmp_ne X 24 21 dX0_countIn_18 rfl rfl (fun b18 => ?_) (fun b18 => ?_)
        · refine P_iinc3 X (1) rfl 27 dX0_countIn_24 rfl (by decide) rfl ?_
          refine P_goto X 4 dX0_countIn_27 rfl ?_
          have ec := cnt_n (p := (fun o => decide (qtr (h 13 o) (h 14 o) = q))) (n := i) (by simpa using b18)
          rw [ec, nI_1]
          exact ih (i + 1) (by omega)
        · refine P_iinc2 X (1) rfl 24 dX0_countIn_21 rfl (by decide) rfl ?_
          refine P_iinc3 X (1) rfl 27 dX0_countIn_24 rfl (by decide) rfl ?_
          refine P_goto X 4 dX0_countIn_27 rfl ?_
          have ec := cnt_y (p := (fun o => decide (qtr (h 13 o) (h 14 o) = q))) (n := i) (by simpa using b18)
          rw [ec, nI_1]
          exact ih (i + 1) (by omega)
  refine P_iconst X (0) rfl 1 dX0_countIn_0 rfl ?_
  refine P_istore2 X 2 dX0_countIn_1 rfl (by decide) rfl ?_
  refine P_iconst X (0) rfl 3 dX0_countIn_2 rfl ?_
  refine P_istore3 X 4 dX0_countIn_3 rfl (by decide) rfl ?_
  exact L n 0 (by omega)
