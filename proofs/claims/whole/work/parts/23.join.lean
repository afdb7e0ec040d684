set_option maxHeartbeats 4000000 in
set_option maxRecDepth 100000 in
theorem k_X0_nthOfThing {d : Nat} {E : Ev} {n : Nat} {t k0 : Int32} {h : Hp} (hd : 0 ≤ d) (hc : h 1 8 = nI n) (hn : n ≤ 40) : Cl d yX0_nthOfThing cX0_nthOfThing 5 (some .int) E (wdX E) [.ref (E.2.2.1 1), .int t, .int k0] h (Rt (some (.int (nthF (fun o => decide (h 17 o = t)) n 0 k0))) h) := by
  refine Cl_of [some (.ref (E.2.2.1 1)), some (.int t), some (.int k0), none, none] (by decide) rfl (Nat.le_of_ble_eq_true rfl) (fun K A X hQ => ?_)
  have L : ∀ (m i : Nat) (k : Int32), i + m = n → (nthF (fun o => decide (h 17 o = t)) m i k = nthF (fun o => decide (h 17 o = t)) n 0 k0) → GW K 5 E (wdX E) A 5 [some (.ref (E.2.2.1 1)), some (.int t), some (.int k0), some (.int k), some (.int (nI i))] [] h := by
    intro m
    induction m with
    | zero =>
      intro i k hm hI0
      refine P_iload4 X 7 dX0_nthOfThing_5 rfl ?_
      refine P_aload0 X 8 dX0_nthOfThing_7 rfl ?_
      refine gX_1_8 X 11 dX0_nthOfThing_8 rfl fl_X0_36 ?_
      refine P_icmp_ge X 41 14 dX0_nthOfThing_11 rfl rfl (fun b11 => ?_) (fun b11 => ?_)
      · obtain rfl : i = n := by omega
        refine P_iconst X (-1) rfl 42 dX0_nthOfThing_41 rfl ?_
        exact P_iret X hQ dX0_nthOfThing_42 (rti hI0)
      · exact (geN hc b11 (by omega) (by omega)).elim
    | succ m ih =>
      intro i k hm hI0
      refine P_iload4 X 7 dX0_nthOfThing_5 rfl ?_
      refine P_aload0 X 8 dX0_nthOfThing_7 rfl ?_
      refine gX_1_8 X 11 dX0_nthOfThing_8 rfl fl_X0_36 ?_
      refine P_icmp_ge X 41 14 dX0_nthOfThing_11 rfl rfl (fun b11 => ?_) (fun b11 => ?_)
      · exact (geY hc b11 (by omega) (by omega)).elim
      · refine P_aload0 X 15 dX0_nthOfThing_14 rfl ?_
        refine gX_1_5 X 18 dX0_nthOfThing_15 rfl fl_X0_27 ?_
        refine P_iload4 X 20 dX0_nthOfThing_18 rfl ?_
        refine lX_17 X 21 dX0_nthOfThing_20 rfl rfl (by omega) ?_
        refine P_iload1 X 22 dX0_nthOfThing_21 rfl ?_
        refine P_icmp_ne X 35 25 dX0_nthOfThing_22 rfl rfl (fun b22 => ?_) (fun b22 => ?_)
        · refine P_iinc4 X (1) rfl 38 dX0_nthOfThing_35 rfl (by decide) rfl ?_
          refine P_goto X 5 dX0_nthOfThing_38 rfl ?_
          rw [nI_1]
          rw [nthF, if_neg (by simpa using b22)] at hI0
          exact ih (i + 1) k (by omega) hI0
        · refine P_iload3 X 26 dX0_nthOfThing_25 rfl ?_
          refine P_if_ne X 32 29 dX0_nthOfThing_26 rfl rfl (fun b26 => ?_) (fun b26 => ?_)
          · refine P_iinc3 X (-1) rfl 35 dX0_nthOfThing_32 rfl (by decide) rfl ?_
            refine P_iinc4 X (1) rfl 38 dX0_nthOfThing_35 rfl (by decide) rfl ?_
            refine P_goto X 5 dX0_nthOfThing_38 rfl ?_
            rw [nI_1]
            rw [nthF, if_pos (by simpa using b22), if_neg b26] at hI0
            exact ih (i + 1) _ (by omega) hI0
          · refine P_iload4 X 31 dX0_nthOfThing_29 rfl ?_
            rw [nthF, if_pos (by simpa using b22), if_pos b26] at hI0
            exact P_iret X hQ dX0_nthOfThing_31 (rti hI0)
  refine P_iload2 X 1 dX0_nthOfThing_0 rfl ?_
  refine P_istore3 X 2 dX0_nthOfThing_1 rfl (by decide) rfl ?_
  refine P_iconst X (0) rfl 3 dX0_nthOfThing_2 rfl ?_
  refine P_istore4 X 5 dX0_nthOfThing_3 rfl (by decide) rfl ?_
  exact L n 0 k0 (by omega) rfl
set_option maxHeartbeats 4000000 in
set_option maxRecDepth 100000 in
theorem k_X0_meetsAllOfThing {d : Nat} {E : Ev} {n a t : Nat} {h : Hp} (hd : 3 ≤ d) (hc : h 1 8 = nI n) (hn : n ≤ 40) (ha : a < 40) (hB : AB (h 12) (h 13) (h 14) (h 15) (h 16) (h 18) (h 19)) : Cl d yX0_meetsAllOfThing cX0_meetsAllOfThing 4 (some .boolean) E (wdX E) [.ref (E.2.2.1 1), .int (nI a), .int (nI t)] h (Rt (some (.int (bI (alln (fun o => !decide (h 17 o = nI t) || mtB (h 12) (h 13) (h 14) (h 15) (h 16) (h 18) (h 19) o a) n)))) h) := by
  refine Cl_of [some (.ref (E.2.2.1 1)), some (.int (nI a)), some (.int (nI t)), none] (by decide) rfl (Nat.le_of_ble_eq_true rfl) (fun K A X hQ => ?_)
  have L : ∀ (m i : Nat) , i + m = n → (∀ j, j < i → (fun o => !decide (h 17 o = nI t) || mtB (h 12) (h 13) (h 14) (h 15) (h 16) (h 18) (h 19) o a) j = true) → GW K 4 E (wdX E) A 2 [some (.ref (E.2.2.1 1)), some (.int (nI a)), some (.int (nI t)), some (.int (nI i))] [] h := by
    intro m
    induction m with
    | zero =>
      intro i  hm hI0
      refine P_iload3 X 3 dX0_meetsAllOfThing_2 rfl ?_
      refine P_aload0 X 4 dX0_meetsAllOfThing_3 rfl ?_
      refine gX_1_8 X 7 dX0_meetsAllOfThing_4 rfl fl_X0_36 ?_
      refine P_icmp_ge X 37 10 dX0_meetsAllOfThing_7 rfl rfl (fun b7 => ?_) (fun b7 => ?_)
      · obtain rfl : i = n := by omega
        refine P_iconst X (1) rfl 38 dX0_meetsAllOfThing_37 rfl ?_
        exact P_zret X hQ dX0_meetsAllOfThing_38 (Or.inr rfl) (rt1 (alln_t hI0))
      · exact (geN hc b7 (by omega) (by omega)).elim
    | succ m ih =>
      intro i  hm hI0
      refine P_iload3 X 3 dX0_meetsAllOfThing_2 rfl ?_
      refine P_aload0 X 4 dX0_meetsAllOfThing_3 rfl ?_
      refine gX_1_8 X 7 dX0_meetsAllOfThing_4 rfl fl_X0_36 ?_
      refine P_icmp_ge X 37 10 dX0_meetsAllOfThing_7 rfl rfl (fun b7 => ?_) (fun b7 => ?_)
      · exact (geY hc b7 (by omega) (by omega)).elim
      · refine P_aload0 X 11 dX0_meetsAllOfThing_10 rfl ?_
        refine gX_1_5 X 14 dX0_meetsAllOfThing_11 rfl fl_X0_27 ?_
        refine P_iload3 X 15 dX0_meetsAllOfThing_14 rfl ?_
        refine lX_17 X 16 dX0_meetsAllOfThing_15 rfl rfl (by omega) ?_
        refine P_iload2 X 17 dX0_meetsAllOfThing_16 rfl ?_
        refine P_icmp_ne X 31 20 dX0_meetsAllOfThing_17 rfl rfl (fun b17 => ?_) (fun b17 => ?_)
        · refine P_iinc3 X (1) rfl 34 dX0_meetsAllOfThing_31 rfl (by decide) rfl ?_
          refine P_goto X 2 dX0_meetsAllOfThing_34 rfl ?_
          rw [nI_1]
          exact ih (i + 1) (by omega) (lt_s hI0 (by simp [b17]))
        · refine P_aload0 X 21 dX0_meetsAllOfThing_20 rfl ?_
          refine P_iload3 X 22 dX0_meetsAllOfThing_21 rfl ?_
          refine P_iload1 X 23 dX0_meetsAllOfThing_22 rfl ?_
          refine V2r X 1 26 dX0_meetsAllOfThing_23 rfl lk_X0_50 mv_X0_areMeeting rfl (by omega) (Nat.le_of_ble_eq_true rfl) (Nat.le_of_ble_eq_true rfl) rfl rfl (k_X0_areMeeting (a := i) (b := a) (by omega) (by omega) ha hB) ?_
          refine P_bn X 31 29 dX0_meetsAllOfThing_26 rfl rfl (fun b26 => ?_) (fun b26 => ?_)
          · refine P_iinc3 X (1) rfl 34 dX0_meetsAllOfThing_31 rfl (by decide) rfl ?_
            refine P_goto X 2 dX0_meetsAllOfThing_34 rfl ?_
            rw [nI_1]
            exact ih (i + 1) (by omega) (lt_s hI0 (by simp [b26]))
          · refine P_iconst X (0) rfl 30 dX0_meetsAllOfThing_29 rfl ?_
            exact P_zret X hQ dX0_meetsAllOfThing_30 (Or.inl rfl) (rt0 (alln_f (i := i) (by omega) (by simp [b17, b26])))
  refine P_iconst X (0) rfl 1 dX0_meetsAllOfThing_0 rfl ?_
  refine P_istore3 X 2 dX0_meetsAllOfThing_1 rfl (by decide) rfl ?_
  exact L n 0 (by omega) (fun j hj => absurd hj (Nat.not_lt_zero _))
def cand (kd xs ys db dy nr ap th op : Nat → Int32) (c a t : Nat) : Bool := !decide (op t = 0) && alln (fun o => !decide (th o = nI t) || mtB kd xs ys db dy nr ap o a) c
def fsI (p : Nat → Bool) (n : Nat) : Int32 := if fst p n < n then nI (fst p n) else -1
theorem fsI_none {p : Nat → Bool} {n : Nat} (h : ∀ j, j < n → p j = false) : -1 = fsI p n := by rw [fsI, fst_none h, if_neg (by omega)]
theorem fsI_at {p : Nat → Bool} {n i : Nat} (h1 : ∀ j, j < i → p j = false) (h2 : p i = true) (h : i < n) : nI i = fsI p n := by rw [fsI, fst_at h1 h2 h, if_pos h]
set_option maxHeartbeats 4000000 in
set_option maxRecDepth 100000 in
theorem k_X8_firstOpenThingFor {d : Nat} {E : Ev} {n nT a : Nat} {h : Hp} (hd : 4 ≤ d) (hc : h 1 8 = nI n) (hn : n ≤ 40) (hT : h 2 6 = nI nT) (hnT : nT ≤ 40) (ha : a < 40) (hB : AB (h 12) (h 13) (h 14) (h 15) (h 16) (h 18) (h 19)) : Cl d yX8_firstOpenThingFor cX8_firstOpenThingFor 3 (some .int) E (wdX E) [.ref (E.2.2.1 0), .int (nI a)] h (Rt (some (.int (fsI (fun t => cand (h 12) (h 13) (h 14) (h 15) (h 16) (h 18) (h 19) (h 17) (h 21) n a t) nT))) h) := by
  refine Cl_of [some (.ref (E.2.2.1 0)), some (.int (nI a)), none] (by decide) rfl (Nat.le_of_ble_eq_true rfl) (fun K A X hQ => ?_)
  have L : ∀ (m i : Nat) , i + m = nT → (∀ j, j < i → (fun t => cand (h 12) (h 13) (h 14) (h 15) (h 16) (h 18) (h 19) (h 17) (h 21) n a t) j = false) → GW K 3 E (wdX E) A 2 [some (.ref (E.2.2.1 0)), some (.int (nI a)), some (.int (nI i))] [] h := by
    intro m
    induction m with
    | zero =>
      intro i  hm hI0
      refine P_iload2 X 3 dX8_firstOpenThingFor_2 rfl ?_
      refine P_aload0 X 4 dX8_firstOpenThingFor_3 rfl ?_
      refine gX_0_1 X 7 dX8_firstOpenThingFor_4 rfl fl_X8_19 ?_
      refine gX_2_6 X 10 dX8_firstOpenThingFor_7 rfl fl_X8_292 ?_
      refine P_icmp_ge X 45 13 dX8_firstOpenThingFor_10 rfl rfl (fun b10 => ?_) (fun b10 => ?_)
      · obtain rfl : i = nT := by omega
        refine P_iconst X (-1) rfl 46 dX8_firstOpenThingFor_45 rfl ?_
        exact P_iret X hQ dX8_firstOpenThingFor_46 (rti (fsI_none hI0))
      · exact (geN hT b10 (by omega) (by omega)).elim
    | succ m ih =>
      intro i  hm hI0
      refine P_iload2 X 3 dX8_firstOpenThingFor_2 rfl ?_
      refine P_aload0 X 4 dX8_firstOpenThingFor_3 rfl ?_
      refine gX_0_1 X 7 dX8_firstOpenThingFor_4 rfl fl_X8_19 ?_
      refine gX_2_6 X 10 dX8_firstOpenThingFor_7 rfl fl_X8_292 ?_
      refine P_icmp_ge X 45 13 dX8_firstOpenThingFor_10 rfl rfl (fun b10 => ?_) (fun b10 => ?_)
      · exact (geY hT b10 (by omega) (by omega)).elim
      · refine P_aload0 X 14 dX8_firstOpenThingFor_13 rfl ?_
        refine gX_0_1 X 17 dX8_firstOpenThingFor_14 rfl fl_X8_19 ?_
        refine gX_2_1 X 20 dX8_firstOpenThingFor_17 rfl fl_X8_218 ?_
        refine P_iload2 X 21 dX8_firstOpenThingFor_20 rfl ?_
        refine lX_21 X 22 dX8_firstOpenThingFor_21 rfl rfl (by omega) ?_
        refine P_if_eq X 39 25 dX8_firstOpenThingFor_22 rfl rfl (fun b22 => ?_) (fun b22 => ?_)
        · refine P_iinc2 X (1) rfl 42 dX8_firstOpenThingFor_39 rfl (by decide) rfl ?_
          refine P_goto X 2 dX8_firstOpenThingFor_42 rfl ?_
          rw [nI_1]
          exact ih (i + 1) (by omega) (lt_s hI0 (by simp only [cand]; simp [b22]))
        · refine P_aload0 X 26 dX8_firstOpenThingFor_25 rfl ?_
          refine gX_0_0 X 29 dX8_firstOpenThingFor_26 rfl fl_X8_10 ?_
          refine P_iload1 X 30 dX8_firstOpenThingFor_29 rfl ?_
          refine P_iload2 X 31 dX8_firstOpenThingFor_30 rfl ?_
          refine V2r X 1 34 dX8_firstOpenThingFor_31 rfl lk_X8_319 mv_X0_meetsAllOfThing rfl (by omega) (Nat.le_of_ble_eq_true rfl) (Nat.le_of_ble_eq_true rfl) rfl rfl (k_X0_meetsAllOfThing (n := n) (a := a) (t := i) (by omega) hc hn ha hB) ?_
          refine P_bz X 39 37 dX8_firstOpenThingFor_34 rfl rfl (fun b34 => ?_) (fun b34 => ?_)
          · refine P_iinc2 X (1) rfl 42 dX8_firstOpenThingFor_39 rfl (by decide) rfl ?_
            refine P_goto X 2 dX8_firstOpenThingFor_42 rfl ?_
            rw [nI_1]
            exact ih (i + 1) (by omega) (lt_s hI0 (by simp only [cand]; rw [b34]; simp))
          · refine P_iload2 X 38 dX8_firstOpenThingFor_37 rfl ?_
            exact P_iret X hQ dX8_firstOpenThingFor_38 (rti (fsI_at hI0 (by simp only [cand]; rw [b34]; simp [b22]) (by omega)))
  refine P_iconst X (0) rfl 1 dX8_firstOpenThingFor_0 rfl ?_
  refine P_istore2 X 2 dX8_firstOpenThingFor_1 rfl (by decide) rfl ?_
  exact L nT 0 (by omega) (fun j hj => absurd hj (Nat.not_lt_zero _))
def addH (h : Hp) (n : Nat) (k x y db dy : Int32) : Hp := put (put (put (put (put (put (put h 12 n k) 13 n x) 14 n y) 15 n db) 16 n dy) 17 n (-1)) 1 8 (nI (n + 1))
def begH (h : Hp) (n a : Nat) : Hp := put (put (put (put h 20 n (nI a)) 21 n 1) 23 n (-1)) 2 6 (nI (n + 1))
set_option maxHeartbeats 4000000 in
set_option maxRecDepth 100000 in
theorem k_X0_add {d : Nat} {E : Ev} {n : Nat} {k x y db dy : Int32} {h : Hp} (hd : 0 ≤ d) (hc : h 1 8 = nI n) (hn : n < 40) : Cl d yX0_add cX0_add 7 (some .int) E (wdX E) [.ref (E.2.2.1 1), .int k, .int x, .int y, .int db, .int dy] h (Rt (some (.int (nI n))) (addH h n k x y db dy)) := by
  refine Cl_of [some (.ref (E.2.2.1 1)), some (.int k), some (.int x), some (.int y), some (.int db), some (.int dy), none] (by decide) rfl (Nat.le_of_ble_eq_true rfl) (fun K A X hQ => ?_)
  refine P_aload0 X 1 dX0_add_0 rfl ?_
  refine gX_1_8 X 4 dX0_add_1 rfl fl_X0_36 ?_
  refine P_top hc ?_
  refine P_istore6 X 6 dX0_add_4 rfl (by decide) rfl ?_
  refine P_aload0 X 7 dX0_add_6 rfl ?_
  refine gX_1_0 X 10 dX0_add_7 rfl fl_X0_9 ?_
  refine P_iload6 X 12 dX0_add_10 rfl ?_
  refine P_iload1 X 13 dX0_add_12 rfl ?_
  refine sX_12 X 14 dX0_add_13 rfl rfl (by omega) ?_
  refine P_aload0 X 15 dX0_add_14 rfl ?_
  refine gX_1_1 X 18 dX0_add_15 rfl fl_X0_15 ?_
  refine P_iload6 X 20 dX0_add_18 rfl ?_
  refine P_iload2 X 21 dX0_add_20 rfl ?_
  refine sX_13 X 22 dX0_add_21 rfl rfl (by omega) ?_
  refine P_aload0 X 23 dX0_add_22 rfl ?_
  refine gX_1_2 X 26 dX0_add_23 rfl fl_X0_18 ?_
  refine P_iload6 X 28 dX0_add_26 rfl ?_
  refine P_iload3 X 29 dX0_add_28 rfl ?_
  refine sX_14 X 30 dX0_add_29 rfl rfl (by omega) ?_
  refine P_aload0 X 31 dX0_add_30 rfl ?_
  refine gX_1_3 X 34 dX0_add_31 rfl fl_X0_21 ?_
  refine P_iload6 X 36 dX0_add_34 rfl ?_
  refine P_iload4 X 38 dX0_add_36 rfl ?_
  refine sX_15 X 39 dX0_add_38 rfl rfl (by omega) ?_
  refine P_aload0 X 40 dX0_add_39 rfl ?_
  refine gX_1_4 X 43 dX0_add_40 rfl fl_X0_24 ?_
  refine P_iload6 X 45 dX0_add_43 rfl ?_
  refine P_iload5 X 47 dX0_add_45 rfl ?_
  refine sX_16 X 48 dX0_add_47 rfl rfl (by omega) ?_
  refine P_aload0 X 49 dX0_add_48 rfl ?_
  refine gX_1_5 X 52 dX0_add_49 rfl fl_X0_27 ?_
  refine P_iload6 X 54 dX0_add_52 rfl ?_
  refine P_iconst X (-1) rfl 55 dX0_add_54 rfl ?_
  refine sX_17 X 56 dX0_add_55 rfl rfl (by omega) ?_
  refine P_aload0 X 57 dX0_add_56 rfl ?_
  refine P_dup X rfl 58 dX0_add_57 rfl ?_
  refine gX_1_8 X 61 dX0_add_58 rfl fl_X0_36 ?_
  refine P_top (y := nI n) (by simp [put, up2, upd, hc]) ?_
  refine P_iconst X (1) rfl 62 dX0_add_61 rfl ?_
  refine P_iadd X 63 dX0_add_62 rfl ?_
  rw [nI_1]
  refine pX_1_8 X 66 dX0_add_63 rfl fw_X0_36 ?_
  refine P_iload6 X 68 dX0_add_66 rfl ?_
  exact P_iret X hQ dX0_add_68 ⟨rfl, rfl⟩
set_option maxHeartbeats 4000000 in
set_option maxRecDepth 100000 in
theorem k_X7_begin {d : Nat} {E : Ev} {n a : Nat} {h : Hp} (hd : 0 ≤ d) (hc : h 2 6 = nI n) (hn : n < 40) : Cl d yX7_begin cX7_begin 3 (some .int) E (wdX E) [.ref (E.2.2.1 2), .int (nI a)] h (Rt (some (.int (nI n))) (begH h n a)) := by
  refine Cl_of [some (.ref (E.2.2.1 2)), some (.int (nI a)), none] (by decide) rfl (Nat.le_of_ble_eq_true rfl) (fun K A X hQ => ?_)
  refine P_aload0 X 1 dX7_begin_0 rfl ?_
  refine gX_2_6 X 4 dX7_begin_1 rfl fl_X7_31 ?_
  refine P_top hc ?_
  refine P_istore2 X 5 dX7_begin_4 rfl (by decide) rfl ?_
  refine P_aload0 X 6 dX7_begin_5 rfl ?_
  refine gX_2_0 X 9 dX7_begin_6 rfl fl_X7_9 ?_
  refine P_iload2 X 10 dX7_begin_9 rfl ?_
  refine P_iload1 X 11 dX7_begin_10 rfl ?_
  refine sX_20 X 12 dX7_begin_11 rfl rfl (by omega) ?_
  refine P_aload0 X 13 dX7_begin_12 rfl ?_
  refine gX_2_1 X 16 dX7_begin_13 rfl fl_X7_15 ?_
  refine P_iload2 X 17 dX7_begin_16 rfl ?_
  refine P_iconst X (1) rfl 18 dX7_begin_17 rfl ?_
  refine sX_21 X 19 dX7_begin_18 rfl rfl (by omega) (Or.inr rfl) ?_
  refine P_aload0 X 20 dX7_begin_19 rfl ?_
  refine gX_2_3 X 23 dX7_begin_20 rfl fl_X7_22 ?_
  refine P_iload2 X 24 dX7_begin_23 rfl ?_
  refine P_iconst X (-1) rfl 25 dX7_begin_24 rfl ?_
  refine sX_23 X 26 dX7_begin_25 rfl rfl (by omega) ?_
  refine P_aload0 X 27 dX7_begin_26 rfl ?_
  refine P_dup X rfl 28 dX7_begin_27 rfl ?_
  refine gX_2_6 X 31 dX7_begin_28 rfl fl_X7_31 ?_
  refine P_top (y := nI n) (by simp [put, up2, upd, hc]) ?_
  refine P_iconst X (1) rfl 32 dX7_begin_31 rfl ?_
  refine P_iadd X 33 dX7_begin_32 rfl ?_
  rw [nI_1]
  refine pX_2_6 X 36 dX7_begin_33 rfl fw_X7_31 ?_
  refine P_iload2 X 37 dX7_begin_36 rfl ?_
  exact P_iret X hQ dX7_begin_37 ⟨rfl, rfl⟩
