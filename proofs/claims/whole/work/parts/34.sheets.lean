def cutF (b v : Int32) : Int32 := if b = 8 then v.toInt8.toInt32 else if b = 16 then v.toInt16.toInt32 else v
def zrH (h : Hp) (j : Nat) : Nat → Hp
  | 0 => h
  | i + 1 => put (zrH h j i) (47 + j) i 0
def bgH (h : Hp) (j : Nat) (b n : Int32) : Hp := zrH (put (put h (43 + j) 1 b) (43 + j) 2 (if b = 0 then 0 else n)) j 12
theorem zrH_n {h : Hp} {j k : Nat} (hk : k ≠ 47 + j) : ∀ i, zrH h j i k = h k
  | 0 => rfl
  | i + 1 => by rw [zrH, put_n hk]; exact zrH_n hk i
theorem n12e : (12 : Int32) = nI 12 := rfl
def hrB (sz f n : Int32) : Bool := decide (0 ≤ f) && decide (0 ≤ n) && decide (n ≤ sz - f)
def bOk (b : Int32) : Bool := decide (b = 0) || decide (b = 8) || decide (b = 16) || decide (b = 32)
theorem dlt {x : Int32} (b : x < 0) : decide (0 ≤ x) = false := decide_eq_false (Int32.not_le.mpr b)
theorem dnlt {x : Int32} (b : ¬ x < 0) : decide (0 ≤ x) = true := decide_eq_true (Int32.not_lt.mp b)

set_option maxHeartbeats 4000000 in
set_option maxRecDepth 100000 in
theorem k_X4_isMissing {d : Nat} {E : Ev} {j : Nat} {h : Hp} (hd : 0 ≤ d) (hj : j < 4) : Cl d yX4_isMissing cX4_isMissing 1 (some .boolean) E (wdX E) [.ref (E.2.2.1 (43 + j))] h (Rt (some (.int (bI (decide (h (43 + j) 1 = 0))))) h) := by
  refine Cl_of [some (.ref (E.2.2.1 (43 + j)))] (by decide) rfl (Nat.le_of_ble_eq_true rfl) (fun K A X hQ => ?_)
  refine P_aload0 X 1 dX4_isMissing_0 rfl ?_
  refine gX_S_1 X hj 4 dX4_isMissing_1 rfl fl_X4_15 ?_
  refine P_if_ne X 11 7 dX4_isMissing_4 rfl rfl (fun b4 => ?_) (fun b4 => ?_)
  · refine P_iconst X (0) rfl 12 dX4_isMissing_11 rfl ?_
    exact P_zret X hQ dX4_isMissing_12 (Or.inl rfl) (rt0 (by simp [b4]))
  · refine P_iconst X (1) rfl 8 dX4_isMissing_7 rfl ?_
    refine P_goto X 12 dX4_isMissing_8 rfl ?_
    exact P_zret X hQ dX4_isMissing_12 (Or.inr rfl) (rt1 (by simp [b4]))
set_option maxHeartbeats 4000000 in
set_option maxRecDepth 100000 in
theorem k_X4_begin {d : Nat} {E : Ev} {j : Nat} {b n : Int32} {h : Hp} (hd : 0 ≤ d) (hj : j < 4) : Cl d yX4_begin cX4_begin 4 none E (wdX E) [.ref (E.2.2.1 (43 + j)), .int b, .int n] h (Rt none (bgH h j b n)) := by
  refine Cl_of [some (.ref (E.2.2.1 (43 + j))), some (.int b), some (.int n), none] (by decide) rfl (Nat.le_of_ble_eq_true rfl) (fun K A X hQ => ?_)
  have L : ∀ (m i : Nat) , i + m = 12 → GW K 4 E (wdX E) A 20 [some (.ref (E.2.2.1 (43 + j))), some (.int b), some (.int n), some (.int (nI i))] [] (zrH (put (put h (43 + j) 1 b) (43 + j) 2 (if b = 0 then 0 else n)) j i) := by
    intro m
    induction m with
    | zero =>
      intro i  hm 
      refine P_iload3 X 21 dX4_begin_20 rfl ?_
      refine P_bipush X (12) rfl 23 dX4_begin_21 rfl ?_
      refine P_icmp_ge X 39 26 dX4_begin_23 rfl rfl (fun b23 => ?_) (fun b23 => ?_)
      · obtain rfl : i = 12 := by omega
        exact P_ret X hQ dX4_begin_39 ⟨rfl, rfl⟩
      · exact (geN n12e b23 (by omega) (by omega)).elim
    | succ m ih =>
      intro i  hm 
      refine P_iload3 X 21 dX4_begin_20 rfl ?_
      refine P_bipush X (12) rfl 23 dX4_begin_21 rfl ?_
      refine P_icmp_ge X 39 26 dX4_begin_23 rfl rfl (fun b23 => ?_) (fun b23 => ?_)
      · exact (geY n12e b23 (by omega) (by omega)).elim
      · refine P_aload0 X 27 dX4_begin_26 rfl ?_
        refine gX_S_0 X hj 30 dX4_begin_27 rfl fl_X4_9 ?_
        refine P_iload3 X 31 dX4_begin_30 rfl ?_
        refine P_iconst X (0) rfl 32 dX4_begin_31 rfl ?_
        refine sX_N X hj 33 dX4_begin_32 rfl rfl (by omega) ?_
        refine P_iinc3 X (1) rfl 36 dX4_begin_33 rfl (by decide) rfl ?_
        refine P_goto X 20 dX4_begin_36 rfl ?_
        rw [nI_1]
        exact ih (i + 1) (by omega)
  refine P_aload0 X 1 dX4_begin_0 rfl ?_
  refine P_iload1 X 2 dX4_begin_1 rfl ?_
  refine pX_S_1 X hj 5 dX4_begin_2 rfl fw_X4_15 ?_
  refine P_aload0 X 6 dX4_begin_5 rfl ?_
  refine P_iload1 X 7 dX4_begin_6 rfl ?_
  refine P_if_ne X 14 10 dX4_begin_7 rfl rfl (fun b7 => ?_) (fun b7 => ?_)
  · refine P_iload2 X 15 dX4_begin_14 rfl ?_
    refine pX_S_2 X hj 18 dX4_begin_15 rfl fw_X4_19 ?_
    refine P_iconst X (0) rfl 19 dX4_begin_18 rfl ?_
    refine P_istore3 X 20 dX4_begin_19 rfl (by decide) rfl ?_
    have z := L 12 0 (by omega)
    rw [if_neg b7] at z
    exact z
  · refine P_iconst X (0) rfl 11 dX4_begin_10 rfl ?_
    refine P_goto X 15 dX4_begin_11 rfl ?_
    refine pX_S_2 X hj 18 dX4_begin_15 rfl fw_X4_19 ?_
    refine P_iconst X (0) rfl 19 dX4_begin_18 rfl ?_
    refine P_istore3 X 20 dX4_begin_19 rfl (by decide) rfl ?_
    have z := L 12 0 (by omega)
    rw [if_pos b7] at z
    exact z
set_option maxHeartbeats 4000000 in
set_option maxRecDepth 100000 in
theorem k_X4_lowestBits {d : Nat} {E : Ev} {j : Nat} {v : Int32} {h : Hp} (hd : 0 ≤ d) (hj : j < 4) : Cl d yX4_lowestBits cX4_lowestBits 2 (some .int) E (wdX E) [.ref (E.2.2.1 (43 + j)), .int v] h (Rt (some (.int (cutF (h (43 + j) 1) v))) h) := by
  refine Cl_of [some (.ref (E.2.2.1 (43 + j))), some (.int v)] (by decide) rfl (Nat.le_of_ble_eq_true rfl) (fun K A X hQ => ?_)
  refine P_aload0 X 1 dX4_lowestBits_0 rfl ?_
  refine gX_S_1 X hj 4 dX4_lowestBits_1 rfl fl_X4_15 ?_
  refine P_bipush X (8) rfl 6 dX4_lowestBits_4 rfl ?_
  refine P_icmp_ne X 12 9 dX4_lowestBits_6 rfl rfl (fun b6 => ?_) (fun b6 => ?_)
  · refine P_aload0 X 13 dX4_lowestBits_12 rfl ?_
    refine gX_S_1 X hj 16 dX4_lowestBits_13 rfl fl_X4_15 ?_
    refine P_bipush X (16) rfl 18 dX4_lowestBits_16 rfl ?_
    refine P_icmp_ne X 26 21 dX4_lowestBits_18 rfl rfl (fun b18 => ?_) (fun b18 => ?_)
    · refine P_iload1 X 27 dX4_lowestBits_26 rfl ?_
      exact P_iret X hQ dX4_lowestBits_27 (rti (by simp [cutF, b6, b18]))
    · refine P_iload1 X 22 dX4_lowestBits_21 rfl ?_
      refine P_i2s X 23 dX4_lowestBits_22 rfl ?_
      refine P_goto X 27 dX4_lowestBits_23 rfl ?_
      exact P_iret X hQ dX4_lowestBits_27 (rti (by simp [cutF, b6, b18]))
  · refine P_iload1 X 10 dX4_lowestBits_9 rfl ?_
    refine P_i2b X 11 dX4_lowestBits_10 rfl ?_
    exact P_iret X hQ dX4_lowestBits_11 (rti (by simp [cutF, b6]))
set_option maxHeartbeats 4000000 in
set_option maxRecDepth 100000 in
theorem k_X4_replace {d : Nat} {E : Ev} {j i : Nat} {v : Int32} {h : Hp} (hd : 1 ≤ d) (hj : j < 4) (hi : i < 12) : Cl d yX4_replace cX4_replace 4 (some .int) E (wdX E) [.ref (E.2.2.1 (43 + j)), .int (nI i), .int v] h (Rt (some (.int (h (47 + j) i))) (put h (47 + j) i (cutF (h (43 + j) 1) v))) := by
  refine Cl_of [some (.ref (E.2.2.1 (43 + j))), some (.int (nI i)), some (.int v), none] (by decide) rfl (Nat.le_of_ble_eq_true rfl) (fun K A X hQ => ?_)
  refine P_aload0 X 1 dX4_replace_0 rfl ?_
  refine gX_S_0 X hj 4 dX4_replace_1 rfl fl_X4_9 ?_
  refine P_iload1 X 5 dX4_replace_4 rfl ?_
  refine lX_N X hj 6 dX4_replace_5 rfl rfl (by omega) ?_
  refine P_istore3 X 7 dX4_replace_6 rfl (by decide) rfl ?_
  refine P_aload0 X 8 dX4_replace_7 rfl ?_
  refine gX_S_0 X hj 11 dX4_replace_8 rfl fl_X4_9 ?_
  refine P_iload1 X 12 dX4_replace_11 rfl ?_
  refine P_aload0 X 13 dX4_replace_12 rfl ?_
  refine P_iload2 X 14 dX4_replace_13 rfl ?_
  refine V1r X (43 + j) 17 dX4_replace_14 rfl lk_X4_22 mv_X4_lowestBits rfl (by omega) (Nat.le_of_ble_eq_true rfl) (by show 43 + j < 51; omega) (cfX_S E hj _) rfl (k_X4_lowestBits (by omega) hj) ?_
  refine sX_N X hj 18 dX4_replace_17 rfl rfl (by omega) ?_
  refine P_iload3 X 19 dX4_replace_18 rfl ?_
  exact P_iret X hQ dX4_replace_19 ⟨rfl, rfl⟩
set_option maxHeartbeats 4000000 in
set_option maxRecDepth 100000 in
theorem k_X4_hasRange {d : Nat} {E : Ev} {j : Nat} {f n : Int32} {h : Hp} (hd : 0 ≤ d) (hj : j < 4) : Cl d yX4_hasRange cX4_hasRange 3 (some .boolean) E (wdX E) [.ref (E.2.2.1 (43 + j)), .int f, .int n] h (Rt (some (.int (bI (hrB (h (43 + j) 2) f n)))) h) := by
  refine Cl_of [some (.ref (E.2.2.1 (43 + j))), some (.int f), some (.int n)] (by decide) rfl (Nat.le_of_ble_eq_true rfl) (fun K A X hQ => ?_)
  refine P_iload1 X 1 dX4_hasRange_0 rfl ?_
  refine P_if_lt X 22 4 dX4_hasRange_1 rfl rfl (fun b1 => ?_) (fun b1 => ?_)
  · refine P_iconst X (0) rfl 23 dX4_hasRange_22 rfl ?_
    exact P_zret X hQ dX4_hasRange_23 (Or.inl rfl) (rt0 (by rw [hrB, dlt b1]; rfl))
  · refine P_iload2 X 5 dX4_hasRange_4 rfl ?_
    refine P_if_lt X 22 8 dX4_hasRange_5 rfl rfl (fun b5 => ?_) (fun b5 => ?_)
    · refine P_iconst X (0) rfl 23 dX4_hasRange_22 rfl ?_
      exact P_zret X hQ dX4_hasRange_23 (Or.inl rfl) (rt0 (by rw [hrB, dlt b5]; simp))
    · refine P_iload2 X 9 dX4_hasRange_8 rfl ?_
      refine P_aload0 X 10 dX4_hasRange_9 rfl ?_
      refine gX_S_2 X hj 13 dX4_hasRange_10 rfl fl_X4_19 ?_
      refine P_iload1 X 14 dX4_hasRange_13 rfl ?_
      refine P_isub X 15 dX4_hasRange_14 rfl ?_
      refine P_icmp_gt X 22 18 dX4_hasRange_15 rfl rfl (fun b15 => ?_) (fun b15 => ?_)
      · refine P_iconst X (0) rfl 23 dX4_hasRange_22 rfl ?_
        exact P_zret X hQ dX4_hasRange_23 (Or.inl rfl) (rt0 (by rw [hrB, dec_gt b15]; simp))
      · refine P_iconst X (1) rfl 19 dX4_hasRange_18 rfl ?_
        refine P_goto X 23 dX4_hasRange_19 rfl ?_
        exact P_zret X hQ dX4_hasRange_23 (Or.inr rfl) (rt1 (by rw [hrB, dnlt b1, dnlt b5, dec_ngt b15]; rfl))
set_option maxHeartbeats 4000000 in
set_option maxRecDepth 100000 in
theorem k_X4_holdsPlacesAlone {d : Nat} {E : Ev} {j n : Nat} {h : Hp} (hd : 2 ≤ d) (hj : j < 4) (hc : h (43 + j) 2 = nI n) (hn : n ≤ 12) : Cl d yX4_holdsPlacesAlone cX4_holdsPlacesAlone 2 (some .boolean) E (wdX E) [.ref (E.2.2.1 (43 + j))] h (Rt (some (.int (bI (alln (fun i => inB (h (47 + j) i) 0 1023) n)))) h) := by
  refine Cl_of [some (.ref (E.2.2.1 (43 + j))), none] (by decide) rfl (Nat.le_of_ble_eq_true rfl) (fun K A X hQ => ?_)
  have L : ∀ (m i : Nat) , i + m = n → (∀ z9, z9 < i → (fun i => inB (h (47 + j) i) 0 1023) z9 = true) → GW K 2 E (wdX E) A 2 [some (.ref (E.2.2.1 (43 + j))), some (.int (nI i))] [] h := by
    intro m
    induction m with
    | zero =>
      intro i  hm hI0
      refine P_iload1 X 3 dX4_holdsPlacesAlone_2 rfl ?_
      refine P_aload0 X 4 dX4_holdsPlacesAlone_3 rfl ?_
      refine gX_S_2 X hj 7 dX4_holdsPlacesAlone_4 rfl fl_X4_19 ?_
      refine P_icmp_ge X 30 10 dX4_holdsPlacesAlone_7 rfl rfl (fun b7 => ?_) (fun b7 => ?_)
      · obtain rfl : i = n := by omega
        refine P_iconst X (1) rfl 31 dX4_holdsPlacesAlone_30 rfl ?_
        exact P_zret X hQ dX4_holdsPlacesAlone_31 (Or.inr rfl) (rt1 (alln_t hI0))
      · exact (geN hc b7 (by omega) (by omega)).elim
    | succ m ih =>
      intro i  hm hI0
      refine P_iload1 X 3 dX4_holdsPlacesAlone_2 rfl ?_
      refine P_aload0 X 4 dX4_holdsPlacesAlone_3 rfl ?_
      refine gX_S_2 X hj 7 dX4_holdsPlacesAlone_4 rfl fl_X4_19 ?_
      refine P_icmp_ge X 30 10 dX4_holdsPlacesAlone_7 rfl rfl (fun b7 => ?_) (fun b7 => ?_)
      · exact (geY hc b7 (by omega) (by omega)).elim
      · refine P_aload0 X 11 dX4_holdsPlacesAlone_10 rfl ?_
        refine gX_S_0 X hj 14 dX4_holdsPlacesAlone_11 rfl fl_X4_9 ?_
        refine P_iload1 X 15 dX4_holdsPlacesAlone_14 rfl ?_
        refine lX_N X hj 16 dX4_holdsPlacesAlone_15 rfl rfl (by omega) ?_
        refine S1r X 19 dX4_holdsPlacesAlone_16 rfl lk_X4_26 ms_X8_isPlace rfl (by omega) (Nat.le_of_ble_eq_true rfl) (k_X8_isPlace (by omega)) ?_
        refine P_bn X 24 22 dX4_holdsPlacesAlone_19 rfl rfl (fun b19 => ?_) (fun b19 => ?_)
        · refine P_iinc1 X (1) rfl 27 dX4_holdsPlacesAlone_24 rfl (by decide) rfl ?_
          refine P_goto X 2 dX4_holdsPlacesAlone_27 rfl ?_
          rw [nI_1]
          exact ih (i + 1) (by omega) (lt_s hI0 b19)
        · refine P_iconst X (0) rfl 23 dX4_holdsPlacesAlone_22 rfl ?_
          exact P_zret X hQ dX4_holdsPlacesAlone_23 (Or.inl rfl) (rt0 (alln_f (i := i) (by omega) b19))
  refine P_iconst X (0) rfl 1 dX4_holdsPlacesAlone_0 rfl ?_
  refine P_istore1 X 2 dX4_holdsPlacesAlone_1 rfl (by decide) rfl ?_
  exact L n 0 (by omega) (fun j hj => absurd hj (Nat.not_lt_zero _))
def okSh (s b : Int32) : Bool := inB s 0 3 && bOk b
set_option maxHeartbeats 4000000 in
set_option maxRecDepth 100000 in
theorem k_X8_sheet {d : Nat} {E : Ev} {s b n : Int32} {h : Hp} (hd : 2 ≤ d)  : Cl d yX8_sheet cX8_sheet 4 (some .int) E (wdX E) [.ref (E.2.2.1 0), .int s, .int b, .int n] h (Rt (some (.int (if okSh s b then (if 0 ≤ n then (if n ≤ 12 then (if b = 0 then 0 else n) else -1000001) else -1000009) else -1000001))) (if okSh s b then (if 0 ≤ n then (if n ≤ 12 then bgH h (tn s) b n else fiX h) else fiX h) else fiX h)) := by
  refine Cl_of [some (.ref (E.2.2.1 0)), some (.int s), some (.int b), some (.int n)] (by decide) rfl (Nat.le_of_ble_eq_true rfl) (fun K A X hQ => ?_)
  refine P_iload1 X 1 dX8_sheet_0 rfl ?_
  refine S1r X 4 dX8_sheet_1 rfl lk_X8_257 ms_X8_isSheet rfl (by omega) (Nat.le_of_ble_eq_true rfl) (k_X8_isSheet (by omega)) ?_
  refine P_bz X 29 7 dX8_sheet_4 rfl rfl (fun b4 => ?_) (fun b4 => ?_)
  · have hok : ¬ okSh s b = true := by rw [okSh, b4]; simp
    rw [if_neg hok, if_neg hok] at hQ
    refine P_aload0 X 30 dX8_sheet_29 rfl ?_
    refine P_ldc X kc_X8_90 32 dX8_sheet_30 rfl ?_
    refine V1r X 0 35 dX8_sheet_32 rfl lk_X8_91 mv_X8_finding rfl (by omega) (Nat.le_of_ble_eq_true rfl) (Nat.le_of_ble_eq_true rfl) rfl rfl (k_X8_finding (by omega)) ?_
    exact P_iret X hQ dX8_sheet_35 ⟨rfl, rfl⟩
  · refine P_iload2 X 8 dX8_sheet_7 rfl ?_
    refine P_if_eq X 36 11 dX8_sheet_8 rfl rfl (fun b8 => ?_) (fun b8 => ?_)
    · have hok : okSh s b = true := by
        have hb : bOk b = true := by simp [bOk, b8]
        rw [okSh, b4, hb]; rfl
      rw [if_pos hok, if_pos hok] at hQ
      refine P_iload3 X 37 dX8_sheet_36 rfl ?_
      refine P_if_ge X 48 40 dX8_sheet_37 rfl rfl (fun b37 => ?_) (fun b37 => ?_)
      · rw [if_pos b37, if_pos b37] at hQ
        refine P_iload3 X 49 dX8_sheet_48 rfl ?_
        refine P_bipush X (12) rfl 51 dX8_sheet_49 rfl ?_
        refine P_icmp_le X 61 54 dX8_sheet_51 rfl rfl (fun b51 => ?_) (fun b51 => ?_)
        · rw [if_pos b51, if_pos b51] at hQ
          obtain ⟨j9, hj9, rfl⟩ := inB_ex 3 b4
          have ej : tn (nI j9) = j9 := nI_clamp (by omega)
          rw [ej] at hQ
          refine P_aload0 X 62 dX8_sheet_61 rfl ?_
          refine gX_0_10 X 65 dX8_sheet_62 rfl fl_X8_70 ?_
          refine P_iload1 X 66 dX8_sheet_65 rfl ?_
          refine qX_11 X 67 dX8_sheet_66 rfl rfl hj9 ?_
          refine P_iload2 X 68 dX8_sheet_67 rfl ?_
          refine P_iload3 X 69 dX8_sheet_68 rfl ?_
          refine V2v X (43 + j9) 72 dX8_sheet_69 rfl lk_X8_261 mv_X4_begin rfl (by omega) (Nat.le_of_ble_eq_true rfl) (by show 43 + j9 < 51; omega) (cfX_S E hj9 _) rfl (k_X4_begin (by omega) hj9) ?_
          refine P_aload0 X 73 dX8_sheet_72 rfl ?_
          refine gX_0_10 X 76 dX8_sheet_73 rfl fl_X8_70 ?_
          refine P_iload1 X 77 dX8_sheet_76 rfl ?_
          refine qX_11 X 78 dX8_sheet_77 rfl rfl hj9 ?_
          refine gX_S_2 X hj9 81 dX8_sheet_78 rfl fl_X8_263 ?_
          refine P_top (y := if b = 0 then 0 else n) (by rw [bgH, zrH_n (by omega), put_s]) ?_
          exact P_iret X hQ dX8_sheet_81 ⟨rfl, rfl⟩
        · rw [if_neg b51, if_neg b51] at hQ
          refine P_aload0 X 55 dX8_sheet_54 rfl ?_
          refine P_ldc X kc_X8_90 57 dX8_sheet_55 rfl ?_
          refine V1r X 0 60 dX8_sheet_57 rfl lk_X8_91 mv_X8_finding rfl (by omega) (Nat.le_of_ble_eq_true rfl) (Nat.le_of_ble_eq_true rfl) rfl rfl (k_X8_finding (by omega)) ?_
          exact P_iret X hQ dX8_sheet_60 ⟨rfl, rfl⟩
      · rw [if_neg b37, if_neg b37] at hQ
        refine P_aload0 X 41 dX8_sheet_40 rfl ?_
        refine P_ldcw X kc_X8_260 44 dX8_sheet_41 rfl ?_
        refine V1r X 0 47 dX8_sheet_44 rfl lk_X8_91 mv_X8_finding rfl (by omega) (Nat.le_of_ble_eq_true rfl) (Nat.le_of_ble_eq_true rfl) rfl rfl (k_X8_finding (by omega)) ?_
        exact P_iret X hQ dX8_sheet_47 ⟨rfl, rfl⟩
    · refine P_iload2 X 12 dX8_sheet_11 rfl ?_
      refine P_bipush X (8) rfl 14 dX8_sheet_12 rfl ?_
      refine P_icmp_eq X 36 17 dX8_sheet_14 rfl rfl (fun b14 => ?_) (fun b14 => ?_)
      · have hok : okSh s b = true := by
          have hb : bOk b = true := by simp [bOk, b14]
          rw [okSh, b4, hb]; rfl
        rw [if_pos hok, if_pos hok] at hQ
        refine P_iload3 X 37 dX8_sheet_36 rfl ?_
        refine P_if_ge X 48 40 dX8_sheet_37 rfl rfl (fun b37 => ?_) (fun b37 => ?_)
        · rw [if_pos b37, if_pos b37] at hQ
          refine P_iload3 X 49 dX8_sheet_48 rfl ?_
          refine P_bipush X (12) rfl 51 dX8_sheet_49 rfl ?_
          refine P_icmp_le X 61 54 dX8_sheet_51 rfl rfl (fun b51 => ?_) (fun b51 => ?_)
          · rw [if_pos b51, if_pos b51] at hQ
            obtain ⟨j9, hj9, rfl⟩ := inB_ex 3 b4
            have ej : tn (nI j9) = j9 := nI_clamp (by omega)
            rw [ej] at hQ
            refine P_aload0 X 62 dX8_sheet_61 rfl ?_
            refine gX_0_10 X 65 dX8_sheet_62 rfl fl_X8_70 ?_
            refine P_iload1 X 66 dX8_sheet_65 rfl ?_
            refine qX_11 X 67 dX8_sheet_66 rfl rfl hj9 ?_
            refine P_iload2 X 68 dX8_sheet_67 rfl ?_
            refine P_iload3 X 69 dX8_sheet_68 rfl ?_
            refine V2v X (43 + j9) 72 dX8_sheet_69 rfl lk_X8_261 mv_X4_begin rfl (by omega) (Nat.le_of_ble_eq_true rfl) (by show 43 + j9 < 51; omega) (cfX_S E hj9 _) rfl (k_X4_begin (by omega) hj9) ?_
            refine P_aload0 X 73 dX8_sheet_72 rfl ?_
            refine gX_0_10 X 76 dX8_sheet_73 rfl fl_X8_70 ?_
            refine P_iload1 X 77 dX8_sheet_76 rfl ?_
            refine qX_11 X 78 dX8_sheet_77 rfl rfl hj9 ?_
            refine gX_S_2 X hj9 81 dX8_sheet_78 rfl fl_X8_263 ?_
            refine P_top (y := if b = 0 then 0 else n) (by rw [bgH, zrH_n (by omega), put_s]) ?_
            exact P_iret X hQ dX8_sheet_81 ⟨rfl, rfl⟩
          · rw [if_neg b51, if_neg b51] at hQ
            refine P_aload0 X 55 dX8_sheet_54 rfl ?_
            refine P_ldc X kc_X8_90 57 dX8_sheet_55 rfl ?_
            refine V1r X 0 60 dX8_sheet_57 rfl lk_X8_91 mv_X8_finding rfl (by omega) (Nat.le_of_ble_eq_true rfl) (Nat.le_of_ble_eq_true rfl) rfl rfl (k_X8_finding (by omega)) ?_
            exact P_iret X hQ dX8_sheet_60 ⟨rfl, rfl⟩
        · rw [if_neg b37, if_neg b37] at hQ
          refine P_aload0 X 41 dX8_sheet_40 rfl ?_
          refine P_ldcw X kc_X8_260 44 dX8_sheet_41 rfl ?_
          refine V1r X 0 47 dX8_sheet_44 rfl lk_X8_91 mv_X8_finding rfl (by omega) (Nat.le_of_ble_eq_true rfl) (Nat.le_of_ble_eq_true rfl) rfl rfl (k_X8_finding (by omega)) ?_
          exact P_iret X hQ dX8_sheet_47 ⟨rfl, rfl⟩
      · refine P_iload2 X 18 dX8_sheet_17 rfl ?_
        refine P_bipush X (16) rfl 20 dX8_sheet_18 rfl ?_
        refine P_icmp_eq X 36 23 dX8_sheet_20 rfl rfl (fun b20 => ?_) (fun b20 => ?_)
        · have hok : okSh s b = true := by
            have hb : bOk b = true := by simp [bOk, b20]
            rw [okSh, b4, hb]; rfl
          rw [if_pos hok, if_pos hok] at hQ
          refine P_iload3 X 37 dX8_sheet_36 rfl ?_
          refine P_if_ge X 48 40 dX8_sheet_37 rfl rfl (fun b37 => ?_) (fun b37 => ?_)
          · rw [if_pos b37, if_pos b37] at hQ
            refine P_iload3 X 49 dX8_sheet_48 rfl ?_
            refine P_bipush X (12) rfl 51 dX8_sheet_49 rfl ?_
            refine P_icmp_le X 61 54 dX8_sheet_51 rfl rfl (fun b51 => ?_) (fun b51 => ?_)
            · rw [if_pos b51, if_pos b51] at hQ
              obtain ⟨j9, hj9, rfl⟩ := inB_ex 3 b4
              have ej : tn (nI j9) = j9 := nI_clamp (by omega)
              rw [ej] at hQ
              refine P_aload0 X 62 dX8_sheet_61 rfl ?_
              refine gX_0_10 X 65 dX8_sheet_62 rfl fl_X8_70 ?_
              refine P_iload1 X 66 dX8_sheet_65 rfl ?_
              refine qX_11 X 67 dX8_sheet_66 rfl rfl hj9 ?_
              refine P_iload2 X 68 dX8_sheet_67 rfl ?_
              refine P_iload3 X 69 dX8_sheet_68 rfl ?_
              refine V2v X (43 + j9) 72 dX8_sheet_69 rfl lk_X8_261 mv_X4_begin rfl (by omega) (Nat.le_of_ble_eq_true rfl) (by show 43 + j9 < 51; omega) (cfX_S E hj9 _) rfl (k_X4_begin (by omega) hj9) ?_
              refine P_aload0 X 73 dX8_sheet_72 rfl ?_
              refine gX_0_10 X 76 dX8_sheet_73 rfl fl_X8_70 ?_
              refine P_iload1 X 77 dX8_sheet_76 rfl ?_
              refine qX_11 X 78 dX8_sheet_77 rfl rfl hj9 ?_
              refine gX_S_2 X hj9 81 dX8_sheet_78 rfl fl_X8_263 ?_
              refine P_top (y := if b = 0 then 0 else n) (by rw [bgH, zrH_n (by omega), put_s]) ?_
              exact P_iret X hQ dX8_sheet_81 ⟨rfl, rfl⟩
            · rw [if_neg b51, if_neg b51] at hQ
              refine P_aload0 X 55 dX8_sheet_54 rfl ?_
              refine P_ldc X kc_X8_90 57 dX8_sheet_55 rfl ?_
              refine V1r X 0 60 dX8_sheet_57 rfl lk_X8_91 mv_X8_finding rfl (by omega) (Nat.le_of_ble_eq_true rfl) (Nat.le_of_ble_eq_true rfl) rfl rfl (k_X8_finding (by omega)) ?_
              exact P_iret X hQ dX8_sheet_60 ⟨rfl, rfl⟩
          · rw [if_neg b37, if_neg b37] at hQ
            refine P_aload0 X 41 dX8_sheet_40 rfl ?_
            refine P_ldcw X kc_X8_260 44 dX8_sheet_41 rfl ?_
            refine V1r X 0 47 dX8_sheet_44 rfl lk_X8_91 mv_X8_finding rfl (by omega) (Nat.le_of_ble_eq_true rfl) (Nat.le_of_ble_eq_true rfl) rfl rfl (k_X8_finding (by omega)) ?_
            exact P_iret X hQ dX8_sheet_47 ⟨rfl, rfl⟩
        · refine P_iload2 X 24 dX8_sheet_23 rfl ?_
          refine P_bipush X (32) rfl 26 dX8_sheet_24 rfl ?_
          refine P_icmp_eq X 36 29 dX8_sheet_26 rfl rfl (fun b26 => ?_) (fun b26 => ?_)
          · have hok : okSh s b = true := by
              have hb : bOk b = true := by simp [bOk, b26]
              rw [okSh, b4, hb]; rfl
            rw [if_pos hok, if_pos hok] at hQ
            refine P_iload3 X 37 dX8_sheet_36 rfl ?_
            refine P_if_ge X 48 40 dX8_sheet_37 rfl rfl (fun b37 => ?_) (fun b37 => ?_)
            · rw [if_pos b37, if_pos b37] at hQ
              refine P_iload3 X 49 dX8_sheet_48 rfl ?_
              refine P_bipush X (12) rfl 51 dX8_sheet_49 rfl ?_
              refine P_icmp_le X 61 54 dX8_sheet_51 rfl rfl (fun b51 => ?_) (fun b51 => ?_)
              · rw [if_pos b51, if_pos b51] at hQ
                obtain ⟨j9, hj9, rfl⟩ := inB_ex 3 b4
                have ej : tn (nI j9) = j9 := nI_clamp (by omega)
                rw [ej] at hQ
                refine P_aload0 X 62 dX8_sheet_61 rfl ?_
                refine gX_0_10 X 65 dX8_sheet_62 rfl fl_X8_70 ?_
                refine P_iload1 X 66 dX8_sheet_65 rfl ?_
                refine qX_11 X 67 dX8_sheet_66 rfl rfl hj9 ?_
                refine P_iload2 X 68 dX8_sheet_67 rfl ?_
                refine P_iload3 X 69 dX8_sheet_68 rfl ?_
                refine V2v X (43 + j9) 72 dX8_sheet_69 rfl lk_X8_261 mv_X4_begin rfl (by omega) (Nat.le_of_ble_eq_true rfl) (by show 43 + j9 < 51; omega) (cfX_S E hj9 _) rfl (k_X4_begin (by omega) hj9) ?_
                refine P_aload0 X 73 dX8_sheet_72 rfl ?_
                refine gX_0_10 X 76 dX8_sheet_73 rfl fl_X8_70 ?_
                refine P_iload1 X 77 dX8_sheet_76 rfl ?_
                refine qX_11 X 78 dX8_sheet_77 rfl rfl hj9 ?_
                refine gX_S_2 X hj9 81 dX8_sheet_78 rfl fl_X8_263 ?_
                refine P_top (y := if b = 0 then 0 else n) (by rw [bgH, zrH_n (by omega), put_s]) ?_
                exact P_iret X hQ dX8_sheet_81 ⟨rfl, rfl⟩
              · rw [if_neg b51, if_neg b51] at hQ
                refine P_aload0 X 55 dX8_sheet_54 rfl ?_
                refine P_ldc X kc_X8_90 57 dX8_sheet_55 rfl ?_
                refine V1r X 0 60 dX8_sheet_57 rfl lk_X8_91 mv_X8_finding rfl (by omega) (Nat.le_of_ble_eq_true rfl) (Nat.le_of_ble_eq_true rfl) rfl rfl (k_X8_finding (by omega)) ?_
                exact P_iret X hQ dX8_sheet_60 ⟨rfl, rfl⟩
            · rw [if_neg b37, if_neg b37] at hQ
              refine P_aload0 X 41 dX8_sheet_40 rfl ?_
              refine P_ldcw X kc_X8_260 44 dX8_sheet_41 rfl ?_
              refine V1r X 0 47 dX8_sheet_44 rfl lk_X8_91 mv_X8_finding rfl (by omega) (Nat.le_of_ble_eq_true rfl) (Nat.le_of_ble_eq_true rfl) rfl rfl (k_X8_finding (by omega)) ?_
              exact P_iret X hQ dX8_sheet_47 ⟨rfl, rfl⟩
          · have hok : ¬ okSh s b = true := by simp [okSh, bOk, b8, b14, b20, b26]
            rw [if_neg hok, if_neg hok] at hQ
            refine P_aload0 X 30 dX8_sheet_29 rfl ?_
            refine P_ldc X kc_X8_90 32 dX8_sheet_30 rfl ?_
            refine V1r X 0 35 dX8_sheet_32 rfl lk_X8_91 mv_X8_finding rfl (by omega) (Nat.le_of_ble_eq_true rfl) (Nat.le_of_ble_eq_true rfl) rfl rfl (k_X8_finding (by omega)) ?_
            exact P_iret X hQ dX8_sheet_35 ⟨rfl, rfl⟩
def zrY (h : Hp) (j : Nat) : Nat → Hp
  | 0 => h
  | i + 1 => put (zrY h j i) 25 (12 * j + i) 0
def bgY (h : Hp) (j : Nat) (b n : Int32) : Hp := if b = 0 then put (put h 23 j 0) 24 j 0 else zrY (put (put h 23 j b) 24 j n) j 12
set_option maxHeartbeats 4000000 in
set_option maxRecDepth 100000 in
theorem k_X9_sheet {d : Nat} {E : Ev} {s b n : Int32} {h : Hp} (hd : 2 ≤ d)  : Cl d yX9_sheet cX9_sheet 5 (some .int) E (wdY E) [.ref (E.2.2.1 0), .int s, .int b, .int n] h (Rt (some (.int (if okSh s b then (if 0 ≤ n then (if n ≤ 12 then (if b = 0 then 0 else n) else -1000001) else -1000009) else -1000001))) (if okSh s b then (if 0 ≤ n then (if n ≤ 12 then bgY h (tn s) b n else fiY h) else fiY h) else fiY h)) := by
  refine Cl_of [some (.ref (E.2.2.1 0)), some (.int s), some (.int b), some (.int n), none] (by decide) rfl (Nat.le_of_ble_eq_true rfl) (fun K A X hQ => ?_)
  refine P_iload1 X 1 dX9_sheet_0 rfl ?_
  refine S1r X 4 dX9_sheet_1 rfl lk_X9_219 ms_X9_isSheet rfl (by omega) (Nat.le_of_ble_eq_true rfl) (k_X9_isSheet (by omega)) ?_
  refine P_bz X 29 7 dX9_sheet_4 rfl rfl (fun b4 => ?_) (fun b4 => ?_)
  · have hok : ¬ okSh s b = true := by rw [okSh, b4]; simp
    rw [if_neg hok, if_neg hok] at hQ
    refine P_aload0 X 30 dX9_sheet_29 rfl ?_
    refine P_ldc X kc_X9_144 32 dX9_sheet_30 rfl ?_
    refine V1r X 0 35 dX9_sheet_32 rfl lk_X9_145 mv_X9_finding rfl (by omega) (Nat.le_of_ble_eq_true rfl) (Nat.le_of_ble_eq_true rfl) rfl rfl (k_X9_finding (by omega)) ?_
    exact P_iret X hQ dX9_sheet_35 ⟨rfl, rfl⟩
  · refine P_iload2 X 8 dX9_sheet_7 rfl ?_
    refine P_if_eq X 36 11 dX9_sheet_8 rfl rfl (fun b8 => ?_) (fun b8 => ?_)
    · have hok : okSh s b = true := by
        have hb : bOk b = true := by simp [bOk, b8]
        rw [okSh, b4, hb]; rfl
      rw [if_pos hok, if_pos hok] at hQ
      refine P_iload3 X 37 dX9_sheet_36 rfl ?_
      refine P_if_ge X 47 40 dX9_sheet_37 rfl rfl (fun b37 => ?_) (fun b37 => ?_)
      · rw [if_pos b37, if_pos b37] at hQ
        refine P_iload3 X 48 dX9_sheet_47 rfl ?_
        refine P_bipush X (12) rfl 50 dX9_sheet_48 rfl ?_
        refine P_icmp_le X 60 53 dX9_sheet_50 rfl rfl (fun b50 => ?_) (fun b50 => ?_)
        · rw [if_pos b50, if_pos b50] at hQ
          obtain ⟨j9, hj9, rfl⟩ := inB_ex 3 b4
          have ej : tn (nI j9) = j9 := nI_clamp (by omega)
          rw [ej] at hQ
          refine P_iload2 X 61 dX9_sheet_60 rfl ?_
          refine P_if_ne X 80 64 dX9_sheet_61 rfl rfl (fun b61 => ?_) (fun b61 => ?_)
          · refine P_aload0 X 81 dX9_sheet_80 rfl ?_
            refine gY_0_27 X 84 dX9_sheet_81 rfl fl_X9_77 ?_
            refine P_iload1 X 85 dX9_sheet_84 rfl ?_
            refine P_iload2 X 86 dX9_sheet_85 rfl ?_
            refine sY_23 X 87 dX9_sheet_86 rfl rfl (by omega) ?_
            refine P_aload0 X 88 dX9_sheet_87 rfl ?_
            refine gY_0_28 X 91 dX9_sheet_88 rfl fl_X9_80 ?_
            refine P_iload1 X 92 dX9_sheet_91 rfl ?_
            refine P_iload3 X 93 dX9_sheet_92 rfl ?_
            refine sY_24 X 94 dX9_sheet_93 rfl rfl (by omega) ?_
            have L : ∀ (m i : Nat) , i + m = 12 → GW K 5 E (wdY E) A 97 [some (.ref (E.2.2.1 0)), some (.int (nI j9)), some (.int b), some (.int n), some (.int (nI i))] [] (zrY (put (put h 23 j9 b) 24 j9 n) j9 i) := by
              intro m
              induction m with
              | zero =>
                intro i  hm 
                refine P_iload4 X 99 dX9_sheet_97 rfl ?_
                refine P_bipush X (12) rfl 101 dX9_sheet_99 rfl ?_
                refine P_icmp_ge X 123 104 dX9_sheet_101 rfl rfl (fun b101 => ?_) (fun b101 => ?_)
                · obtain rfl : i = 12 := by omega
                  refine P_iload3 X 124 dX9_sheet_123 rfl ?_
                  exact P_iret X hQ dX9_sheet_124 ⟨by rw [if_neg b61], by rw [bgY, if_neg b61]⟩
                · exact (geN n12e b101 (by omega) (by omega)).elim
              | succ m ih =>
                intro i  hm 
                refine P_iload4 X 99 dX9_sheet_97 rfl ?_
                refine P_bipush X (12) rfl 101 dX9_sheet_99 rfl ?_
                refine P_icmp_ge X 123 104 dX9_sheet_101 rfl rfl (fun b101 => ?_) (fun b101 => ?_)
                · exact (geY n12e b101 (by omega) (by omega)).elim
                · refine P_aload0 X 105 dX9_sheet_104 rfl ?_
                  refine gY_0_29 X 108 dX9_sheet_105 rfl fl_X9_83 ?_
                  refine P_bipush X (12) rfl 110 dX9_sheet_108 rfl ?_
                  refine P_iload1 X 111 dX9_sheet_110 rfl ?_
                  refine P_imul X 112 dX9_sheet_111 rfl ?_
                  refine P_iload4 X 114 dX9_sheet_112 rfl ?_
                  refine P_iadd X 115 dX9_sheet_114 rfl ?_
                  refine P_iconst X (0) rfl 116 dX9_sheet_115 rfl ?_
                  refine sY_25 X 117 dX9_sheet_116 rfl (ixm 12 j9 i) (by omega) ?_
                  refine P_iinc4 X (1) rfl 120 dX9_sheet_117 rfl (by decide) rfl ?_
                  refine P_goto X 97 dX9_sheet_120 rfl ?_
                  rw [nI_1]
                  exact ih (i + 1) (by omega)
            refine P_iconst X (0) rfl 95 dX9_sheet_94 rfl ?_
            refine P_istore4 X 97 dX9_sheet_95 rfl (by decide) rfl ?_
            exact L 12 0 (by omega)
          · refine P_aload0 X 65 dX9_sheet_64 rfl ?_
            refine gY_0_27 X 68 dX9_sheet_65 rfl fl_X9_77 ?_
            refine P_iload1 X 69 dX9_sheet_68 rfl ?_
            refine P_iconst X (0) rfl 70 dX9_sheet_69 rfl ?_
            refine sY_23 X 71 dX9_sheet_70 rfl rfl (by omega) ?_
            refine P_aload0 X 72 dX9_sheet_71 rfl ?_
            refine gY_0_28 X 75 dX9_sheet_72 rfl fl_X9_80 ?_
            refine P_iload1 X 76 dX9_sheet_75 rfl ?_
            refine P_iconst X (0) rfl 77 dX9_sheet_76 rfl ?_
            refine sY_24 X 78 dX9_sheet_77 rfl rfl (by omega) ?_
            refine P_iconst X (0) rfl 79 dX9_sheet_78 rfl ?_
            exact P_iret X hQ dX9_sheet_79 ⟨by rw [if_pos b61], by rw [bgY, if_pos b61]⟩
        · rw [if_neg b50, if_neg b50] at hQ
          refine P_aload0 X 54 dX9_sheet_53 rfl ?_
          refine P_ldc X kc_X9_144 56 dX9_sheet_54 rfl ?_
          refine V1r X 0 59 dX9_sheet_56 rfl lk_X9_145 mv_X9_finding rfl (by omega) (Nat.le_of_ble_eq_true rfl) (Nat.le_of_ble_eq_true rfl) rfl rfl (k_X9_finding (by omega)) ?_
          exact P_iret X hQ dX9_sheet_59 ⟨rfl, rfl⟩
      · rw [if_neg b37, if_neg b37] at hQ
        refine P_aload0 X 41 dX9_sheet_40 rfl ?_
        refine P_ldc X kc_X9_222 43 dX9_sheet_41 rfl ?_
        refine V1r X 0 46 dX9_sheet_43 rfl lk_X9_145 mv_X9_finding rfl (by omega) (Nat.le_of_ble_eq_true rfl) (Nat.le_of_ble_eq_true rfl) rfl rfl (k_X9_finding (by omega)) ?_
        exact P_iret X hQ dX9_sheet_46 ⟨rfl, rfl⟩
    · refine P_iload2 X 12 dX9_sheet_11 rfl ?_
      refine P_bipush X (8) rfl 14 dX9_sheet_12 rfl ?_
      refine P_icmp_eq X 36 17 dX9_sheet_14 rfl rfl (fun b14 => ?_) (fun b14 => ?_)
      · have hok : okSh s b = true := by
          have hb : bOk b = true := by simp [bOk, b14]
          rw [okSh, b4, hb]; rfl
        rw [if_pos hok, if_pos hok] at hQ
        refine P_iload3 X 37 dX9_sheet_36 rfl ?_
        refine P_if_ge X 47 40 dX9_sheet_37 rfl rfl (fun b37 => ?_) (fun b37 => ?_)
        · rw [if_pos b37, if_pos b37] at hQ
          refine P_iload3 X 48 dX9_sheet_47 rfl ?_
          refine P_bipush X (12) rfl 50 dX9_sheet_48 rfl ?_
          refine P_icmp_le X 60 53 dX9_sheet_50 rfl rfl (fun b50 => ?_) (fun b50 => ?_)
          · rw [if_pos b50, if_pos b50] at hQ
            obtain ⟨j9, hj9, rfl⟩ := inB_ex 3 b4
            have ej : tn (nI j9) = j9 := nI_clamp (by omega)
            rw [ej] at hQ
            refine P_iload2 X 61 dX9_sheet_60 rfl ?_
            refine P_if_ne X 80 64 dX9_sheet_61 rfl rfl (fun b61 => ?_) (fun b61 => ?_)
            · refine P_aload0 X 81 dX9_sheet_80 rfl ?_
              refine gY_0_27 X 84 dX9_sheet_81 rfl fl_X9_77 ?_
              refine P_iload1 X 85 dX9_sheet_84 rfl ?_
              refine P_iload2 X 86 dX9_sheet_85 rfl ?_
              refine sY_23 X 87 dX9_sheet_86 rfl rfl (by omega) ?_
              refine P_aload0 X 88 dX9_sheet_87 rfl ?_
              refine gY_0_28 X 91 dX9_sheet_88 rfl fl_X9_80 ?_
              refine P_iload1 X 92 dX9_sheet_91 rfl ?_
              refine P_iload3 X 93 dX9_sheet_92 rfl ?_
              refine sY_24 X 94 dX9_sheet_93 rfl rfl (by omega) ?_
              have L : ∀ (m i : Nat) , i + m = 12 → GW K 5 E (wdY E) A 97 [some (.ref (E.2.2.1 0)), some (.int (nI j9)), some (.int b), some (.int n), some (.int (nI i))] [] (zrY (put (put h 23 j9 b) 24 j9 n) j9 i) := by
                intro m
                induction m with
                | zero =>
                  intro i  hm 
                  refine P_iload4 X 99 dX9_sheet_97 rfl ?_
                  refine P_bipush X (12) rfl 101 dX9_sheet_99 rfl ?_
                  refine P_icmp_ge X 123 104 dX9_sheet_101 rfl rfl (fun b101 => ?_) (fun b101 => ?_)
                  · obtain rfl : i = 12 := by omega
                    refine P_iload3 X 124 dX9_sheet_123 rfl ?_
                    exact P_iret X hQ dX9_sheet_124 ⟨by rw [if_neg b61], by rw [bgY, if_neg b61]⟩
                  · exact (geN n12e b101 (by omega) (by omega)).elim
                | succ m ih =>
                  intro i  hm 
                  refine P_iload4 X 99 dX9_sheet_97 rfl ?_
                  refine P_bipush X (12) rfl 101 dX9_sheet_99 rfl ?_
                  refine P_icmp_ge X 123 104 dX9_sheet_101 rfl rfl (fun b101 => ?_) (fun b101 => ?_)
                  · exact (geY n12e b101 (by omega) (by omega)).elim
                  · refine P_aload0 X 105 dX9_sheet_104 rfl ?_
                    refine gY_0_29 X 108 dX9_sheet_105 rfl fl_X9_83 ?_
                    refine P_bipush X (12) rfl 110 dX9_sheet_108 rfl ?_
                    refine P_iload1 X 111 dX9_sheet_110 rfl ?_
                    refine P_imul X 112 dX9_sheet_111 rfl ?_
                    refine P_iload4 X 114 dX9_sheet_112 rfl ?_
                    refine P_iadd X 115 dX9_sheet_114 rfl ?_
                    refine P_iconst X (0) rfl 116 dX9_sheet_115 rfl ?_
                    refine sY_25 X 117 dX9_sheet_116 rfl (ixm 12 j9 i) (by omega) ?_
                    refine P_iinc4 X (1) rfl 120 dX9_sheet_117 rfl (by decide) rfl ?_
                    refine P_goto X 97 dX9_sheet_120 rfl ?_
                    rw [nI_1]
                    exact ih (i + 1) (by omega)
              refine P_iconst X (0) rfl 95 dX9_sheet_94 rfl ?_
              refine P_istore4 X 97 dX9_sheet_95 rfl (by decide) rfl ?_
              exact L 12 0 (by omega)
            · refine P_aload0 X 65 dX9_sheet_64 rfl ?_
              refine gY_0_27 X 68 dX9_sheet_65 rfl fl_X9_77 ?_
              refine P_iload1 X 69 dX9_sheet_68 rfl ?_
              refine P_iconst X (0) rfl 70 dX9_sheet_69 rfl ?_
              refine sY_23 X 71 dX9_sheet_70 rfl rfl (by omega) ?_
              refine P_aload0 X 72 dX9_sheet_71 rfl ?_
              refine gY_0_28 X 75 dX9_sheet_72 rfl fl_X9_80 ?_
              refine P_iload1 X 76 dX9_sheet_75 rfl ?_
              refine P_iconst X (0) rfl 77 dX9_sheet_76 rfl ?_
              refine sY_24 X 78 dX9_sheet_77 rfl rfl (by omega) ?_
              refine P_iconst X (0) rfl 79 dX9_sheet_78 rfl ?_
              exact P_iret X hQ dX9_sheet_79 ⟨by rw [if_pos b61], by rw [bgY, if_pos b61]⟩
          · rw [if_neg b50, if_neg b50] at hQ
            refine P_aload0 X 54 dX9_sheet_53 rfl ?_
            refine P_ldc X kc_X9_144 56 dX9_sheet_54 rfl ?_
            refine V1r X 0 59 dX9_sheet_56 rfl lk_X9_145 mv_X9_finding rfl (by omega) (Nat.le_of_ble_eq_true rfl) (Nat.le_of_ble_eq_true rfl) rfl rfl (k_X9_finding (by omega)) ?_
            exact P_iret X hQ dX9_sheet_59 ⟨rfl, rfl⟩
        · rw [if_neg b37, if_neg b37] at hQ
          refine P_aload0 X 41 dX9_sheet_40 rfl ?_
          refine P_ldc X kc_X9_222 43 dX9_sheet_41 rfl ?_
          refine V1r X 0 46 dX9_sheet_43 rfl lk_X9_145 mv_X9_finding rfl (by omega) (Nat.le_of_ble_eq_true rfl) (Nat.le_of_ble_eq_true rfl) rfl rfl (k_X9_finding (by omega)) ?_
          exact P_iret X hQ dX9_sheet_46 ⟨rfl, rfl⟩
      · refine P_iload2 X 18 dX9_sheet_17 rfl ?_
        refine P_bipush X (16) rfl 20 dX9_sheet_18 rfl ?_
        refine P_icmp_eq X 36 23 dX9_sheet_20 rfl rfl (fun b20 => ?_) (fun b20 => ?_)
        · have hok : okSh s b = true := by
            have hb : bOk b = true := by simp [bOk, b20]
            rw [okSh, b4, hb]; rfl
          rw [if_pos hok, if_pos hok] at hQ
          refine P_iload3 X 37 dX9_sheet_36 rfl ?_
          refine P_if_ge X 47 40 dX9_sheet_37 rfl rfl (fun b37 => ?_) (fun b37 => ?_)
          · rw [if_pos b37, if_pos b37] at hQ
            refine P_iload3 X 48 dX9_sheet_47 rfl ?_
            refine P_bipush X (12) rfl 50 dX9_sheet_48 rfl ?_
            refine P_icmp_le X 60 53 dX9_sheet_50 rfl rfl (fun b50 => ?_) (fun b50 => ?_)
            · rw [if_pos b50, if_pos b50] at hQ
              obtain ⟨j9, hj9, rfl⟩ := inB_ex 3 b4
              have ej : tn (nI j9) = j9 := nI_clamp (by omega)
              rw [ej] at hQ
              refine P_iload2 X 61 dX9_sheet_60 rfl ?_
              refine P_if_ne X 80 64 dX9_sheet_61 rfl rfl (fun b61 => ?_) (fun b61 => ?_)
              · refine P_aload0 X 81 dX9_sheet_80 rfl ?_
                refine gY_0_27 X 84 dX9_sheet_81 rfl fl_X9_77 ?_
                refine P_iload1 X 85 dX9_sheet_84 rfl ?_
                refine P_iload2 X 86 dX9_sheet_85 rfl ?_
                refine sY_23 X 87 dX9_sheet_86 rfl rfl (by omega) ?_
                refine P_aload0 X 88 dX9_sheet_87 rfl ?_
                refine gY_0_28 X 91 dX9_sheet_88 rfl fl_X9_80 ?_
                refine P_iload1 X 92 dX9_sheet_91 rfl ?_
                refine P_iload3 X 93 dX9_sheet_92 rfl ?_
                refine sY_24 X 94 dX9_sheet_93 rfl rfl (by omega) ?_
                have L : ∀ (m i : Nat) , i + m = 12 → GW K 5 E (wdY E) A 97 [some (.ref (E.2.2.1 0)), some (.int (nI j9)), some (.int b), some (.int n), some (.int (nI i))] [] (zrY (put (put h 23 j9 b) 24 j9 n) j9 i) := by
                  intro m
                  induction m with
                  | zero =>
                    intro i  hm 
                    refine P_iload4 X 99 dX9_sheet_97 rfl ?_
                    refine P_bipush X (12) rfl 101 dX9_sheet_99 rfl ?_
                    refine P_icmp_ge X 123 104 dX9_sheet_101 rfl rfl (fun b101 => ?_) (fun b101 => ?_)
                    · obtain rfl : i = 12 := by omega
                      refine P_iload3 X 124 dX9_sheet_123 rfl ?_
                      exact P_iret X hQ dX9_sheet_124 ⟨by rw [if_neg b61], by rw [bgY, if_neg b61]⟩
                    · exact (geN n12e b101 (by omega) (by omega)).elim
                  | succ m ih =>
                    intro i  hm 
                    refine P_iload4 X 99 dX9_sheet_97 rfl ?_
                    refine P_bipush X (12) rfl 101 dX9_sheet_99 rfl ?_
                    refine P_icmp_ge X 123 104 dX9_sheet_101 rfl rfl (fun b101 => ?_) (fun b101 => ?_)
                    · exact (geY n12e b101 (by omega) (by omega)).elim
                    · refine P_aload0 X 105 dX9_sheet_104 rfl ?_
                      refine gY_0_29 X 108 dX9_sheet_105 rfl fl_X9_83 ?_
                      refine P_bipush X (12) rfl 110 dX9_sheet_108 rfl ?_
                      refine P_iload1 X 111 dX9_sheet_110 rfl ?_
                      refine P_imul X 112 dX9_sheet_111 rfl ?_
                      refine P_iload4 X 114 dX9_sheet_112 rfl ?_
                      refine P_iadd X 115 dX9_sheet_114 rfl ?_
                      refine P_iconst X (0) rfl 116 dX9_sheet_115 rfl ?_
                      refine sY_25 X 117 dX9_sheet_116 rfl (ixm 12 j9 i) (by omega) ?_
                      refine P_iinc4 X (1) rfl 120 dX9_sheet_117 rfl (by decide) rfl ?_
                      refine P_goto X 97 dX9_sheet_120 rfl ?_
                      rw [nI_1]
                      exact ih (i + 1) (by omega)
                refine P_iconst X (0) rfl 95 dX9_sheet_94 rfl ?_
                refine P_istore4 X 97 dX9_sheet_95 rfl (by decide) rfl ?_
                exact L 12 0 (by omega)
              · refine P_aload0 X 65 dX9_sheet_64 rfl ?_
                refine gY_0_27 X 68 dX9_sheet_65 rfl fl_X9_77 ?_
                refine P_iload1 X 69 dX9_sheet_68 rfl ?_
                refine P_iconst X (0) rfl 70 dX9_sheet_69 rfl ?_
                refine sY_23 X 71 dX9_sheet_70 rfl rfl (by omega) ?_
                refine P_aload0 X 72 dX9_sheet_71 rfl ?_
                refine gY_0_28 X 75 dX9_sheet_72 rfl fl_X9_80 ?_
                refine P_iload1 X 76 dX9_sheet_75 rfl ?_
                refine P_iconst X (0) rfl 77 dX9_sheet_76 rfl ?_
                refine sY_24 X 78 dX9_sheet_77 rfl rfl (by omega) ?_
                refine P_iconst X (0) rfl 79 dX9_sheet_78 rfl ?_
                exact P_iret X hQ dX9_sheet_79 ⟨by rw [if_pos b61], by rw [bgY, if_pos b61]⟩
            · rw [if_neg b50, if_neg b50] at hQ
              refine P_aload0 X 54 dX9_sheet_53 rfl ?_
              refine P_ldc X kc_X9_144 56 dX9_sheet_54 rfl ?_
              refine V1r X 0 59 dX9_sheet_56 rfl lk_X9_145 mv_X9_finding rfl (by omega) (Nat.le_of_ble_eq_true rfl) (Nat.le_of_ble_eq_true rfl) rfl rfl (k_X9_finding (by omega)) ?_
              exact P_iret X hQ dX9_sheet_59 ⟨rfl, rfl⟩
          · rw [if_neg b37, if_neg b37] at hQ
            refine P_aload0 X 41 dX9_sheet_40 rfl ?_
            refine P_ldc X kc_X9_222 43 dX9_sheet_41 rfl ?_
            refine V1r X 0 46 dX9_sheet_43 rfl lk_X9_145 mv_X9_finding rfl (by omega) (Nat.le_of_ble_eq_true rfl) (Nat.le_of_ble_eq_true rfl) rfl rfl (k_X9_finding (by omega)) ?_
            exact P_iret X hQ dX9_sheet_46 ⟨rfl, rfl⟩
        · refine P_iload2 X 24 dX9_sheet_23 rfl ?_
          refine P_bipush X (32) rfl 26 dX9_sheet_24 rfl ?_
          refine P_icmp_eq X 36 29 dX9_sheet_26 rfl rfl (fun b26 => ?_) (fun b26 => ?_)
          · have hok : okSh s b = true := by
              have hb : bOk b = true := by simp [bOk, b26]
              rw [okSh, b4, hb]; rfl
            rw [if_pos hok, if_pos hok] at hQ
            refine P_iload3 X 37 dX9_sheet_36 rfl ?_
            refine P_if_ge X 47 40 dX9_sheet_37 rfl rfl (fun b37 => ?_) (fun b37 => ?_)
            · rw [if_pos b37, if_pos b37] at hQ
              refine P_iload3 X 48 dX9_sheet_47 rfl ?_
              refine P_bipush X (12) rfl 50 dX9_sheet_48 rfl ?_
              refine P_icmp_le X 60 53 dX9_sheet_50 rfl rfl (fun b50 => ?_) (fun b50 => ?_)
              · rw [if_pos b50, if_pos b50] at hQ
                obtain ⟨j9, hj9, rfl⟩ := inB_ex 3 b4
                have ej : tn (nI j9) = j9 := nI_clamp (by omega)
                rw [ej] at hQ
                refine P_iload2 X 61 dX9_sheet_60 rfl ?_
                refine P_if_ne X 80 64 dX9_sheet_61 rfl rfl (fun b61 => ?_) (fun b61 => ?_)
                · refine P_aload0 X 81 dX9_sheet_80 rfl ?_
                  refine gY_0_27 X 84 dX9_sheet_81 rfl fl_X9_77 ?_
                  refine P_iload1 X 85 dX9_sheet_84 rfl ?_
                  refine P_iload2 X 86 dX9_sheet_85 rfl ?_
                  refine sY_23 X 87 dX9_sheet_86 rfl rfl (by omega) ?_
                  refine P_aload0 X 88 dX9_sheet_87 rfl ?_
                  refine gY_0_28 X 91 dX9_sheet_88 rfl fl_X9_80 ?_
                  refine P_iload1 X 92 dX9_sheet_91 rfl ?_
                  refine P_iload3 X 93 dX9_sheet_92 rfl ?_
                  refine sY_24 X 94 dX9_sheet_93 rfl rfl (by omega) ?_
                  have L : ∀ (m i : Nat) , i + m = 12 → GW K 5 E (wdY E) A 97 [some (.ref (E.2.2.1 0)), some (.int (nI j9)), some (.int b), some (.int n), some (.int (nI i))] [] (zrY (put (put h 23 j9 b) 24 j9 n) j9 i) := by
                    intro m
                    induction m with
                    | zero =>
                      intro i  hm 
                      refine P_iload4 X 99 dX9_sheet_97 rfl ?_
                      refine P_bipush X (12) rfl 101 dX9_sheet_99 rfl ?_
                      refine P_icmp_ge X 123 104 dX9_sheet_101 rfl rfl (fun b101 => ?_) (fun b101 => ?_)
                      · obtain rfl : i = 12 := by omega
                        refine P_iload3 X 124 dX9_sheet_123 rfl ?_
                        exact P_iret X hQ dX9_sheet_124 ⟨by rw [if_neg b61], by rw [bgY, if_neg b61]⟩
                      · exact (geN n12e b101 (by omega) (by omega)).elim
                    | succ m ih =>
                      intro i  hm 
                      refine P_iload4 X 99 dX9_sheet_97 rfl ?_
                      refine P_bipush X (12) rfl 101 dX9_sheet_99 rfl ?_
                      refine P_icmp_ge X 123 104 dX9_sheet_101 rfl rfl (fun b101 => ?_) (fun b101 => ?_)
                      · exact (geY n12e b101 (by omega) (by omega)).elim
                      · refine P_aload0 X 105 dX9_sheet_104 rfl ?_
                        refine gY_0_29 X 108 dX9_sheet_105 rfl fl_X9_83 ?_
                        refine P_bipush X (12) rfl 110 dX9_sheet_108 rfl ?_
                        refine P_iload1 X 111 dX9_sheet_110 rfl ?_
                        refine P_imul X 112 dX9_sheet_111 rfl ?_
                        refine P_iload4 X 114 dX9_sheet_112 rfl ?_
                        refine P_iadd X 115 dX9_sheet_114 rfl ?_
                        refine P_iconst X (0) rfl 116 dX9_sheet_115 rfl ?_
                        refine sY_25 X 117 dX9_sheet_116 rfl (ixm 12 j9 i) (by omega) ?_
                        refine P_iinc4 X (1) rfl 120 dX9_sheet_117 rfl (by decide) rfl ?_
                        refine P_goto X 97 dX9_sheet_120 rfl ?_
                        rw [nI_1]
                        exact ih (i + 1) (by omega)
                  refine P_iconst X (0) rfl 95 dX9_sheet_94 rfl ?_
                  refine P_istore4 X 97 dX9_sheet_95 rfl (by decide) rfl ?_
                  exact L 12 0 (by omega)
                · refine P_aload0 X 65 dX9_sheet_64 rfl ?_
                  refine gY_0_27 X 68 dX9_sheet_65 rfl fl_X9_77 ?_
                  refine P_iload1 X 69 dX9_sheet_68 rfl ?_
                  refine P_iconst X (0) rfl 70 dX9_sheet_69 rfl ?_
                  refine sY_23 X 71 dX9_sheet_70 rfl rfl (by omega) ?_
                  refine P_aload0 X 72 dX9_sheet_71 rfl ?_
                  refine gY_0_28 X 75 dX9_sheet_72 rfl fl_X9_80 ?_
                  refine P_iload1 X 76 dX9_sheet_75 rfl ?_
                  refine P_iconst X (0) rfl 77 dX9_sheet_76 rfl ?_
                  refine sY_24 X 78 dX9_sheet_77 rfl rfl (by omega) ?_
                  refine P_iconst X (0) rfl 79 dX9_sheet_78 rfl ?_
                  exact P_iret X hQ dX9_sheet_79 ⟨by rw [if_pos b61], by rw [bgY, if_pos b61]⟩
              · rw [if_neg b50, if_neg b50] at hQ
                refine P_aload0 X 54 dX9_sheet_53 rfl ?_
                refine P_ldc X kc_X9_144 56 dX9_sheet_54 rfl ?_
                refine V1r X 0 59 dX9_sheet_56 rfl lk_X9_145 mv_X9_finding rfl (by omega) (Nat.le_of_ble_eq_true rfl) (Nat.le_of_ble_eq_true rfl) rfl rfl (k_X9_finding (by omega)) ?_
                exact P_iret X hQ dX9_sheet_59 ⟨rfl, rfl⟩
            · rw [if_neg b37, if_neg b37] at hQ
              refine P_aload0 X 41 dX9_sheet_40 rfl ?_
              refine P_ldc X kc_X9_222 43 dX9_sheet_41 rfl ?_
              refine V1r X 0 46 dX9_sheet_43 rfl lk_X9_145 mv_X9_finding rfl (by omega) (Nat.le_of_ble_eq_true rfl) (Nat.le_of_ble_eq_true rfl) rfl rfl (k_X9_finding (by omega)) ?_
              exact P_iret X hQ dX9_sheet_46 ⟨rfl, rfl⟩
          · have hok : ¬ okSh s b = true := by simp [okSh, bOk, b8, b14, b20, b26]
            rw [if_neg hok, if_neg hok] at hQ
            refine P_aload0 X 30 dX9_sheet_29 rfl ?_
            refine P_ldc X kc_X9_144 32 dX9_sheet_30 rfl ?_
            refine V1r X 0 35 dX9_sheet_32 rfl lk_X9_145 mv_X9_finding rfl (by omega) (Nat.le_of_ble_eq_true rfl) (Nat.le_of_ble_eq_true rfl) rfl rfl (k_X9_finding (by omega)) ?_
            exact P_iret X hQ dX9_sheet_35 ⟨rfl, rfl⟩
set_option maxHeartbeats 4000000 in
set_option maxRecDepth 100000 in
theorem k_X8_write {d : Nat} {E : Ev} {s i v : Int32} {h : Hp} (hd : 2 ≤ d) (hsz : ∀ j, j < 4 → ∃ n, n ≤ 12 ∧ h (43 + j) 2 = nI n) : Cl d yX8_write cX8_write 4 (some .int) E (wdX E) [.ref (E.2.2.1 0), .int s, .int i, .int v] h (Rt (some (.int (if inB s 0 3 then (if h (43 + tn s) 1 = 0 then -1000008 else if inB i 0 (h (43 + tn s) 2 - 1) then h (47 + tn s) (tn i) else -1000001) else -1000001))) (if inB s 0 3 then (if h (43 + tn s) 1 = 0 then fiX h else if inB i 0 (h (43 + tn s) 2 - 1) then put h (47 + tn s) (tn i) (cutF (h (43 + tn s) 1) v) else fiX h) else fiX h)) := by
  refine Cl_of [some (.ref (E.2.2.1 0)), some (.int s), some (.int i), some (.int v)] (by decide) rfl (Nat.le_of_ble_eq_true rfl) (fun K A X hQ => ?_)
  refine P_iload1 X 1 dX8_write_0 rfl ?_
  refine S1r X 4 dX8_write_1 rfl lk_X8_257 ms_X8_isSheet rfl (by omega) (Nat.le_of_ble_eq_true rfl) (k_X8_isSheet (by omega)) ?_
  refine P_bn X 14 7 dX8_write_4 rfl rfl (fun b4 => ?_) (fun b4 => ?_)
  · obtain ⟨j9, hj9, rfl⟩ := inB_ex 3 b4
    have ej : tn (nI j9) = j9 := nI_clamp (by omega)
    rw [if_pos b4, if_pos b4, ej] at hQ
    obtain ⟨n9, hn9, en9⟩ := hsz j9 hj9
    refine P_aload0 X 15 dX8_write_14 rfl ?_
    refine gX_0_10 X 18 dX8_write_15 rfl fl_X8_70 ?_
    refine P_iload1 X 19 dX8_write_18 rfl ?_
    refine qX_11 X 20 dX8_write_19 rfl rfl hj9 ?_
    refine V0r X (43 + j9) 23 dX8_write_20 rfl lk_X8_266 mv_X4_isMissing rfl (by omega) (Nat.le_of_ble_eq_true rfl) (by show 43 + j9 < 51; omega) (cfX_S E hj9 _) rfl (k_X4_isMissing (by omega) hj9) ?_
    refine P_bz X 34 26 dX8_write_23 rfl rfl (fun b23 => ?_) (fun b23 => ?_)
    · have zb : ¬ h (43 + j9) 1 = 0 := by simpa using b23
      rw [if_neg zb, if_neg zb] at hQ
      refine P_iload2 X 35 dX8_write_34 rfl ?_
      refine P_iconst X (0) rfl 36 dX8_write_35 rfl ?_
      refine P_aload0 X 37 dX8_write_36 rfl ?_
      refine gX_0_10 X 40 dX8_write_37 rfl fl_X8_70 ?_
      refine P_iload1 X 41 dX8_write_40 rfl ?_
      refine qX_11 X 42 dX8_write_41 rfl rfl hj9 ?_
      refine gX_S_2 X hj9 45 dX8_write_42 rfl fl_X8_263 ?_
      refine P_iconst X (1) rfl 46 dX8_write_45 rfl ?_
      refine P_isub X 47 dX8_write_46 rfl ?_
      refine S3r X 50 dX8_write_47 rfl lk_X8_79 ms_X8_within rfl (by omega) (Nat.le_of_ble_eq_true rfl) (k_X8_within (by omega)) ?_
      refine P_bn X 60 53 dX8_write_50 rfl rfl (fun b50 => ?_) (fun b50 => ?_)
      · obtain ⟨i9, hi9, rfl⟩ := inB_ix en9 b50 (by omega)
        have ei : tn (nI i9) = i9 := nI_clamp (by omega)
        rw [if_pos b50, if_pos b50, ei] at hQ
        refine P_aload0 X 61 dX8_write_60 rfl ?_
        refine gX_0_10 X 64 dX8_write_61 rfl fl_X8_70 ?_
        refine P_iload1 X 65 dX8_write_64 rfl ?_
        refine qX_11 X 66 dX8_write_65 rfl rfl hj9 ?_
        refine P_iload2 X 67 dX8_write_66 rfl ?_
        refine P_iload3 X 68 dX8_write_67 rfl ?_
        refine V2r X (43 + j9) 71 dX8_write_68 rfl lk_X8_271 mv_X4_replace rfl (by omega) (Nat.le_of_ble_eq_true rfl) (by show 43 + j9 < 51; omega) (cfX_S E hj9 _) rfl (k_X4_replace (by omega) hj9 (by omega)) ?_
        exact P_iret X hQ dX8_write_71 ⟨rfl, rfl⟩
      · have nb : ¬ inB i 0 (h (43 + j9) 2 - 1) = true := by rw [b50]; simp
        rw [if_neg nb, if_neg nb] at hQ
        refine P_aload0 X 54 dX8_write_53 rfl ?_
        refine P_ldc X kc_X8_90 56 dX8_write_54 rfl ?_
        refine V1r X 0 59 dX8_write_56 rfl lk_X8_91 mv_X8_finding rfl (by omega) (Nat.le_of_ble_eq_true rfl) (Nat.le_of_ble_eq_true rfl) rfl rfl (k_X8_finding (by omega)) ?_
        exact P_iret X hQ dX8_write_59 ⟨rfl, rfl⟩
    · have zb : h (43 + j9) 1 = 0 := by simpa using b23
      rw [if_pos zb, if_pos zb] at hQ
      refine P_aload0 X 27 dX8_write_26 rfl ?_
      refine P_ldcw X kc_X8_270 30 dX8_write_27 rfl ?_
      refine V1r X 0 33 dX8_write_30 rfl lk_X8_91 mv_X8_finding rfl (by omega) (Nat.le_of_ble_eq_true rfl) (Nat.le_of_ble_eq_true rfl) rfl rfl (k_X8_finding (by omega)) ?_
      exact P_iret X hQ dX8_write_33 ⟨rfl, rfl⟩
  · have nb4 : ¬ inB s 0 3 = true := by rw [b4]; simp
    rw [if_neg nb4, if_neg nb4] at hQ
    refine P_aload0 X 8 dX8_write_7 rfl ?_
    refine P_ldc X kc_X8_90 10 dX8_write_8 rfl ?_
    refine V1r X 0 13 dX8_write_10 rfl lk_X8_91 mv_X8_finding rfl (by omega) (Nat.le_of_ble_eq_true rfl) (Nat.le_of_ble_eq_true rfl) rfl rfl (k_X8_finding (by omega)) ?_
    exact P_iret X hQ dX8_write_13 ⟨rfl, rfl⟩
set_option maxHeartbeats 4000000 in
set_option maxRecDepth 100000 in
theorem k_X9_cut {d : Nat} {E : Ev} {wd : Wd} {v b : Int32} {h : Hp} (hd : 0 ≤ d)  : Cl d yX9_cut cX9_cut 2 (some .int) E wd [.int v, .int b] h (Rt (some (.int (cutF b v))) h) := by
  refine Cl_of [some (.int v), some (.int b)] (by decide) rfl (Nat.le_of_ble_eq_true rfl) (fun K A X hQ => ?_)
  refine P_iload1 X 1 dX9_cut_0 rfl ?_
  refine P_bipush X (8) rfl 3 dX9_cut_1 rfl ?_
  refine P_icmp_ne X 11 6 dX9_cut_3 rfl rfl (fun b3 => ?_) (fun b3 => ?_)
  · refine P_iload1 X 12 dX9_cut_11 rfl ?_
    refine P_bipush X (16) rfl 14 dX9_cut_12 rfl ?_
    refine P_icmp_ne X 22 17 dX9_cut_14 rfl rfl (fun b14 => ?_) (fun b14 => ?_)
    · refine P_iload0 X 23 dX9_cut_22 rfl ?_
      exact P_iret X hQ dX9_cut_23 (rti (by simp [cutF, b3, b14]))
    · refine P_iload0 X 18 dX9_cut_17 rfl ?_
      refine P_i2s X 19 dX9_cut_18 rfl ?_
      refine P_goto X 23 dX9_cut_19 rfl ?_
      exact P_iret X hQ dX9_cut_23 (rti (by simp [cutF, b3, b14]))
  · refine P_iload0 X 7 dX9_cut_6 rfl ?_
    refine P_i2b X 8 dX9_cut_7 rfl ?_
    refine P_goto X 23 dX9_cut_8 rfl ?_
    exact P_iret X hQ dX9_cut_23 (rti (by simp [cutF, b3]))
set_option maxHeartbeats 4000000 in
set_option maxRecDepth 100000 in
theorem k_X9_write {d : Nat} {E : Ev} {s i v : Int32} {h : Hp} (hd : 2 ≤ d) (hsz : ∀ j, j < 4 → ∃ n, n ≤ 12 ∧ h 24 j = nI n) : Cl d yX9_write cX9_write 5 (some .int) E (wdY E) [.ref (E.2.2.1 0), .int s, .int i, .int v] h (Rt (some (.int (if inB s 0 3 then (if h 23 (tn s) = 0 then -1000008 else if inB i 0 (h 24 (tn s) - 1) then h 25 (12 * tn s + tn i) else -1000001) else -1000001))) (if inB s 0 3 then (if h 23 (tn s) = 0 then fiY h else if inB i 0 (h 24 (tn s) - 1) then put h 25 (12 * tn s + tn i) (cutF (h 23 (tn s)) v) else fiY h) else fiY h)) := by
  refine Cl_of [some (.ref (E.2.2.1 0)), some (.int s), some (.int i), some (.int v), none] (by decide) rfl (Nat.le_of_ble_eq_true rfl) (fun K A X hQ => ?_)
  refine P_iload1 X 1 dX9_write_0 rfl ?_
  refine S1r X 4 dX9_write_1 rfl lk_X9_219 ms_X9_isSheet rfl (by omega) (Nat.le_of_ble_eq_true rfl) (k_X9_isSheet (by omega)) ?_
  refine P_bn X 14 7 dX9_write_4 rfl rfl (fun b4 => ?_) (fun b4 => ?_)
  · obtain ⟨j9, hj9, rfl⟩ := inB_ex 3 b4
    have ej : tn (nI j9) = j9 := nI_clamp (by omega)
    rw [if_pos b4, if_pos b4, ej] at hQ
    obtain ⟨n9, hn9, en9⟩ := hsz j9 hj9
    refine P_aload0 X 15 dX9_write_14 rfl ?_
    refine gY_0_27 X 18 dX9_write_15 rfl fl_X9_77 ?_
    refine P_iload1 X 19 dX9_write_18 rfl ?_
    refine lY_23 X 20 dX9_write_19 rfl rfl (by omega) ?_
    refine P_if_ne X 30 23 dX9_write_20 rfl rfl (fun b20 => ?_) (fun b20 => ?_)
    · rw [if_neg b20, if_neg b20] at hQ
      refine P_iload2 X 31 dX9_write_30 rfl ?_
      refine P_iconst X (0) rfl 32 dX9_write_31 rfl ?_
      refine P_aload0 X 33 dX9_write_32 rfl ?_
      refine gY_0_28 X 36 dX9_write_33 rfl fl_X9_80 ?_
      refine P_iload1 X 37 dX9_write_36 rfl ?_
      refine lY_24 X 38 dX9_write_37 rfl rfl (by omega) ?_
      refine P_iconst X (1) rfl 39 dX9_write_38 rfl ?_
      refine P_isub X 40 dX9_write_39 rfl ?_
      refine S3r X 43 dX9_write_40 rfl lk_X9_111 ms_X9_in rfl (by omega) (Nat.le_of_ble_eq_true rfl) (k_X9_in (by omega)) ?_
      refine P_bn X 53 46 dX9_write_43 rfl rfl (fun b43 => ?_) (fun b43 => ?_)
      · obtain ⟨i9, hi9, rfl⟩ := inB_ix en9 b43 (by omega)
        have ei : tn (nI i9) = i9 := nI_clamp (by omega)
        rw [if_pos b43, if_pos b43, ei] at hQ
        refine P_aload0 X 54 dX9_write_53 rfl ?_
        refine gY_0_29 X 57 dX9_write_54 rfl fl_X9_83 ?_
        refine P_bipush X (12) rfl 59 dX9_write_57 rfl ?_
        refine P_iload1 X 60 dX9_write_59 rfl ?_
        refine P_imul X 61 dX9_write_60 rfl ?_
        refine P_iload2 X 62 dX9_write_61 rfl ?_
        refine P_iadd X 63 dX9_write_62 rfl ?_
        refine lY_25 X 64 dX9_write_63 rfl (ixm 12 j9 i9) (by omega) ?_
        refine P_istore4 X 66 dX9_write_64 rfl (by decide) rfl ?_
        refine P_aload0 X 67 dX9_write_66 rfl ?_
        refine gY_0_29 X 70 dX9_write_67 rfl fl_X9_83 ?_
        refine P_bipush X (12) rfl 72 dX9_write_70 rfl ?_
        refine P_iload1 X 73 dX9_write_72 rfl ?_
        refine P_imul X 74 dX9_write_73 rfl ?_
        refine P_iload2 X 75 dX9_write_74 rfl ?_
        refine P_iadd X 76 dX9_write_75 rfl ?_
        refine P_iload3 X 77 dX9_write_76 rfl ?_
        refine P_aload0 X 78 dX9_write_77 rfl ?_
        refine gY_0_27 X 81 dX9_write_78 rfl fl_X9_77 ?_
        refine P_iload1 X 82 dX9_write_81 rfl ?_
        refine lY_23 X 83 dX9_write_82 rfl rfl (by omega) ?_
        refine S2r X 86 dX9_write_83 rfl lk_X9_224 ms_X9_cut rfl (by omega) (Nat.le_of_ble_eq_true rfl) (k_X9_cut (by omega)) ?_
        refine sY_25 X 87 dX9_write_86 rfl (ixm 12 j9 i9) (by omega) ?_
        refine P_iload4 X 89 dX9_write_87 rfl ?_
        exact P_iret X hQ dX9_write_89 ⟨rfl, rfl⟩
      · have nb : ¬ inB i 0 (h 24 j9 - 1) = true := by rw [b43]; simp
        rw [if_neg nb, if_neg nb] at hQ
        refine P_aload0 X 47 dX9_write_46 rfl ?_
        refine P_ldc X kc_X9_144 49 dX9_write_47 rfl ?_
        refine V1r X 0 52 dX9_write_49 rfl lk_X9_145 mv_X9_finding rfl (by omega) (Nat.le_of_ble_eq_true rfl) (Nat.le_of_ble_eq_true rfl) rfl rfl (k_X9_finding (by omega)) ?_
        exact P_iret X hQ dX9_write_52 ⟨rfl, rfl⟩
    · rw [if_pos b20, if_pos b20] at hQ
      refine P_aload0 X 24 dX9_write_23 rfl ?_
      refine P_ldc X kc_X9_223 26 dX9_write_24 rfl ?_
      refine V1r X 0 29 dX9_write_26 rfl lk_X9_145 mv_X9_finding rfl (by omega) (Nat.le_of_ble_eq_true rfl) (Nat.le_of_ble_eq_true rfl) rfl rfl (k_X9_finding (by omega)) ?_
      exact P_iret X hQ dX9_write_29 ⟨rfl, rfl⟩
  · have nb4 : ¬ inB s 0 3 = true := by rw [b4]; simp
    rw [if_neg nb4, if_neg nb4] at hQ
    refine P_aload0 X 8 dX9_write_7 rfl ?_
    refine P_ldc X kc_X9_144 10 dX9_write_8 rfl ?_
    refine V1r X 0 13 dX9_write_10 rfl lk_X9_145 mv_X9_finding rfl (by omega) (Nat.le_of_ble_eq_true rfl) (Nat.le_of_ble_eq_true rfl) rfl rfl (k_X9_finding (by omega)) ?_
    exact P_iret X hQ dX9_write_13 ⟨rfl, rfl⟩
def smI (f : Nat → Int32) : Nat → Int32
  | 0 => 0
  | n + 1 => smI f n + f n
set_option maxHeartbeats 4000000 in
set_option maxRecDepth 100000 in
theorem k_X5_allClosed {d : Nat} {E : Ev} {h : Hp} (hd : 0 ≤ d)  : Cl d yX5_allClosed cX5_allClosed 3 (some .int) E (wdX E) [.ref (E.2.2.1 8)] h (Rt (some (.int (smI (h 40) 6))) h) := by
  refine Cl_of [some (.ref (E.2.2.1 8)), none, none] (by decide) rfl (Nat.le_of_ble_eq_true rfl) (fun K A X hQ => ?_)
  have L : ∀ (m i : Nat) , i + m = 6 → GW K 3 E (wdX E) A 4 [some (.ref (E.2.2.1 8)), some (.int (smI (h 40) i)), some (.int (nI i))] [] h := by
    intro m
    induction m with
    | zero =>
      intro i  hm 
      refine P_iload2 X 5 dX5_allClosed_4 rfl ?_
      refine P_bipush X (6) rfl 7 dX5_allClosed_5 rfl ?_
      refine P_icmp_ge X 25 10 dX5_allClosed_7 rfl rfl (fun b7 => ?_) (fun b7 => ?_)
      · obtain rfl : i = 6 := by omega
        refine P_iload1 X 26 dX5_allClosed_25 rfl ?_
        exact P_iret X hQ dX5_allClosed_26 ⟨rfl, rfl⟩
      · exact (geN n6e b7 (by omega) (by omega)).elim
    | succ m ih =>
      intro i  hm 
      refine P_iload2 X 5 dX5_allClosed_4 rfl ?_
      refine P_bipush X (6) rfl 7 dX5_allClosed_5 rfl ?_
      refine P_icmp_ge X 25 10 dX5_allClosed_7 rfl rfl (fun b7 => ?_) (fun b7 => ?_)
      · exact (geY n6e b7 (by omega) (by omega)).elim
      · refine P_iload1 X 11 dX5_allClosed_10 rfl ?_
        refine P_aload0 X 12 dX5_allClosed_11 rfl ?_
        refine gX_8_0 X 15 dX5_allClosed_12 rfl fl_X5_9 ?_
        refine P_iload2 X 16 dX5_allClosed_15 rfl ?_
        refine lX_40 X 17 dX5_allClosed_16 rfl rfl (by omega) ?_
        refine P_iadd X 18 dX5_allClosed_17 rfl ?_
        refine P_istore1 X 19 dX5_allClosed_18 rfl (by decide) rfl ?_
        refine P_iinc2 X (1) rfl 22 dX5_allClosed_19 rfl (by decide) rfl ?_
        refine P_goto X 4 dX5_allClosed_22 rfl ?_
        rw [nI_1]
        exact ih (i + 1) (by omega)
  refine P_iconst X (0) rfl 1 dX5_allClosed_0 rfl ?_
  refine P_istore1 X 2 dX5_allClosed_1 rfl (by decide) rfl ?_
  refine P_iconst X (0) rfl 3 dX5_allClosed_2 rfl ?_
  refine P_istore2 X 4 dX5_allClosed_3 rfl (by decide) rfl ?_
  exact L 6 0 (by omega)
set_option maxHeartbeats 4000000 in
set_option maxRecDepth 100000 in
theorem k_X9_allClosings {d : Nat} {E : Ev} {h : Hp} (hd : 0 ≤ d)  : Cl d yX9_allClosings cX9_allClosings 3 (some .int) E (wdY E) [.ref (E.2.2.1 0)] h (Rt (some (.int (smI (h 18) 6))) h) := by
  refine Cl_of [some (.ref (E.2.2.1 0)), none, none] (by decide) rfl (Nat.le_of_ble_eq_true rfl) (fun K A X hQ => ?_)
  have L : ∀ (m i : Nat) , i + m = 6 → GW K 3 E (wdY E) A 4 [some (.ref (E.2.2.1 0)), some (.int (smI (h 18) i)), some (.int (nI i))] [] h := by
    intro m
    induction m with
    | zero =>
      intro i  hm 
      refine P_iload2 X 5 dX9_allClosings_4 rfl ?_
      refine P_bipush X (6) rfl 7 dX9_allClosings_5 rfl ?_
      refine P_icmp_ge X 25 10 dX9_allClosings_7 rfl rfl (fun b7 => ?_) (fun b7 => ?_)
      · obtain rfl : i = 6 := by omega
        refine P_iload1 X 26 dX9_allClosings_25 rfl ?_
        exact P_iret X hQ dX9_allClosings_26 ⟨rfl, rfl⟩
      · exact (geN n6e b7 (by omega) (by omega)).elim
    | succ m ih =>
      intro i  hm 
      refine P_iload2 X 5 dX9_allClosings_4 rfl ?_
      refine P_bipush X (6) rfl 7 dX9_allClosings_5 rfl ?_
      refine P_icmp_ge X 25 10 dX9_allClosings_7 rfl rfl (fun b7 => ?_) (fun b7 => ?_)
      · exact (geY n6e b7 (by omega) (by omega)).elim
      · refine P_iload1 X 11 dX9_allClosings_10 rfl ?_
        refine P_aload0 X 12 dX9_allClosings_11 rfl ?_
        refine gY_0_22 X 15 dX9_allClosings_12 rfl fl_X9_62 ?_
        refine P_iload2 X 16 dX9_allClosings_15 rfl ?_
        refine lY_18 X 17 dX9_allClosings_16 rfl rfl (by omega) ?_
        refine P_iadd X 18 dX9_allClosings_17 rfl ?_
        refine P_istore1 X 19 dX9_allClosings_18 rfl (by decide) rfl ?_
        refine P_iinc2 X (1) rfl 22 dX9_allClosings_19 rfl (by decide) rfl ?_
        refine P_goto X 4 dX9_allClosings_22 rfl ?_
        rw [nI_1]
        exact ih (i + 1) (by omega)
  refine P_iconst X (0) rfl 1 dX9_allClosings_0 rfl ?_
  refine P_istore1 X 2 dX9_allClosings_1 rfl (by decide) rfl ?_
  refine P_iconst X (0) rfl 3 dX9_allClosings_2 rfl ?_
  refine P_istore2 X 4 dX9_allClosings_3 rfl (by decide) rfl ?_
  exact L 6 0 (by omega)
def dt5 (w v0 v1 v2 v3 v4 v5 v6 v7 : Int32) : Int32 := if w = 0 then v0 else if w = 1 then v1 else if w = 2 then v2 else if w = 3 then v3 else if w = 4 then v4 else if w = 5 then v5 else if w = 6 then v6 else v7
set_option maxHeartbeats 4000000 in
set_option maxRecDepth 100000 in
theorem k_X8_told {d : Nat} {E : Ev} {n nT : Nat} {w : Int32} {h : Hp} (hd : 1 ≤ d) (hc : h 1 8 = nI n) (hn : n ≤ 40) (hT : h 2 6 = nI nT) (hnT : nT ≤ 40) : Cl d yX8_told cX8_told 2 (some .int) E (wdX E) [.ref (E.2.2.1 0), .int w] h (Rt (some (.int (if inB w 0 7 then dt5 w (h 1 8) (h 2 6) (nI (cnt (fun o => !decide (h 21 o = 0)) nT)) (h 5 4) (h 4 1) (smI (h 40) 6) (latF (h 16) n) (h 0 11) else -1000001))) (if inB w 0 7 then h else fiX h)) := by
  refine Cl_of [some (.ref (E.2.2.1 0)), some (.int w)] (by decide) rfl (Nat.le_of_ble_eq_true rfl) (fun K A X hQ => ?_)
  refine P_iload1 X 1 dX8_told_0 rfl ?_
  by_cases hb7 : inB w 0 7 = true
  · obtain ⟨j9, hj9, rfl⟩ := inB_ex 7 hb7
    rw [if_pos hb7, if_pos hb7] at hQ
    rcases (show j9 = 0 ∨ j9 = 1 ∨ j9 = 2 ∨ j9 = 3 ∨ j9 = 4 ∨ j9 = 5 ∨ j9 = 6 ∨ j9 = 7 by omega) with rfl | rfl | rfl | rfl | rfl | rfl | rfl | rfl
    · refine P_tblIn X 48 dX8_told_1 (by decide) (by decide) rfl rfl ?_
      refine P_aload0 X 49 dX8_told_48 rfl ?_
      refine gX_0_0 X 52 dX8_told_49 rfl fl_X8_10 ?_
      refine gX_1_8 X 55 dX8_told_52 rfl fl_X8_95 ?_
      exact P_iret X hQ dX8_told_55 ⟨rfl, rfl⟩
    · refine P_tblIn X 56 dX8_told_1 (by decide) (by decide) rfl rfl ?_
      refine P_aload0 X 57 dX8_told_56 rfl ?_
      refine gX_0_1 X 60 dX8_told_57 rfl fl_X8_19 ?_
      refine gX_2_6 X 63 dX8_told_60 rfl fl_X8_292 ?_
      exact P_iret X hQ dX8_told_63 ⟨rfl, rfl⟩
    · refine P_tblIn X 64 dX8_told_1 (by decide) (by decide) rfl rfl ?_
      refine P_aload0 X 65 dX8_told_64 rfl ?_
      refine gX_0_1 X 68 dX8_told_65 rfl fl_X8_19 ?_
      refine V0r X 2 71 dX8_told_68 rfl lk_X8_293 mv_X7_countOpen rfl (by omega) (Nat.le_of_ble_eq_true rfl) (Nat.le_of_ble_eq_true rfl) rfl rfl (k_X7_countOpen (by omega) hT hnT) ?_
      exact P_iret X hQ dX8_told_71 ⟨rfl, rfl⟩
    · refine P_tblIn X 72 dX8_told_1 (by decide) (by decide) rfl rfl ?_
      refine P_aload0 X 73 dX8_told_72 rfl ?_
      refine gX_0_4 X 76 dX8_told_73 rfl fl_X8_40 ?_
      refine gX_5_4 X 79 dX8_told_76 rfl fl_X8_162 ?_
      exact P_iret X hQ dX8_told_79 ⟨rfl, rfl⟩
    · refine P_tblIn X 80 dX8_told_1 (by decide) (by decide) rfl rfl ?_
      refine P_aload0 X 81 dX8_told_80 rfl ?_
      refine gX_0_3 X 84 dX8_told_81 rfl fl_X8_33 ?_
      refine gX_4_1 X 87 dX8_told_84 rfl fl_X8_147 ?_
      exact P_iret X hQ dX8_told_87 ⟨rfl, rfl⟩
    · refine P_tblIn X 88 dX8_told_1 (by decide) (by decide) rfl rfl ?_
      refine P_aload0 X 89 dX8_told_88 rfl ?_
      refine gX_0_7 X 92 dX8_told_89 rfl fl_X8_58 ?_
      refine V0r X 8 95 dX8_told_92 rfl lk_X8_297 mv_X5_allClosed rfl (by omega) (Nat.le_of_ble_eq_true rfl) (Nat.le_of_ble_eq_true rfl) rfl rfl (k_X5_allClosed (by omega)) ?_
      exact P_iret X hQ dX8_told_95 ⟨rfl, rfl⟩
    · refine P_tblIn X 96 dX8_told_1 (by decide) (by decide) rfl rfl ?_
      refine P_aload0 X 97 dX8_told_96 rfl ?_
      refine gX_0_0 X 100 dX8_told_97 rfl fl_X8_10 ?_
      refine V0r X 1 103 dX8_told_100 rfl lk_X8_300 mv_X0_latestDay rfl (by omega) (Nat.le_of_ble_eq_true rfl) (Nat.le_of_ble_eq_true rfl) rfl rfl (k_X0_latestDay (by omega) hc hn) ?_
      exact P_iret X hQ dX8_told_103 ⟨rfl, rfl⟩
    · refine P_tblIn X 104 dX8_told_1 (by decide) (by decide) rfl rfl ?_
      refine P_aload0 X 105 dX8_told_104 rfl ?_
      refine gX_0_11 X 108 dX8_told_105 rfl fl_X8_75 ?_
      exact P_iret X hQ dX8_told_108 ⟨rfl, rfl⟩
  · rw [if_neg hb7, if_neg hb7] at hQ
    have hout : w.toInt < 0 ∨ 7 < w.toInt := by
      rcases Int.lt_or_le w.toInt 0 with z | z
      · exact Or.inl z
      · rcases Int.lt_or_le 7 w.toInt with z2 | z2
        · exact Or.inr z2
        · exact absurd (inB_iff.mpr ⟨Int32.le_iff_toInt_le.mpr (show (0 : Int32).toInt ≤ w.toInt from z), Int32.le_iff_toInt_le.mpr (show w.toInt ≤ (7 : Int32).toInt from z2)⟩) hb7
    refine P_tblOut X 109 dX8_told_1 hout rfl ?_
    refine P_aload0 X 110 dX8_told_109 rfl ?_
    refine P_ldc X kc_X8_90 112 dX8_told_110 rfl ?_
    refine V1r X 0 115 dX8_told_112 rfl lk_X8_91 mv_X8_finding rfl (by omega) (Nat.le_of_ble_eq_true rfl) (Nat.le_of_ble_eq_true rfl) rfl rfl (k_X8_finding (by omega)) ?_
    exact P_iret X hQ dX8_told_115 ⟨rfl, rfl⟩
set_option maxHeartbeats 4000000 in
set_option maxRecDepth 100000 in
theorem k_X9_told {d : Nat} {E : Ev} {n nT : Nat} {w : Int32} {h : Hp} (hd : 1 ≤ d) (hc : h 0 1 = nI n) (hn : n ≤ 40) (hT : h 0 10 = nI nT) (hnT : nT ≤ 40) : Cl d yX9_told cX9_told 2 (some .int) E (wdY E) [.ref (E.2.2.1 0), .int w] h (Rt (some (.int (if inB w 0 7 then dt5 w (h 0 1) (h 0 10) (nI (cnt (fun o => !decide (h 10 o = 0)) nT)) (h 0 19) (h 0 17) (smI (h 18) 6) (latF (h 5) n) (h 0 0) else -1000001))) (if inB w 0 7 then h else fiY h)) := by
  refine Cl_of [some (.ref (E.2.2.1 0)), some (.int w)] (by decide) rfl (Nat.le_of_ble_eq_true rfl) (fun K A X hQ => ?_)
  refine P_iload1 X 1 dX9_told_0 rfl ?_
  by_cases hb7 : inB w 0 7 = true
  · obtain ⟨j9, hj9, rfl⟩ := inB_ex 7 hb7
    rw [if_pos hb7, if_pos hb7] at hQ
    rcases (show j9 = 0 ∨ j9 = 1 ∨ j9 = 2 ∨ j9 = 3 ∨ j9 = 4 ∨ j9 = 5 ∨ j9 = 6 ∨ j9 = 7 by omega) with rfl | rfl | rfl | rfl | rfl | rfl | rfl | rfl
    · refine P_tblIn X 48 dX9_told_1 (by decide) (by decide) rfl rfl ?_
      refine P_aload0 X 49 dX9_told_48 rfl ?_
      refine gY_0_1 X 52 dX9_told_49 rfl fl_X9_115 ?_
      exact P_iret X hQ dX9_told_52 ⟨rfl, rfl⟩
    · refine P_tblIn X 53 dX9_told_1 (by decide) (by decide) rfl rfl ?_
      refine P_aload0 X 54 dX9_told_53 rfl ?_
      refine gY_0_10 X 57 dX9_told_54 rfl fl_X9_118 ?_
      exact P_iret X hQ dX9_told_57 ⟨rfl, rfl⟩
    · refine P_tblIn X 58 dX9_told_1 (by decide) (by decide) rfl rfl ?_
      refine P_aload0 X 59 dX9_told_58 rfl ?_
      refine V0r X 0 62 dX9_told_59 rfl lk_X9_227 mv_X9_openMany rfl (by omega) (Nat.le_of_ble_eq_true rfl) (Nat.le_of_ble_eq_true rfl) rfl rfl (k_X9_openMany (by omega) hT hnT) ?_
      exact P_iret X hQ dX9_told_62 ⟨rfl, rfl⟩
    · refine P_tblIn X 63 dX9_told_1 (by decide) (by decide) rfl rfl ?_
      refine P_aload0 X 64 dX9_told_63 rfl ?_
      refine gY_0_19 X 67 dX9_told_64 rfl fl_X9_179 ?_
      exact P_iret X hQ dX9_told_67 ⟨rfl, rfl⟩
    · refine P_tblIn X 68 dX9_told_1 (by decide) (by decide) rfl rfl ?_
      refine P_aload0 X 69 dX9_told_68 rfl ?_
      refine gY_0_17 X 72 dX9_told_69 rfl fl_X9_170 ?_
      exact P_iret X hQ dX9_told_72 ⟨rfl, rfl⟩
    · refine P_tblIn X 73 dX9_told_1 (by decide) (by decide) rfl rfl ?_
      refine P_aload0 X 74 dX9_told_73 rfl ?_
      refine V0r X 0 77 dX9_told_74 rfl lk_X9_230 mv_X9_allClosings rfl (by omega) (Nat.le_of_ble_eq_true rfl) (Nat.le_of_ble_eq_true rfl) rfl rfl (k_X9_allClosings (by omega)) ?_
      exact P_iret X hQ dX9_told_77 ⟨rfl, rfl⟩
    · refine P_tblIn X 78 dX9_told_1 (by decide) (by decide) rfl rfl ?_
      refine P_aload0 X 79 dX9_told_78 rfl ?_
      refine V0r X 0 82 dX9_told_79 rfl lk_X9_140 mv_X9_latest rfl (by omega) (Nat.le_of_ble_eq_true rfl) (Nat.le_of_ble_eq_true rfl) rfl rfl (k_X9_latest (by omega) hc hn) ?_
      exact P_iret X hQ dX9_told_82 ⟨rfl, rfl⟩
    · refine P_tblIn X 83 dX9_told_1 (by decide) (by decide) rfl rfl ?_
      refine P_aload0 X 84 dX9_told_83 rfl ?_
      refine gY_0_0 X 87 dX9_told_84 rfl fl_X9_107 ?_
      exact P_iret X hQ dX9_told_87 ⟨rfl, rfl⟩
  · rw [if_neg hb7, if_neg hb7] at hQ
    have hout : w.toInt < 0 ∨ 7 < w.toInt := by
      rcases Int.lt_or_le w.toInt 0 with z | z
      · exact Or.inl z
      · rcases Int.lt_or_le 7 w.toInt with z2 | z2
        · exact Or.inr z2
        · exact absurd (inB_iff.mpr ⟨Int32.le_iff_toInt_le.mpr (show (0 : Int32).toInt ≤ w.toInt from z), Int32.le_iff_toInt_le.mpr (show w.toInt ≤ (7 : Int32).toInt from z2)⟩) hb7
    refine P_tblOut X 88 dX9_told_1 hout rfl ?_
    refine P_aload0 X 89 dX9_told_88 rfl ?_
    refine P_ldc X kc_X9_144 91 dX9_told_89 rfl ?_
    refine V1r X 0 94 dX9_told_91 rfl lk_X9_145 mv_X9_finding rfl (by omega) (Nat.le_of_ble_eq_true rfl) (Nat.le_of_ble_eq_true rfl) rfl rfl (k_X9_finding (by omega)) ?_
    exact P_iret X hQ dX9_told_94 ⟨rfl, rfl⟩
