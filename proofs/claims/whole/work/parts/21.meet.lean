/-! small numbers in rows -/
def Bd (f : Nat → Int32) (m : Nat) : Prop := ∀ a, ∃ n, n < m ∧ f a = nI n
theorem Bd_upd {f : Nat → Int32} {m k n : Nat} {v : Int32} (h : Bd f m) (hn : n < m) (hv : v = nI n) : Bd (upd f k v) m := by
  intro a
  by_cases e : a = k
  · subst e
    exact ⟨n, hn, by simp [upd, hv]⟩
  · obtain ⟨n2, h1, h2⟩ := h a
    exact ⟨n2, h1, by simp [upd, e, h2]⟩
theorem Bd_c {f : Nat → Int32} {m : Nat} (h : Bd f m) (hm : m ≤ 2 ^ 31) (a : Nat) : (f a).toNatClampNeg < m ∧ f a = nI (f a).toNatClampNeg := by
  obtain ⟨n, h1, h2⟩ := h a
  have e : (f a).toNatClampNeg = n := by rw [h2]; exact nI_clamp (by omega)
  rw [e]
  exact ⟨h1, h2⟩
theorem nI_sub_neg {m n : Nat} (h : m < n) (hn : n < 2 ^ 30) : nI m - nI n < 0 := pk_sneg hn h
theorem absI_e {a b : Int32} (ha : ∃ n, n < 1024 ∧ a = nI n) (hb : ∃ n, n < 1024 ∧ b = nI n) : absI (a - b) = awy a b := by
  obtain ⟨m, h1, rfl⟩ := ha
  obtain ⟨n, h2, rfl⟩ := hb
  by_cases h : m < n
  · have h3 : nI m < nI n := nI_lt h (by omega)
    have h4 : nI m - nI n < 0 := pk_sneg (by omega) h
    rw [absI, awy, if_pos h3, if_neg (Int32.not_le.mpr h4)]
    simp
  · have h3 : ¬ nI m < nI n := nI_nlt (by omega) (by omega)
    have h4 : nI m - nI n = nI (m - n) := pk_sub (by omega)
    have h5 : (0 : Int32) ≤ nI m - nI n := by rw [h4]; exact nI_pos' (by omega)
    rw [absI, awy, if_neg h3, if_pos h5]
theorem Bd_le {f : Nat → Int32} {m k : Nat} (h : Bd f m) (hm : m ≤ k) (a : Nat) : ∃ n, n < k ∧ f a = nI n := by
  obtain ⟨n, h1, h2⟩ := h a
  exact ⟨n, by omega, h2⟩
/-- the rows of asks and of marks hold what they may -/
def AB (kd xs ys db dy nr ap : Nat → Int32) : Prop := Bd kd 5 ∧ Bd xs 32 ∧ Bd ys 32 ∧ Bd db 10 ∧ Bd dy 1000 ∧ Bd nr 21 ∧ Bd ap 100
def mtB (kd xs ys db dy nr ap : Nat → Int32) (a b : Nat) : Bool := decide (kd a = kd b) && (decide (awy (xs a) (xs b) + awy (ys a) (ys b) ≤ nr (kd a).toNatClampNeg + db a + db b) && decide (awy (dy a) (dy b) ≤ ap (kd a).toNatClampNeg))
theorem dec_gt {x y : Int32} (h : y < x) : decide (x ≤ y) = false := decide_eq_false (Int32.not_le.mpr h)
theorem dec_ngt {x y : Int32} (h : ¬ y < x) : decide (x ≤ y) = true := decide_eq_true (Int32.not_lt.mp h)

set_option maxHeartbeats 4000000 in
set_option maxRecDepth 100000 in
theorem k_X0_areMeeting {d : Nat} {E : Ev} {a b : Nat} {h : Hp} (hd : 2 ≤ d) (ha : a < 40) (hb : b < 40) (hB : AB (h 12) (h 13) (h 14) (h 15) (h 16) (h 18) (h 19)) : Cl d yX0_areMeeting cX0_areMeeting 4 (some .boolean) E (wdX E) [.ref (E.2.2.1 1), .int (nI a), .int (nI b)] h (Rt (some (.int (bI (mtB (h 12) (h 13) (h 14) (h 15) (h 16) (h 18) (h 19) a b)))) h) := by
  refine Cl_of [some (.ref (E.2.2.1 1)), some (.int (nI a)), some (.int (nI b)), none] (by decide) rfl (Nat.le_of_ble_eq_true rfl) (fun K A X hQ => ?_)
  obtain ⟨ka, hka, eka⟩ := hB.1 a
  have hk31 : ka < 2 ^ 31 := by omega
  have ex := absI_e (Bd_le hB.2.1 (by omega : 32 ≤ 1024) a) (Bd_le hB.2.1 (by omega : 32 ≤ 1024) b)
  have ey := absI_e (Bd_le hB.2.2.1 (by omega : 32 ≤ 1024) a) (Bd_le hB.2.2.1 (by omega : 32 ≤ 1024) b)
  have ez := absI_e (Bd_le hB.2.2.2.2.1 (by omega : 1000 ≤ 1024) a) (Bd_le hB.2.2.2.2.1 (by omega : 1000 ≤ 1024) b)
  refine P_aload0 X 1 dX0_areMeeting_0 rfl ?_
  refine gX_1_0 X 4 dX0_areMeeting_1 rfl fl_X0_9 ?_
  refine P_iload1 X 5 dX0_areMeeting_4 rfl ?_
  refine lX_12 X 6 dX0_areMeeting_5 rfl rfl (by omega) ?_
  refine P_aload0 X 7 dX0_areMeeting_6 rfl ?_
  refine gX_1_0 X 10 dX0_areMeeting_7 rfl fl_X0_9 ?_
  refine P_iload2 X 11 dX0_areMeeting_10 rfl ?_
  refine lX_12 X 12 dX0_areMeeting_11 rfl rfl (by omega) ?_
  refine P_icmp_eq X 17 15 dX0_areMeeting_12 rfl rfl (fun b12 => ?_) (fun b12 => ?_)
  · refine P_aload0 X 18 dX0_areMeeting_17 rfl ?_
    refine gX_1_6 X 21 dX0_areMeeting_18 rfl fl_X0_30 ?_
    refine P_aload0 X 22 dX0_areMeeting_21 rfl ?_
    refine gX_1_0 X 25 dX0_areMeeting_22 rfl fl_X0_9 ?_
    refine P_iload1 X 26 dX0_areMeeting_25 rfl ?_
    refine lX_12 X 27 dX0_areMeeting_26 rfl rfl (by omega) ?_
    refine lX_18 X 28 dX0_areMeeting_27 rfl eka hka ?_
    refine P_aload0 X 29 dX0_areMeeting_28 rfl ?_
    refine gX_1_3 X 32 dX0_areMeeting_29 rfl fl_X0_21 ?_
    refine P_iload1 X 33 dX0_areMeeting_32 rfl ?_
    refine lX_15 X 34 dX0_areMeeting_33 rfl rfl (by omega) ?_
    refine P_iadd X 35 dX0_areMeeting_34 rfl ?_
    refine P_aload0 X 36 dX0_areMeeting_35 rfl ?_
    refine gX_1_3 X 39 dX0_areMeeting_36 rfl fl_X0_21 ?_
    refine P_iload2 X 40 dX0_areMeeting_39 rfl ?_
    refine lX_15 X 41 dX0_areMeeting_40 rfl rfl (by omega) ?_
    refine P_iadd X 42 dX0_areMeeting_41 rfl ?_
    refine P_istore3 X 43 dX0_areMeeting_42 rfl (by decide) rfl ?_
    refine P_aload0 X 44 dX0_areMeeting_43 rfl ?_
    refine gX_1_1 X 47 dX0_areMeeting_44 rfl fl_X0_15 ?_
    refine P_iload1 X 48 dX0_areMeeting_47 rfl ?_
    refine lX_13 X 49 dX0_areMeeting_48 rfl rfl (by omega) ?_
    refine P_aload0 X 50 dX0_areMeeting_49 rfl ?_
    refine gX_1_2 X 53 dX0_areMeeting_50 rfl fl_X0_18 ?_
    refine P_iload1 X 54 dX0_areMeeting_53 rfl ?_
    refine lX_14 X 55 dX0_areMeeting_54 rfl rfl (by omega) ?_
    refine P_aload0 X 56 dX0_areMeeting_55 rfl ?_
    refine gX_1_1 X 59 dX0_areMeeting_56 rfl fl_X0_15 ?_
    refine P_iload2 X 60 dX0_areMeeting_59 rfl ?_
    refine lX_13 X 61 dX0_areMeeting_60 rfl rfl (by omega) ?_
    refine P_aload0 X 62 dX0_areMeeting_61 rfl ?_
    refine gX_1_2 X 65 dX0_areMeeting_62 rfl fl_X0_18 ?_
    refine P_iload2 X 66 dX0_areMeeting_65 rfl ?_
    refine lX_14 X 67 dX0_areMeeting_66 rfl rfl (by omega) ?_
    refine S4r X 70 dX0_areMeeting_67 rfl lk_X0_40 ms_X8_far rfl (by omega) (Nat.le_of_ble_eq_true rfl) (k_X8_far (by omega)) ?_
    rw [ex, ey]
    refine P_iload3 X 71 dX0_areMeeting_70 rfl ?_
    refine P_icmp_gt X 108 74 dX0_areMeeting_71 rfl rfl (fun b71 => ?_) (fun b71 => ?_)
    · refine P_iconst X (0) rfl 109 dX0_areMeeting_108 rfl ?_
      have eM : mtB (h 12) (h 13) (h 14) (h 15) (h 16) (h 18) (h 19) a b = (decide (awy (h 13 a) (h 13 b) + awy (h 14 a) (h 14 b) ≤ h 18 ka + h 15 a + h 15 b) && decide (awy (h 16 a) (h 16 b) ≤ h 19 ka)) := by
        simp only [mtB]
        rw [decide_eq_true b12, eka, nI_clamp hk31]
        rfl
      exact P_zret X hQ dX0_areMeeting_109 (Or.inl rfl) (rt0 (by rw [eM, dec_gt b71]; rfl))
    · refine P_aload0 X 75 dX0_areMeeting_74 rfl ?_
      refine gX_1_4 X 78 dX0_areMeeting_75 rfl fl_X0_24 ?_
      refine P_iload1 X 79 dX0_areMeeting_78 rfl ?_
      refine lX_16 X 80 dX0_areMeeting_79 rfl rfl (by omega) ?_
      refine P_aload0 X 81 dX0_areMeeting_80 rfl ?_
      refine gX_1_4 X 84 dX0_areMeeting_81 rfl fl_X0_24 ?_
      refine P_iload2 X 85 dX0_areMeeting_84 rfl ?_
      refine lX_16 X 86 dX0_areMeeting_85 rfl rfl (by omega) ?_
      refine P_isub X 87 dX0_areMeeting_86 rfl ?_
      refine P_abs X 90 dX0_areMeeting_87 rfl la_X0_44 ja_st ja_ini ja_co (by omega) (Nat.le_of_ble_eq_true rfl) ?_
      refine P_top ez ?_
      refine P_aload0 X 91 dX0_areMeeting_90 rfl ?_
      refine gX_1_7 X 94 dX0_areMeeting_91 rfl fl_X0_33 ?_
      refine P_aload0 X 95 dX0_areMeeting_94 rfl ?_
      refine gX_1_0 X 98 dX0_areMeeting_95 rfl fl_X0_9 ?_
      refine P_iload1 X 99 dX0_areMeeting_98 rfl ?_
      refine lX_12 X 100 dX0_areMeeting_99 rfl rfl (by omega) ?_
      refine lX_19 X 101 dX0_areMeeting_100 rfl eka hka ?_
      refine P_icmp_gt X 108 104 dX0_areMeeting_101 rfl rfl (fun b101 => ?_) (fun b101 => ?_)
      · refine P_iconst X (0) rfl 109 dX0_areMeeting_108 rfl ?_
        have eM : mtB (h 12) (h 13) (h 14) (h 15) (h 16) (h 18) (h 19) a b = (decide (awy (h 13 a) (h 13 b) + awy (h 14 a) (h 14 b) ≤ h 18 ka + h 15 a + h 15 b) && decide (awy (h 16 a) (h 16 b) ≤ h 19 ka)) := by
          simp only [mtB]
          rw [decide_eq_true b12, eka, nI_clamp hk31]
          rfl
        exact P_zret X hQ dX0_areMeeting_109 (Or.inl rfl) (rt0 (by rw [eM, dec_gt b101, Bool.and_false]))
      · refine P_iconst X (1) rfl 105 dX0_areMeeting_104 rfl ?_
        refine P_goto X 109 dX0_areMeeting_105 rfl ?_
        have eM : mtB (h 12) (h 13) (h 14) (h 15) (h 16) (h 18) (h 19) a b = (decide (awy (h 13 a) (h 13 b) + awy (h 14 a) (h 14 b) ≤ h 18 ka + h 15 a + h 15 b) && decide (awy (h 16 a) (h 16 b) ≤ h 19 ka)) := by
          simp only [mtB]
          rw [decide_eq_true b12, eka, nI_clamp hk31]
          rfl
        exact P_zret X hQ dX0_areMeeting_109 (Or.inr rfl) (rt1 (by rw [eM, dec_ngt b71, dec_ngt b101]; rfl))
  · refine P_iconst X (0) rfl 16 dX0_areMeeting_15 rfl ?_
    exact P_zret X hQ dX0_areMeeting_16 (Or.inl rfl) (rt0 (by simp only [mtB]; rw [decide_eq_false b12]; rfl))
set_option maxHeartbeats 4000000 in
set_option maxRecDepth 100000 in
theorem k_X9_doMeet {d : Nat} {E : Ev} {a b : Nat} {h : Hp} (hd : 1 ≤ d) (ha : a < 40) (hb : b < 40) (hB : AB (h 1) (h 2) (h 3) (h 4) (h 5) (h 7) (h 8)) : Cl d yX9_doMeet cX9_doMeet 5 (some .boolean) E (wdY E) [.ref (E.2.2.1 0), .int (nI a), .int (nI b)] h (Rt (some (.int (bI (mtB (h 1) (h 2) (h 3) (h 4) (h 5) (h 7) (h 8) a b)))) h) := by
  refine Cl_of [some (.ref (E.2.2.1 0)), some (.int (nI a)), some (.int (nI b)), none, none] (by decide) rfl (Nat.le_of_ble_eq_true rfl) (fun K A X hQ => ?_)
  obtain ⟨ka, hka, eka⟩ := hB.1 a
  have hk31 : ka < 2 ^ 31 := by omega
  refine P_aload0 X 1 dX9_doMeet_0 rfl ?_
  refine gY_0_2 X 4 dX9_doMeet_1 rfl fl_X9_7 ?_
  refine P_iload1 X 5 dX9_doMeet_4 rfl ?_
  refine lY_1 X 6 dX9_doMeet_5 rfl rfl (by omega) ?_
  refine P_istore3 X 7 dX9_doMeet_6 rfl (by decide) rfl ?_
  refine P_aload0 X 8 dX9_doMeet_7 rfl ?_
  refine gY_0_3 X 11 dX9_doMeet_8 rfl fl_X9_13 ?_
  refine P_iload1 X 12 dX9_doMeet_11 rfl ?_
  refine lY_2 X 13 dX9_doMeet_12 rfl rfl (by omega) ?_
  refine P_aload0 X 14 dX9_doMeet_13 rfl ?_
  refine gY_0_3 X 17 dX9_doMeet_14 rfl fl_X9_13 ?_
  refine P_iload2 X 18 dX9_doMeet_17 rfl ?_
  refine lY_2 X 19 dX9_doMeet_18 rfl rfl (by omega) ?_
  refine S2r X 22 dX9_doMeet_19 rfl lk_X9_125 ms_X9_away rfl (by omega) (Nat.le_of_ble_eq_true rfl) (k_X9_away (by omega)) ?_
  refine P_aload0 X 23 dX9_doMeet_22 rfl ?_
  refine gY_0_4 X 26 dX9_doMeet_23 rfl fl_X9_16 ?_
  refine P_iload1 X 27 dX9_doMeet_26 rfl ?_
  refine lY_3 X 28 dX9_doMeet_27 rfl rfl (by omega) ?_
  refine P_aload0 X 29 dX9_doMeet_28 rfl ?_
  refine gY_0_4 X 32 dX9_doMeet_29 rfl fl_X9_16 ?_
  refine P_iload2 X 33 dX9_doMeet_32 rfl ?_
  refine lY_3 X 34 dX9_doMeet_33 rfl rfl (by omega) ?_
  refine S2r X 37 dX9_doMeet_34 rfl lk_X9_125 ms_X9_away rfl (by omega) (Nat.le_of_ble_eq_true rfl) (k_X9_away (by omega)) ?_
  refine P_iadd X 38 dX9_doMeet_37 rfl ?_
  refine P_istore4 X 40 dX9_doMeet_38 rfl (by decide) rfl ?_
  refine P_iload3 X 41 dX9_doMeet_40 rfl ?_
  refine P_aload0 X 42 dX9_doMeet_41 rfl ?_
  refine gY_0_2 X 45 dX9_doMeet_42 rfl fl_X9_7 ?_
  refine P_iload2 X 46 dX9_doMeet_45 rfl ?_
  refine lY_1 X 47 dX9_doMeet_46 rfl rfl (by omega) ?_
  refine P_icmp_ne X 103 50 dX9_doMeet_47 rfl rfl (fun b47 => ?_) (fun b47 => ?_)
  · refine P_iconst X (0) rfl 104 dX9_doMeet_103 rfl ?_
    have eM : mtB (h 1) (h 2) (h 3) (h 4) (h 5) (h 7) (h 8) a b = (decide (h 1 a = h 1 b) && (decide (awy (h 2 a) (h 2 b) + awy (h 3 a) (h 3 b) ≤ h 7 ka + h 4 a + h 4 b) && decide (awy (h 5 a) (h 5 b) ≤ h 8 ka))) := by
      simp only [mtB]
      rw [show (h 1 a).toNatClampNeg = ka by rw [eka]; exact nI_clamp hk31]
    exact P_zret X hQ dX9_doMeet_104 (Or.inl rfl) (rt0 (by rw [eM, decide_eq_false b47]; rfl))
  · refine P_iload4 X 52 dX9_doMeet_50 rfl ?_
    refine P_aload0 X 53 dX9_doMeet_52 rfl ?_
    refine gY_0_8 X 56 dX9_doMeet_53 rfl fl_X9_28 ?_
    refine P_iload3 X 57 dX9_doMeet_56 rfl ?_
    refine lY_7 X 58 dX9_doMeet_57 rfl eka hka ?_
    refine P_aload0 X 59 dX9_doMeet_58 rfl ?_
    refine gY_0_5 X 62 dX9_doMeet_59 rfl fl_X9_19 ?_
    refine P_iload1 X 63 dX9_doMeet_62 rfl ?_
    refine lY_4 X 64 dX9_doMeet_63 rfl rfl (by omega) ?_
    refine P_iadd X 65 dX9_doMeet_64 rfl ?_
    refine P_aload0 X 66 dX9_doMeet_65 rfl ?_
    refine gY_0_5 X 69 dX9_doMeet_66 rfl fl_X9_19 ?_
    refine P_iload2 X 70 dX9_doMeet_69 rfl ?_
    refine lY_4 X 71 dX9_doMeet_70 rfl rfl (by omega) ?_
    refine P_iadd X 72 dX9_doMeet_71 rfl ?_
    refine P_icmp_gt X 103 75 dX9_doMeet_72 rfl rfl (fun b72 => ?_) (fun b72 => ?_)
    · refine P_iconst X (0) rfl 104 dX9_doMeet_103 rfl ?_
      have eM : mtB (h 1) (h 2) (h 3) (h 4) (h 5) (h 7) (h 8) a b = (decide (h 1 a = h 1 b) && (decide (awy (h 2 a) (h 2 b) + awy (h 3 a) (h 3 b) ≤ h 7 ka + h 4 a + h 4 b) && decide (awy (h 5 a) (h 5 b) ≤ h 8 ka))) := by
        simp only [mtB]
        rw [show (h 1 a).toNatClampNeg = ka by rw [eka]; exact nI_clamp hk31]
      exact P_zret X hQ dX9_doMeet_104 (Or.inl rfl) (rt0 (by rw [eM, dec_gt b72]; simp))
    · refine P_aload0 X 76 dX9_doMeet_75 rfl ?_
      refine gY_0_6 X 79 dX9_doMeet_76 rfl fl_X9_22 ?_
      refine P_iload1 X 80 dX9_doMeet_79 rfl ?_
      refine lY_5 X 81 dX9_doMeet_80 rfl rfl (by omega) ?_
      refine P_aload0 X 82 dX9_doMeet_81 rfl ?_
      refine gY_0_6 X 85 dX9_doMeet_82 rfl fl_X9_22 ?_
      refine P_iload2 X 86 dX9_doMeet_85 rfl ?_
      refine lY_5 X 87 dX9_doMeet_86 rfl rfl (by omega) ?_
      refine S2r X 90 dX9_doMeet_87 rfl lk_X9_125 ms_X9_away rfl (by omega) (Nat.le_of_ble_eq_true rfl) (k_X9_away (by omega)) ?_
      refine P_aload0 X 91 dX9_doMeet_90 rfl ?_
      refine gY_0_9 X 94 dX9_doMeet_91 rfl fl_X9_31 ?_
      refine P_iload3 X 95 dX9_doMeet_94 rfl ?_
      refine lY_8 X 96 dX9_doMeet_95 rfl eka hka ?_
      refine P_icmp_gt X 103 99 dX9_doMeet_96 rfl rfl (fun b96 => ?_) (fun b96 => ?_)
      · refine P_iconst X (0) rfl 104 dX9_doMeet_103 rfl ?_
        have eM : mtB (h 1) (h 2) (h 3) (h 4) (h 5) (h 7) (h 8) a b = (decide (h 1 a = h 1 b) && (decide (awy (h 2 a) (h 2 b) + awy (h 3 a) (h 3 b) ≤ h 7 ka + h 4 a + h 4 b) && decide (awy (h 5 a) (h 5 b) ≤ h 8 ka))) := by
          simp only [mtB]
          rw [show (h 1 a).toNatClampNeg = ka by rw [eka]; exact nI_clamp hk31]
        exact P_zret X hQ dX9_doMeet_104 (Or.inl rfl) (rt0 (by rw [eM, dec_gt b96]; simp))
      · refine P_iconst X (1) rfl 100 dX9_doMeet_99 rfl ?_
        refine P_goto X 104 dX9_doMeet_100 rfl ?_
        have eM : mtB (h 1) (h 2) (h 3) (h 4) (h 5) (h 7) (h 8) a b = (decide (h 1 a = h 1 b) && (decide (awy (h 2 a) (h 2 b) + awy (h 3 a) (h 3 b) ≤ h 7 ka + h 4 a + h 4 b) && decide (awy (h 5 a) (h 5 b) ≤ h 8 ka))) := by
          simp only [mtB]
          rw [show (h 1 a).toNatClampNeg = ka by rw [eka]; exact nI_clamp hk31]
        exact P_zret X hQ dX9_doMeet_104 (Or.inr rfl) (rt1 (by rw [eM, decide_eq_true b47, dec_ngt b72, dec_ngt b96]; rfl))
