abbrev tn (x : Int32) : Nat := x.toNatClampNeg
def fiX (h : Hp) : Hp := put h 0 11 (h 0 11 + 1)
def fiY (h : Hp) : Hp := put h 0 0 (h 0 0 + 1)
theorem inB_ex {v : Int32} (k : Nat) (b : inB v 0 (nI k) = true) (hk : k < 2 ^ 31 := by decide) : ∃ m, m < k + 1 ∧ v = nI m := by
  obtain ⟨h1, h2⟩ := inB_iff.mp b
  obtain ⟨j, hj, e⟩ := nI_of (Int32.not_lt.mpr h1)
  subst e
  exact ⟨j, by have := (nI_leI hj hk).mp h2; omega, rfl⟩
theorem inB_ix {v x : Int32} {n : Nat} (hc : x = nI n) (b : inB v 0 (x - 1) = true) (hn : n ≤ 40) : ∃ m, m < n ∧ v = nI m := by
  subst hc
  obtain ⟨h1, h2⟩ := inB_iff.mp b
  obtain ⟨j, hj, e⟩ := nI_of (Int32.not_lt.mpr h1)
  subst e
  by_cases h0 : n = 0
  · subst h0
    exact absurd h2 (Int32.not_le.mpr (by
      have : (nI 0 - 1 : Int32) < 0 := by decide
      exact Int32.lt_of_lt_of_le this h1))
  · rw [show nI n - 1 = nI (n - 1) from pk_sub (b := 1) (by omega)] at h2
    exact ⟨j, by have := (nI_leI hj (by omega)).mp h2; omega, rfl⟩
theorem QA_of {k x y b t : Int32} (h1 : inB k 0 4 = true) (h2 : inB x 0 31 = true) (h3 : inB y 0 31 = true) (h4 : inB b 0 9 = true) (h5 : inB t 0 999 = true) : QA k x y b t := ⟨inB_ex 4 h1, inB_ex 31 h2, inB_ex 31 h3, inB_ex 9 h4, inB_ex 999 h5⟩
def okAsk (dy : Nat → Int32) (n : Nat) (k x y b t : Int32) : Bool := inB k 0 4 && (inB x 0 31 && inB y 0 31) && inB b 0 9 && (inB t 0 999 && decide (latF dy n ≤ t))

theorem lt40 {x : Int32} {n : Nat} (hc : x = nI n) (hn : n ≤ 40) (b : x < 40) : n < 40 := (nI_ltI (by omega) (by decide)).mp (by rw [hc] at b; exact b)
theorem nlt40 {x : Int32} {n : Nat} (hc : x = nI n) (b : ¬ x < 40) : ¬ n < 40 := fun z => b (by rw [hc]; exact nI_lt z (by decide))
theorem ne40 {x : Int32} {n : Nat} (hc : x = nI n) (hn : n ≤ 40) (b : ¬ x = 40) : n < 40 := by
  have : n ≠ 40 := fun z => b (by rw [hc, z]; rfl)
  omega
theorem eq40 {x : Int32} {n : Nat} (hc : x = nI n) (hn : n ≤ 40) (b : x = 40) : ¬ n < 40 := by
  have := (nI_eq (a := n) (b := 40) (by omega) (by decide)).mp (by rw [← hc]; exact b)
  omega

set_option maxHeartbeats 4000000 in
set_option maxRecDepth 100000 in
theorem k_X8_canComeOn {d : Nat} {E : Ev} {n : Nat} {t : Int32} {h : Hp} (hd : 2 ≤ d) (hc : h 1 8 = nI n) (hn : n ≤ 40) : Cl d yX8_canComeOn cX8_canComeOn 2 (some .boolean) E (wdX E) [.ref (E.2.2.1 0), .int t] h (Rt (some (.int (bI (inB t 0 999 && decide (latF (h 16) n ≤ t))))) h) := by
  refine Cl_of [some (.ref (E.2.2.1 0)), some (.int t)] (by decide) rfl (Nat.le_of_ble_eq_true rfl) (fun K A X hQ => ?_)
  refine P_iload1 X 1 dX8_canComeOn_0 rfl ?_
  refine S1r X 4 dX8_canComeOn_1 rfl lk_X8_191 ms_X8_isDay rfl (by omega) (Nat.le_of_ble_eq_true rfl) (k_X8_isDay (by omega)) ?_
  refine P_bz X 22 7 dX8_canComeOn_4 rfl rfl (fun b4 => ?_) (fun b4 => ?_)
  · refine P_iconst X (0) rfl 23 dX8_canComeOn_22 rfl ?_
    exact P_zret X hQ dX8_canComeOn_23 (Or.inl rfl) (rt0 (by simp [b4]))
  · refine P_iload1 X 8 dX8_canComeOn_7 rfl ?_
    refine P_aload0 X 9 dX8_canComeOn_8 rfl ?_
    refine gX_0_0 X 12 dX8_canComeOn_9 rfl fl_X8_10 ?_
    refine V0r X 1 15 dX8_canComeOn_12 rfl lk_X8_300 mv_X0_latestDay rfl (by omega) (Nat.le_of_ble_eq_true rfl) (Nat.le_of_ble_eq_true rfl) rfl rfl (k_X0_latestDay (by omega) hc hn) ?_
    refine P_icmp_lt X 22 18 dX8_canComeOn_15 rfl rfl (fun b15 => ?_) (fun b15 => ?_)
    · refine P_iconst X (0) rfl 23 dX8_canComeOn_22 rfl ?_
      exact P_zret X hQ dX8_canComeOn_23 (Or.inl rfl) (rt0 (by simp [b4]; exact b15))
    · refine P_iconst X (1) rfl 19 dX8_canComeOn_18 rfl ?_
      refine P_goto X 23 dX8_canComeOn_19 rfl ?_
      exact P_zret X hQ dX8_canComeOn_23 (Or.inr rfl) (rt1 (by simp [b4]; exact Int32.not_lt.mp b15))
set_option maxHeartbeats 4000000 in
set_option maxRecDepth 100000 in
theorem k_X8_ask {d : Nat} {E : Ev} {n nT : Nat} {k x y db dy : Int32} {h : Hp} (hd : 7 ≤ d) (hc : h 1 8 = nI n) (hn : n ≤ 40) (hT : h 2 6 = nI nT) (hnT : nT ≤ n) (hB : AB (h 12) (h 13) (h 14) (h 15) (h 16) (h 18) (h 19)) : Cl d yX8_ask cX8_ask 7 (some .int) E (wdX E) [.ref (E.2.2.1 0), .int k, .int x, .int y, .int db, .int dy] h (Rt (some (.int (if okAsk (h 16) n k x y db dy then (if n < 40 then nI (newT (h 12) (h 13) (h 14) (h 15) (h 16) (h 18) (h 19) (h 17) (h 21) n nT k x y db dy) else -1000002) else -1000001))) (if okAsk (h 16) n k x y db dy then (if n < 40 then joinH h n nT k x y db dy (newT (h 12) (h 13) (h 14) (h 15) (h 16) (h 18) (h 19) (h 17) (h 21) n nT k x y db dy) else fiX h) else fiX h)) := by
  refine Cl_of [some (.ref (E.2.2.1 0)), some (.int k), some (.int x), some (.int y), some (.int db), some (.int dy), none] (by decide) rfl (Nat.le_of_ble_eq_true rfl) (fun K A X hQ => ?_)
  refine P_iload2 X 1 dX8_ask_0 rfl ?_
  refine P_iconst X (0) rfl 2 dX8_ask_1 rfl ?_
  refine P_bipush X (31) rfl 4 dX8_ask_2 rfl ?_
  refine S3r X 7 dX8_ask_4 rfl lk_X8_79 ms_X8_within rfl (by omega) (Nat.le_of_ble_eq_true rfl) (k_X8_within (by omega)) ?_
  refine P_bz X 24 10 dX8_ask_7 rfl rfl (fun b7 => ?_) (fun b7 => ?_)
  · refine P_iconst X (0) rfl 25 dX8_ask_24 rfl ?_
    refine P_istore6 X 27 dX8_ask_25 rfl (by decide) rfl ?_
    refine P_iload1 X 28 dX8_ask_27 rfl ?_
    refine S1r X 31 dX8_ask_28 rfl lk_X8_83 ms_X8_isKind rfl (by omega) (Nat.le_of_ble_eq_true rfl) (k_X8_isKind (by omega)) ?_
    refine P_bz X 59 34 dX8_ask_31 rfl rfl (fun b31 => ?_) (fun b31 => ?_)
    · refine P_aload0 X 60 dX8_ask_59 rfl ?_
      refine P_ldc X kc_X8_90 62 dX8_ask_60 rfl ?_
      refine V1r X 0 65 dX8_ask_62 rfl lk_X8_91 mv_X8_finding rfl (by omega) (Nat.le_of_ble_eq_true rfl) (Nat.le_of_ble_eq_true rfl) rfl rfl (k_X8_finding (by omega)) ?_
      exact P_iret X hQ dX8_ask_65 ⟨by simp [okAsk, b7, b31], by simp [okAsk, b7, b31, fiX]⟩
    · refine P_iload6 X 36 dX8_ask_34 rfl ?_
      refine P_if_eq X 59 39 dX8_ask_36 rfl rfl (fun b36 => ?_) (fun b36 => ?_)
      · refine P_aload0 X 60 dX8_ask_59 rfl ?_
        refine P_ldc X kc_X8_90 62 dX8_ask_60 rfl ?_
        refine V1r X 0 65 dX8_ask_62 rfl lk_X8_91 mv_X8_finding rfl (by omega) (Nat.le_of_ble_eq_true rfl) (Nat.le_of_ble_eq_true rfl) rfl rfl (k_X8_finding (by omega)) ?_
        exact P_iret X hQ dX8_ask_65 ⟨by simp [okAsk, b7, b31], by simp [okAsk, b7, b31, fiX]⟩
      · exact absurd rfl b36
  · refine P_iload3 X 11 dX8_ask_10 rfl ?_
    refine P_iconst X (0) rfl 12 dX8_ask_11 rfl ?_
    refine P_bipush X (31) rfl 14 dX8_ask_12 rfl ?_
    refine S3r X 17 dX8_ask_14 rfl lk_X8_79 ms_X8_within rfl (by omega) (Nat.le_of_ble_eq_true rfl) (k_X8_within (by omega)) ?_
    refine P_bz X 24 20 dX8_ask_17 rfl rfl (fun b17 => ?_) (fun b17 => ?_)
    · refine P_iconst X (0) rfl 25 dX8_ask_24 rfl ?_
      refine P_istore6 X 27 dX8_ask_25 rfl (by decide) rfl ?_
      refine P_iload1 X 28 dX8_ask_27 rfl ?_
      refine S1r X 31 dX8_ask_28 rfl lk_X8_83 ms_X8_isKind rfl (by omega) (Nat.le_of_ble_eq_true rfl) (k_X8_isKind (by omega)) ?_
      refine P_bz X 59 34 dX8_ask_31 rfl rfl (fun b31 => ?_) (fun b31 => ?_)
      · refine P_aload0 X 60 dX8_ask_59 rfl ?_
        refine P_ldc X kc_X8_90 62 dX8_ask_60 rfl ?_
        refine V1r X 0 65 dX8_ask_62 rfl lk_X8_91 mv_X8_finding rfl (by omega) (Nat.le_of_ble_eq_true rfl) (Nat.le_of_ble_eq_true rfl) rfl rfl (k_X8_finding (by omega)) ?_
        exact P_iret X hQ dX8_ask_65 ⟨by simp [okAsk, b7, b17, b31], by simp [okAsk, b7, b17, b31, fiX]⟩
      · refine P_iload6 X 36 dX8_ask_34 rfl ?_
        refine P_if_eq X 59 39 dX8_ask_36 rfl rfl (fun b36 => ?_) (fun b36 => ?_)
        · refine P_aload0 X 60 dX8_ask_59 rfl ?_
          refine P_ldc X kc_X8_90 62 dX8_ask_60 rfl ?_
          refine V1r X 0 65 dX8_ask_62 rfl lk_X8_91 mv_X8_finding rfl (by omega) (Nat.le_of_ble_eq_true rfl) (Nat.le_of_ble_eq_true rfl) rfl rfl (k_X8_finding (by omega)) ?_
          exact P_iret X hQ dX8_ask_65 ⟨by simp [okAsk, b7, b17, b31], by simp [okAsk, b7, b17, b31, fiX]⟩
        · exact absurd rfl b36
    · refine P_iconst X (1) rfl 21 dX8_ask_20 rfl ?_
      refine P_goto X 25 dX8_ask_21 rfl ?_
      refine P_istore6 X 27 dX8_ask_25 rfl (by decide) rfl ?_
      refine P_iload1 X 28 dX8_ask_27 rfl ?_
      refine S1r X 31 dX8_ask_28 rfl lk_X8_83 ms_X8_isKind rfl (by omega) (Nat.le_of_ble_eq_true rfl) (k_X8_isKind (by omega)) ?_
      refine P_bz X 59 34 dX8_ask_31 rfl rfl (fun b31 => ?_) (fun b31 => ?_)
      · refine P_aload0 X 60 dX8_ask_59 rfl ?_
        refine P_ldc X kc_X8_90 62 dX8_ask_60 rfl ?_
        refine V1r X 0 65 dX8_ask_62 rfl lk_X8_91 mv_X8_finding rfl (by omega) (Nat.le_of_ble_eq_true rfl) (Nat.le_of_ble_eq_true rfl) rfl rfl (k_X8_finding (by omega)) ?_
        exact P_iret X hQ dX8_ask_65 ⟨by simp [okAsk, b7, b17, b31], by simp [okAsk, b7, b17, b31, fiX]⟩
      · refine P_iload6 X 36 dX8_ask_34 rfl ?_
        refine P_if_eq X 59 39 dX8_ask_36 rfl rfl (fun b36 => ?_) (fun b36 => ?_)
        · exact absurd b36 (by decide)
        · refine P_iload4 X 41 dX8_ask_39 rfl ?_
          refine P_iconst X (0) rfl 42 dX8_ask_41 rfl ?_
          refine P_bipush X (9) rfl 44 dX8_ask_42 rfl ?_
          refine S3r X 47 dX8_ask_44 rfl lk_X8_79 ms_X8_within rfl (by omega) (Nat.le_of_ble_eq_true rfl) (k_X8_within (by omega)) ?_
          refine P_bz X 59 50 dX8_ask_47 rfl rfl (fun b47 => ?_) (fun b47 => ?_)
          · refine P_aload0 X 60 dX8_ask_59 rfl ?_
            refine P_ldc X kc_X8_90 62 dX8_ask_60 rfl ?_
            refine V1r X 0 65 dX8_ask_62 rfl lk_X8_91 mv_X8_finding rfl (by omega) (Nat.le_of_ble_eq_true rfl) (Nat.le_of_ble_eq_true rfl) rfl rfl (k_X8_finding (by omega)) ?_
            exact P_iret X hQ dX8_ask_65 ⟨by simp [okAsk, b7, b17, b31, b47], by simp [okAsk, b7, b17, b31, b47, fiX]⟩
          · refine P_aload0 X 51 dX8_ask_50 rfl ?_
            refine P_iload5 X 53 dX8_ask_51 rfl ?_
            refine V1r X 0 56 dX8_ask_53 rfl lk_X8_87 mv_X8_canComeOn rfl (by omega) (Nat.le_of_ble_eq_true rfl) (Nat.le_of_ble_eq_true rfl) rfl rfl (k_X8_canComeOn (by omega) hc hn) ?_
            refine P_bn X 66 59 dX8_ask_56 rfl rfl (fun b56 => ?_) (fun b56 => ?_)
            · refine P_aload0 X 67 dX8_ask_66 rfl ?_
              refine gX_0_0 X 70 dX8_ask_67 rfl fl_X8_10 ?_
              refine gX_1_8 X 73 dX8_ask_70 rfl fl_X8_95 ?_
              refine P_bipush X (40) rfl 75 dX8_ask_73 rfl ?_
              refine P_icmp_lt X 85 78 dX8_ask_75 rfl rfl (fun b75 => ?_) (fun b75 => ?_)
              · have hz := lt40 hc hn b75
                refine P_aload0 X 86 dX8_ask_85 rfl ?_
                refine P_iload1 X 87 dX8_ask_86 rfl ?_
                refine P_iload2 X 88 dX8_ask_87 rfl ?_
                refine P_iload3 X 89 dX8_ask_88 rfl ?_
                refine P_iload4 X 91 dX8_ask_89 rfl ?_
                refine P_iload5 X 93 dX8_ask_91 rfl ?_
                refine V5r X 0 96 dX8_ask_93 rfl lk_X8_99 mv_X8_join rfl (by omega) (Nat.le_of_ble_eq_true rfl) (Nat.le_of_ble_eq_true rfl) rfl rfl (k_X8_join (by omega) hc hz hT hnT hB (QA_of b31 b7 b17 b47 (Bool.and_eq_true_iff.mp b56).1)) ?_
                exact P_iret X hQ dX8_ask_96 ⟨by simp [okAsk, b7, b17, b31, b47, b56, hz], by simp [okAsk, b7, b17, b31, b47, b56, hz]⟩
              · have hz := nlt40 hc b75
                refine P_aload0 X 79 dX8_ask_78 rfl ?_
                refine P_ldc X kc_X8_98 81 dX8_ask_79 rfl ?_
                refine V1r X 0 84 dX8_ask_81 rfl lk_X8_91 mv_X8_finding rfl (by omega) (Nat.le_of_ble_eq_true rfl) (Nat.le_of_ble_eq_true rfl) rfl rfl (k_X8_finding (by omega)) ?_
                exact P_iret X hQ dX8_ask_84 ⟨by simp [okAsk, b7, b17, b31, b47, b56, hz], by simp [okAsk, b7, b17, b31, b47, b56, hz, fiX]⟩
            · refine P_aload0 X 60 dX8_ask_59 rfl ?_
              refine P_ldc X kc_X8_90 62 dX8_ask_60 rfl ?_
              refine V1r X 0 65 dX8_ask_62 rfl lk_X8_91 mv_X8_finding rfl (by omega) (Nat.le_of_ble_eq_true rfl) (Nat.le_of_ble_eq_true rfl) rfl rfl (k_X8_finding (by omega)) ?_
              exact P_iret X hQ dX8_ask_65 ⟨by simp [okAsk, b7, b17, b31, b47, b56], by simp [okAsk, b7, b17, b31, b47, b56, fiX]⟩
set_option maxHeartbeats 4000000 in
set_option maxRecDepth 100000 in
theorem k_X9_ask {d : Nat} {E : Ev} {n nT : Nat} {k x y db dy : Int32} {h : Hp} (hd : 5 ≤ d) (hc : h 0 1 = nI n) (hn : n ≤ 40) (hT : h 0 10 = nI nT) (hnT : nT ≤ n) (hB : AB (h 1) (h 2) (h 3) (h 4) (h 5) (h 7) (h 8)) (hop : Bd (h 10) 2) : Cl d yX9_ask cX9_ask 6 (some .int) E (wdY E) [.ref (E.2.2.1 0), .int k, .int x, .int y, .int db, .int dy] h (Rt (some (.int (if okAsk (h 5) n k x y db dy then (if n < 40 then nI (newT (h 1) (h 2) (h 3) (h 4) (h 5) (h 7) (h 8) (h 6) (h 10) n nT k x y db dy) else -1000002) else -1000001))) (if okAsk (h 5) n k x y db dy then (if n < 40 then comeY h n nT k x y db dy (newT (h 1) (h 2) (h 3) (h 4) (h 5) (h 7) (h 8) (h 6) (h 10) n nT k x y db dy) else fiY h) else fiY h)) := by
  refine Cl_of [some (.ref (E.2.2.1 0)), some (.int k), some (.int x), some (.int y), some (.int db), some (.int dy)] (by decide) rfl (Nat.le_of_ble_eq_true rfl) (fun K A X hQ => ?_)
  refine P_iload1 X 1 dX9_ask_0 rfl ?_
  refine S1r X 4 dX9_ask_1 rfl lk_X9_133 ms_X9_isKind rfl (by omega) (Nat.le_of_ble_eq_true rfl) (k_X9_isKind (by omega)) ?_
  refine P_bz X 55 7 dX9_ask_4 rfl rfl (fun b4 => ?_) (fun b4 => ?_)
  · refine P_aload0 X 56 dX9_ask_55 rfl ?_
    refine P_ldc X kc_X9_144 58 dX9_ask_56 rfl ?_
    refine V1r X 0 61 dX9_ask_58 rfl lk_X9_145 mv_X9_finding rfl (by omega) (Nat.le_of_ble_eq_true rfl) (Nat.le_of_ble_eq_true rfl) rfl rfl (k_X9_finding (by omega)) ?_
    exact P_iret X hQ dX9_ask_61 ⟨by simp [okAsk, b4], by simp [okAsk, b4, fiY]⟩
  · refine P_iload2 X 8 dX9_ask_7 rfl ?_
    refine P_iconst X (0) rfl 9 dX9_ask_8 rfl ?_
    refine P_bipush X (31) rfl 11 dX9_ask_9 rfl ?_
    refine S3r X 14 dX9_ask_11 rfl lk_X9_111 ms_X9_in rfl (by omega) (Nat.le_of_ble_eq_true rfl) (k_X9_in (by omega)) ?_
    refine P_bz X 55 17 dX9_ask_14 rfl rfl (fun b14 => ?_) (fun b14 => ?_)
    · refine P_aload0 X 56 dX9_ask_55 rfl ?_
      refine P_ldc X kc_X9_144 58 dX9_ask_56 rfl ?_
      refine V1r X 0 61 dX9_ask_58 rfl lk_X9_145 mv_X9_finding rfl (by omega) (Nat.le_of_ble_eq_true rfl) (Nat.le_of_ble_eq_true rfl) rfl rfl (k_X9_finding (by omega)) ?_
      exact P_iret X hQ dX9_ask_61 ⟨by simp [okAsk, b4, b14], by simp [okAsk, b4, b14, fiY]⟩
    · refine P_iload3 X 18 dX9_ask_17 rfl ?_
      refine P_iconst X (0) rfl 19 dX9_ask_18 rfl ?_
      refine P_bipush X (31) rfl 21 dX9_ask_19 rfl ?_
      refine S3r X 24 dX9_ask_21 rfl lk_X9_111 ms_X9_in rfl (by omega) (Nat.le_of_ble_eq_true rfl) (k_X9_in (by omega)) ?_
      refine P_bz X 55 27 dX9_ask_24 rfl rfl (fun b24 => ?_) (fun b24 => ?_)
      · refine P_aload0 X 56 dX9_ask_55 rfl ?_
        refine P_ldc X kc_X9_144 58 dX9_ask_56 rfl ?_
        refine V1r X 0 61 dX9_ask_58 rfl lk_X9_145 mv_X9_finding rfl (by omega) (Nat.le_of_ble_eq_true rfl) (Nat.le_of_ble_eq_true rfl) rfl rfl (k_X9_finding (by omega)) ?_
        exact P_iret X hQ dX9_ask_61 ⟨by simp [okAsk, b4, b14, b24], by simp [okAsk, b4, b14, b24, fiY]⟩
      · refine P_iload4 X 29 dX9_ask_27 rfl ?_
        refine P_iconst X (0) rfl 30 dX9_ask_29 rfl ?_
        refine P_bipush X (9) rfl 32 dX9_ask_30 rfl ?_
        refine S3r X 35 dX9_ask_32 rfl lk_X9_111 ms_X9_in rfl (by omega) (Nat.le_of_ble_eq_true rfl) (k_X9_in (by omega)) ?_
        refine P_bz X 55 38 dX9_ask_35 rfl rfl (fun b35 => ?_) (fun b35 => ?_)
        · refine P_aload0 X 56 dX9_ask_55 rfl ?_
          refine P_ldc X kc_X9_144 58 dX9_ask_56 rfl ?_
          refine V1r X 0 61 dX9_ask_58 rfl lk_X9_145 mv_X9_finding rfl (by omega) (Nat.le_of_ble_eq_true rfl) (Nat.le_of_ble_eq_true rfl) rfl rfl (k_X9_finding (by omega)) ?_
          exact P_iret X hQ dX9_ask_61 ⟨by simp [okAsk, b4, b14, b24, b35], by simp [okAsk, b4, b14, b24, b35, fiY]⟩
        · refine P_iload5 X 40 dX9_ask_38 rfl ?_
          refine S1r X 43 dX9_ask_40 rfl lk_X9_137 ms_X9_isDay rfl (by omega) (Nat.le_of_ble_eq_true rfl) (k_X9_isDay (by omega)) ?_
          refine P_bz X 55 46 dX9_ask_43 rfl rfl (fun b43 => ?_) (fun b43 => ?_)
          · refine P_aload0 X 56 dX9_ask_55 rfl ?_
            refine P_ldc X kc_X9_144 58 dX9_ask_56 rfl ?_
            refine V1r X 0 61 dX9_ask_58 rfl lk_X9_145 mv_X9_finding rfl (by omega) (Nat.le_of_ble_eq_true rfl) (Nat.le_of_ble_eq_true rfl) rfl rfl (k_X9_finding (by omega)) ?_
            exact P_iret X hQ dX9_ask_61 ⟨by simp [okAsk, b4, b14, b24, b35, b43], by simp [okAsk, b4, b14, b24, b35, b43, fiY]⟩
          · refine P_iload5 X 48 dX9_ask_46 rfl ?_
            refine P_aload0 X 49 dX9_ask_48 rfl ?_
            refine V0r X 0 52 dX9_ask_49 rfl lk_X9_140 mv_X9_latest rfl (by omega) (Nat.le_of_ble_eq_true rfl) (Nat.le_of_ble_eq_true rfl) rfl rfl (k_X9_latest (by omega) hc hn) ?_
            refine P_icmp_ge X 62 55 dX9_ask_52 rfl rfl (fun b52 => ?_) (fun b52 => ?_)
            · refine P_aload0 X 63 dX9_ask_62 rfl ?_
              refine gY_0_1 X 66 dX9_ask_63 rfl fl_X9_115 ?_
              refine P_bipush X (40) rfl 68 dX9_ask_66 rfl ?_
              refine P_icmp_ne X 78 71 dX9_ask_68 rfl rfl (fun b68 => ?_) (fun b68 => ?_)
              · have hz := ne40 hc hn b68
                refine P_aload0 X 79 dX9_ask_78 rfl ?_
                refine P_iload1 X 80 dX9_ask_79 rfl ?_
                refine P_iload2 X 81 dX9_ask_80 rfl ?_
                refine P_iload3 X 82 dX9_ask_81 rfl ?_
                refine P_iload4 X 84 dX9_ask_82 rfl ?_
                refine P_iload5 X 86 dX9_ask_84 rfl ?_
                refine V5r X 0 89 dX9_ask_86 rfl lk_X9_149 mv_X9_comes rfl (by omega) (Nat.le_of_ble_eq_true rfl) (Nat.le_of_ble_eq_true rfl) rfl rfl (k_X9_comes (by omega) hc hz hT hnT hB hop (QA_of b4 b14 b24 b35 b43)) ?_
                exact P_iret X hQ dX9_ask_89 ⟨by simp [okAsk, b4, b14, b24, b35, b43, b52, hz], by simp [okAsk, b4, b14, b24, b35, b43, b52, hz]⟩
              · have hz := eq40 hc hn b68
                refine P_aload0 X 72 dX9_ask_71 rfl ?_
                refine P_ldc X kc_X9_148 74 dX9_ask_72 rfl ?_
                refine V1r X 0 77 dX9_ask_74 rfl lk_X9_145 mv_X9_finding rfl (by omega) (Nat.le_of_ble_eq_true rfl) (Nat.le_of_ble_eq_true rfl) rfl rfl (k_X9_finding (by omega)) ?_
                exact P_iret X hQ dX9_ask_77 ⟨by simp [okAsk, b4, b14, b24, b35, b43, b52, hz], by simp [okAsk, b4, b14, b24, b35, b43, b52, hz, fiY]⟩
            · refine P_aload0 X 56 dX9_ask_55 rfl ?_
              refine P_ldc X kc_X9_144 58 dX9_ask_56 rfl ?_
              refine V1r X 0 61 dX9_ask_58 rfl lk_X9_145 mv_X9_finding rfl (by omega) (Nat.le_of_ble_eq_true rfl) (Nat.le_of_ble_eq_true rfl) rfl rfl (k_X9_finding (by omega)) ?_
              exact P_iret X hQ dX9_ask_61 ⟨by simp [okAsk, b4, b14, b24, b35, b43, b52], by simp [okAsk, b4, b14, b24, b35, b43, b52, fiY]⟩
def okMk (k x y : Int32) : Bool := inB k 0 4 && inB x 0 20 && inB y 0 99
set_option maxHeartbeats 4000000 in
set_option maxRecDepth 100000 in
theorem k_X8_marks {d : Nat} {E : Ev} {k x y : Int32} {h : Hp} (hd : 2 ≤ d)  : Cl d yX8_marks cX8_marks 4 (some .int) E (wdX E) [.ref (E.2.2.1 0), .int k, .int x, .int y] h (Rt (some (.int (if okMk k x y then 1 else -1000001))) (if okMk k x y then put (put h 18 (tn k) x) 19 (tn k) y else fiX h)) := by
  refine Cl_of [some (.ref (E.2.2.1 0)), some (.int k), some (.int x), some (.int y)] (by decide) rfl (Nat.le_of_ble_eq_true rfl) (fun K A X hQ => ?_)
  refine P_iload1 X 1 dX8_marks_0 rfl ?_
  refine S1r X 4 dX8_marks_1 rfl lk_X8_83 ms_X8_isKind rfl (by omega) (Nat.le_of_ble_eq_true rfl) (k_X8_isKind (by omega)) ?_
  refine P_bz X 27 7 dX8_marks_4 rfl rfl (fun b4 => ?_) (fun b4 => ?_)
  · refine P_aload0 X 28 dX8_marks_27 rfl ?_
    refine P_ldc X kc_X8_90 30 dX8_marks_28 rfl ?_
    refine V1r X 0 33 dX8_marks_30 rfl lk_X8_91 mv_X8_finding rfl (by omega) (Nat.le_of_ble_eq_true rfl) (Nat.le_of_ble_eq_true rfl) rfl rfl (k_X8_finding (by omega)) ?_
    exact P_iret X hQ dX8_marks_33 ⟨by simp [okMk, b4], by simp [okMk, b4, fiX]⟩
  · refine P_iload2 X 8 dX8_marks_7 rfl ?_
    refine P_iconst X (0) rfl 9 dX8_marks_8 rfl ?_
    refine P_bipush X (20) rfl 11 dX8_marks_9 rfl ?_
    refine S3r X 14 dX8_marks_11 rfl lk_X8_79 ms_X8_within rfl (by omega) (Nat.le_of_ble_eq_true rfl) (k_X8_within (by omega)) ?_
    refine P_bz X 27 17 dX8_marks_14 rfl rfl (fun b14 => ?_) (fun b14 => ?_)
    · refine P_aload0 X 28 dX8_marks_27 rfl ?_
      refine P_ldc X kc_X8_90 30 dX8_marks_28 rfl ?_
      refine V1r X 0 33 dX8_marks_30 rfl lk_X8_91 mv_X8_finding rfl (by omega) (Nat.le_of_ble_eq_true rfl) (Nat.le_of_ble_eq_true rfl) rfl rfl (k_X8_finding (by omega)) ?_
      exact P_iret X hQ dX8_marks_33 ⟨by simp [okMk, b4, b14], by simp [okMk, b4, b14, fiX]⟩
    · refine P_iload3 X 18 dX8_marks_17 rfl ?_
      refine P_iconst X (0) rfl 19 dX8_marks_18 rfl ?_
      refine P_bipush X (99) rfl 21 dX8_marks_19 rfl ?_
      refine S3r X 24 dX8_marks_21 rfl lk_X8_79 ms_X8_within rfl (by omega) (Nat.le_of_ble_eq_true rfl) (k_X8_within (by omega)) ?_
      refine P_bn X 34 27 dX8_marks_24 rfl rfl (fun b24 => ?_) (fun b24 => ?_)
      · obtain ⟨k, hk, rfl⟩ := inB_ex 4 b4
        have hk31 : k < 2 ^ 31 := by omega
        refine P_aload0 X 35 dX8_marks_34 rfl ?_
        refine gX_0_0 X 38 dX8_marks_35 rfl fl_X8_10 ?_
        refine gX_1_6 X 41 dX8_marks_38 rfl fl_X8_103 ?_
        refine P_iload1 X 42 dX8_marks_41 rfl ?_
        refine P_iload2 X 43 dX8_marks_42 rfl ?_
        refine sX_18 X 44 dX8_marks_43 rfl rfl (by omega) ?_
        refine P_aload0 X 45 dX8_marks_44 rfl ?_
        refine gX_0_0 X 48 dX8_marks_45 rfl fl_X8_10 ?_
        refine gX_1_7 X 51 dX8_marks_48 rfl fl_X8_106 ?_
        refine P_iload1 X 52 dX8_marks_51 rfl ?_
        refine P_iload3 X 53 dX8_marks_52 rfl ?_
        refine sX_19 X 54 dX8_marks_53 rfl rfl (by omega) ?_
        refine P_iconst X (1) rfl 55 dX8_marks_54 rfl ?_
        exact P_iret X hQ dX8_marks_55 ⟨by simp [okMk, b4, b14, b24], by simp [okMk, b4, b14, b24, tn, nI_clamp hk31]⟩
      · refine P_aload0 X 28 dX8_marks_27 rfl ?_
        refine P_ldc X kc_X8_90 30 dX8_marks_28 rfl ?_
        refine V1r X 0 33 dX8_marks_30 rfl lk_X8_91 mv_X8_finding rfl (by omega) (Nat.le_of_ble_eq_true rfl) (Nat.le_of_ble_eq_true rfl) rfl rfl (k_X8_finding (by omega)) ?_
        exact P_iret X hQ dX8_marks_33 ⟨by simp [okMk, b4, b14, b24], by simp [okMk, b4, b14, b24, fiX]⟩
set_option maxHeartbeats 4000000 in
set_option maxRecDepth 100000 in
theorem k_X9_marks {d : Nat} {E : Ev} {k x y : Int32} {h : Hp} (hd : 2 ≤ d)  : Cl d yX9_marks cX9_marks 4 (some .int) E (wdY E) [.ref (E.2.2.1 0), .int k, .int x, .int y] h (Rt (some (.int (if okMk k x y then 1 else -1000001))) (if okMk k x y then put (put h 7 (tn k) x) 8 (tn k) y else fiY h)) := by
  refine Cl_of [some (.ref (E.2.2.1 0)), some (.int k), some (.int x), some (.int y)] (by decide) rfl (Nat.le_of_ble_eq_true rfl) (fun K A X hQ => ?_)
  refine P_iload1 X 1 dX9_marks_0 rfl ?_
  refine S1r X 4 dX9_marks_1 rfl lk_X9_133 ms_X9_isKind rfl (by omega) (Nat.le_of_ble_eq_true rfl) (k_X9_isKind (by omega)) ?_
  refine P_bz X 27 7 dX9_marks_4 rfl rfl (fun b4 => ?_) (fun b4 => ?_)
  · refine P_aload0 X 28 dX9_marks_27 rfl ?_
    refine P_ldc X kc_X9_144 30 dX9_marks_28 rfl ?_
    refine V1r X 0 33 dX9_marks_30 rfl lk_X9_145 mv_X9_finding rfl (by omega) (Nat.le_of_ble_eq_true rfl) (Nat.le_of_ble_eq_true rfl) rfl rfl (k_X9_finding (by omega)) ?_
    exact P_iret X hQ dX9_marks_33 ⟨by simp [okMk, b4], by simp [okMk, b4, fiY]⟩
  · refine P_iload2 X 8 dX9_marks_7 rfl ?_
    refine P_iconst X (0) rfl 9 dX9_marks_8 rfl ?_
    refine P_bipush X (20) rfl 11 dX9_marks_9 rfl ?_
    refine S3r X 14 dX9_marks_11 rfl lk_X9_111 ms_X9_in rfl (by omega) (Nat.le_of_ble_eq_true rfl) (k_X9_in (by omega)) ?_
    refine P_bz X 27 17 dX9_marks_14 rfl rfl (fun b14 => ?_) (fun b14 => ?_)
    · refine P_aload0 X 28 dX9_marks_27 rfl ?_
      refine P_ldc X kc_X9_144 30 dX9_marks_28 rfl ?_
      refine V1r X 0 33 dX9_marks_30 rfl lk_X9_145 mv_X9_finding rfl (by omega) (Nat.le_of_ble_eq_true rfl) (Nat.le_of_ble_eq_true rfl) rfl rfl (k_X9_finding (by omega)) ?_
      exact P_iret X hQ dX9_marks_33 ⟨by simp [okMk, b4, b14], by simp [okMk, b4, b14, fiY]⟩
    · refine P_iload3 X 18 dX9_marks_17 rfl ?_
      refine P_iconst X (0) rfl 19 dX9_marks_18 rfl ?_
      refine P_bipush X (99) rfl 21 dX9_marks_19 rfl ?_
      refine S3r X 24 dX9_marks_21 rfl lk_X9_111 ms_X9_in rfl (by omega) (Nat.le_of_ble_eq_true rfl) (k_X9_in (by omega)) ?_
      refine P_bn X 34 27 dX9_marks_24 rfl rfl (fun b24 => ?_) (fun b24 => ?_)
      · obtain ⟨k, hk, rfl⟩ := inB_ex 4 b4
        have hk31 : k < 2 ^ 31 := by omega
        refine P_aload0 X 35 dX9_marks_34 rfl ?_
        refine gY_0_8 X 38 dX9_marks_35 rfl fl_X9_28 ?_
        refine P_iload1 X 39 dX9_marks_38 rfl ?_
        refine P_iload2 X 40 dX9_marks_39 rfl ?_
        refine sY_7 X 41 dX9_marks_40 rfl rfl (by omega) ?_
        refine P_aload0 X 42 dX9_marks_41 rfl ?_
        refine gY_0_9 X 45 dX9_marks_42 rfl fl_X9_31 ?_
        refine P_iload1 X 46 dX9_marks_45 rfl ?_
        refine P_iload3 X 47 dX9_marks_46 rfl ?_
        refine sY_8 X 48 dX9_marks_47 rfl rfl (by omega) ?_
        refine P_iconst X (1) rfl 49 dX9_marks_48 rfl ?_
        exact P_iret X hQ dX9_marks_49 ⟨by simp [okMk, b4, b14, b24], by simp [okMk, b4, b14, b24, tn, nI_clamp hk31]⟩
      · refine P_aload0 X 28 dX9_marks_27 rfl ?_
        refine P_ldc X kc_X9_144 30 dX9_marks_28 rfl ?_
        refine V1r X 0 33 dX9_marks_30 rfl lk_X9_145 mv_X9_finding rfl (by omega) (Nat.le_of_ble_eq_true rfl) (Nat.le_of_ble_eq_true rfl) rfl rfl (k_X9_finding (by omega)) ?_
        exact P_iret X hQ dX9_marks_33 ⟨by simp [okMk, b4, b14, b24], by simp [okMk, b4, b14, b24, fiY]⟩
def okMt (x a b : Int32) : Bool := inB a 0 (x - 1) && inB b 0 (x - 1) && !decide (a = b)
set_option maxHeartbeats 4000000 in
set_option maxRecDepth 100000 in
theorem k_X8_meet {d : Nat} {E : Ev} {n : Nat} {a b : Int32} {h : Hp} (hd : 3 ≤ d) (hc : h 1 8 = nI n) (hn : n ≤ 40) (hB : AB (h 12) (h 13) (h 14) (h 15) (h 16) (h 18) (h 19)) : Cl d yX8_meet cX8_meet 3 (some .int) E (wdX E) [.ref (E.2.2.1 0), .int a, .int b] h (Rt (some (.int (if okMt (h 1 8) a b then bI (mtB (h 12) (h 13) (h 14) (h 15) (h 16) (h 18) (h 19) (tn a) (tn b)) else -1000001))) (if okMt (h 1 8) a b then h else fiX h)) := by
  refine Cl_of [some (.ref (E.2.2.1 0)), some (.int a), some (.int b)] (by decide) rfl (Nat.le_of_ble_eq_true rfl) (fun K A X hQ => ?_)
  refine P_aload0 X 1 dX8_meet_0 rfl ?_
  refine P_iload1 X 2 dX8_meet_1 rfl ?_
  refine V1r X 0 5 dX8_meet_2 rfl lk_X8_109 mv_X8_isAsk rfl (by omega) (Nat.le_of_ble_eq_true rfl) (Nat.le_of_ble_eq_true rfl) rfl rfl (k_X8_isAsk (by omega)) ?_
  refine P_bz X 21 8 dX8_meet_5 rfl rfl (fun b5 => ?_) (fun b5 => ?_)
  · refine P_aload0 X 22 dX8_meet_21 rfl ?_
    refine P_ldc X kc_X8_90 24 dX8_meet_22 rfl ?_
    refine V1r X 0 27 dX8_meet_24 rfl lk_X8_91 mv_X8_finding rfl (by omega) (Nat.le_of_ble_eq_true rfl) (Nat.le_of_ble_eq_true rfl) rfl rfl (k_X8_finding (by omega)) ?_
    exact P_iret X hQ dX8_meet_27 ⟨by simp [okMt, b5], by simp [okMt, b5, fiX]⟩
  · refine P_aload0 X 9 dX8_meet_8 rfl ?_
    refine P_iload2 X 10 dX8_meet_9 rfl ?_
    refine V1r X 0 13 dX8_meet_10 rfl lk_X8_109 mv_X8_isAsk rfl (by omega) (Nat.le_of_ble_eq_true rfl) (Nat.le_of_ble_eq_true rfl) rfl rfl (k_X8_isAsk (by omega)) ?_
    refine P_bz X 21 16 dX8_meet_13 rfl rfl (fun b13 => ?_) (fun b13 => ?_)
    · refine P_aload0 X 22 dX8_meet_21 rfl ?_
      refine P_ldc X kc_X8_90 24 dX8_meet_22 rfl ?_
      refine V1r X 0 27 dX8_meet_24 rfl lk_X8_91 mv_X8_finding rfl (by omega) (Nat.le_of_ble_eq_true rfl) (Nat.le_of_ble_eq_true rfl) rfl rfl (k_X8_finding (by omega)) ?_
      exact P_iret X hQ dX8_meet_27 ⟨by simp [okMt, b5, b13], by simp [okMt, b5, b13, fiX]⟩
    · refine P_iload1 X 17 dX8_meet_16 rfl ?_
      refine P_iload2 X 18 dX8_meet_17 rfl ?_
      refine P_icmp_ne X 28 21 dX8_meet_18 rfl rfl (fun b18 => ?_) (fun b18 => ?_)
      · obtain ⟨a, ha, rfl⟩ := inB_ix hc b5 hn
        obtain ⟨b, hb, rfl⟩ := inB_ix hc b13 hn
        have ha31 : a < 2 ^ 31 := by omega
        have hb31 : b < 2 ^ 31 := by omega
        refine P_aload0 X 29 dX8_meet_28 rfl ?_
        refine gX_0_0 X 32 dX8_meet_29 rfl fl_X8_10 ?_
        refine P_iload1 X 33 dX8_meet_32 rfl ?_
        refine P_iload2 X 34 dX8_meet_33 rfl ?_
        refine V2r X 1 37 dX8_meet_34 rfl lk_X8_112 mv_X0_areMeeting rfl (by omega) (Nat.le_of_ble_eq_true rfl) (Nat.le_of_ble_eq_true rfl) rfl rfl (k_X0_areMeeting (by omega) (by omega) (by omega) hB) ?_
        refine P_bz X 44 40 dX8_meet_37 rfl rfl (fun b37 => ?_) (fun b37 => ?_)
        · refine P_iconst X (0) rfl 45 dX8_meet_44 rfl ?_
          exact P_iret X hQ dX8_meet_45 ⟨by simp [okMt, b5, b13, b18, tn, nI_clamp ha31, nI_clamp hb31, b37, bI], by simp [okMt, b5, b13, b18]⟩
        · refine P_iconst X (1) rfl 41 dX8_meet_40 rfl ?_
          refine P_goto X 45 dX8_meet_41 rfl ?_
          exact P_iret X hQ dX8_meet_45 ⟨by simp [okMt, b5, b13, b18, tn, nI_clamp ha31, nI_clamp hb31, b37, bI], by simp [okMt, b5, b13, b18]⟩
      · refine P_aload0 X 22 dX8_meet_21 rfl ?_
        refine P_ldc X kc_X8_90 24 dX8_meet_22 rfl ?_
        refine V1r X 0 27 dX8_meet_24 rfl lk_X8_91 mv_X8_finding rfl (by omega) (Nat.le_of_ble_eq_true rfl) (Nat.le_of_ble_eq_true rfl) rfl rfl (k_X8_finding (by omega)) ?_
        exact P_iret X hQ dX8_meet_27 ⟨by simp [okMt, b5, b13, b18], by simp [okMt, b5, b13, b18, fiX]⟩
set_option maxHeartbeats 4000000 in
set_option maxRecDepth 100000 in
theorem k_X9_meet {d : Nat} {E : Ev} {n : Nat} {a b : Int32} {h : Hp} (hd : 3 ≤ d) (hc : h 0 1 = nI n) (hn : n ≤ 40) (hB : AB (h 1) (h 2) (h 3) (h 4) (h 5) (h 7) (h 8)) : Cl d yX9_meet cX9_meet 3 (some .int) E (wdY E) [.ref (E.2.2.1 0), .int a, .int b] h (Rt (some (.int (if okMt (h 0 1) a b then bI (mtB (h 1) (h 2) (h 3) (h 4) (h 5) (h 7) (h 8) (tn a) (tn b)) else -1000001))) (if okMt (h 0 1) a b then h else fiY h)) := by
  refine Cl_of [some (.ref (E.2.2.1 0)), some (.int a), some (.int b)] (by decide) rfl (Nat.le_of_ble_eq_true rfl) (fun K A X hQ => ?_)
  refine P_aload0 X 1 dX9_meet_0 rfl ?_
  refine P_iload1 X 2 dX9_meet_1 rfl ?_
  refine V1r X 0 5 dX9_meet_2 rfl lk_X9_153 mv_X9_isAsk rfl (by omega) (Nat.le_of_ble_eq_true rfl) (Nat.le_of_ble_eq_true rfl) rfl rfl (k_X9_isAsk (by omega)) ?_
  refine P_bz X 21 8 dX9_meet_5 rfl rfl (fun b5 => ?_) (fun b5 => ?_)
  · refine P_aload0 X 22 dX9_meet_21 rfl ?_
    refine P_ldc X kc_X9_144 24 dX9_meet_22 rfl ?_
    refine V1r X 0 27 dX9_meet_24 rfl lk_X9_145 mv_X9_finding rfl (by omega) (Nat.le_of_ble_eq_true rfl) (Nat.le_of_ble_eq_true rfl) rfl rfl (k_X9_finding (by omega)) ?_
    exact P_iret X hQ dX9_meet_27 ⟨by simp [okMt, b5], by simp [okMt, b5, fiY]⟩
  · refine P_aload0 X 9 dX9_meet_8 rfl ?_
    refine P_iload2 X 10 dX9_meet_9 rfl ?_
    refine V1r X 0 13 dX9_meet_10 rfl lk_X9_153 mv_X9_isAsk rfl (by omega) (Nat.le_of_ble_eq_true rfl) (Nat.le_of_ble_eq_true rfl) rfl rfl (k_X9_isAsk (by omega)) ?_
    refine P_bz X 21 16 dX9_meet_13 rfl rfl (fun b13 => ?_) (fun b13 => ?_)
    · refine P_aload0 X 22 dX9_meet_21 rfl ?_
      refine P_ldc X kc_X9_144 24 dX9_meet_22 rfl ?_
      refine V1r X 0 27 dX9_meet_24 rfl lk_X9_145 mv_X9_finding rfl (by omega) (Nat.le_of_ble_eq_true rfl) (Nat.le_of_ble_eq_true rfl) rfl rfl (k_X9_finding (by omega)) ?_
      exact P_iret X hQ dX9_meet_27 ⟨by simp [okMt, b5, b13], by simp [okMt, b5, b13, fiY]⟩
    · refine P_iload1 X 17 dX9_meet_16 rfl ?_
      refine P_iload2 X 18 dX9_meet_17 rfl ?_
      refine P_icmp_ne X 28 21 dX9_meet_18 rfl rfl (fun b18 => ?_) (fun b18 => ?_)
      · obtain ⟨a, ha, rfl⟩ := inB_ix hc b5 hn
        obtain ⟨b, hb, rfl⟩ := inB_ix hc b13 hn
        have ha31 : a < 2 ^ 31 := by omega
        have hb31 : b < 2 ^ 31 := by omega
        refine P_aload0 X 29 dX9_meet_28 rfl ?_
        refine P_iload1 X 30 dX9_meet_29 rfl ?_
        refine P_iload2 X 31 dX9_meet_30 rfl ?_
        refine V2r X 0 34 dX9_meet_31 rfl lk_X9_129 mv_X9_doMeet rfl (by omega) (Nat.le_of_ble_eq_true rfl) (Nat.le_of_ble_eq_true rfl) rfl rfl (k_X9_doMeet (by omega) (by omega) (by omega) hB) ?_
        refine P_bz X 41 37 dX9_meet_34 rfl rfl (fun b34 => ?_) (fun b34 => ?_)
        · refine P_iconst X (0) rfl 42 dX9_meet_41 rfl ?_
          exact P_iret X hQ dX9_meet_42 ⟨by simp [okMt, b5, b13, b18, tn, nI_clamp ha31, nI_clamp hb31, b34, bI], by simp [okMt, b5, b13, b18]⟩
        · refine P_iconst X (1) rfl 38 dX9_meet_37 rfl ?_
          refine P_goto X 42 dX9_meet_38 rfl ?_
          exact P_iret X hQ dX9_meet_42 ⟨by simp [okMt, b5, b13, b18, tn, nI_clamp ha31, nI_clamp hb31, b34, bI], by simp [okMt, b5, b13, b18]⟩
      · refine P_aload0 X 22 dX9_meet_21 rfl ?_
        refine P_ldc X kc_X9_144 24 dX9_meet_22 rfl ?_
        refine V1r X 0 27 dX9_meet_24 rfl lk_X9_145 mv_X9_finding rfl (by omega) (Nat.le_of_ble_eq_true rfl) (Nat.le_of_ble_eq_true rfl) rfl rfl (k_X9_finding (by omega)) ?_
        exact P_iret X hQ dX9_meet_27 ⟨by simp [okMt, b5, b13, b18], by simp [okMt, b5, b13, b18, fiY]⟩
def dtl (kd xs ys db dy th : Nat → Int32) (a : Nat) (w : Int32) : Int32 := if w = 0 then kd a else if w = 1 then xs a else if w = 2 then ys a else if w = 3 then db a else if w = 4 then dy a else if w = 5 then th a else qtr (xs a) (ys a)
theorem nI_cases {m : Nat} {P : Int32 → Prop} (h : ∀ j, j < m → P (nI j)) {w : Int32} (e : ∃ j, j < m ∧ w = nI j) : P w := by
  obtain ⟨j, hj, rfl⟩ := e
  exact h j hj
def okOf (x a w : Int32) : Bool := inB a 0 (x - 1) && inB w 0 6
set_option maxHeartbeats 4000000 in
set_option maxRecDepth 100000 in
theorem k_X0_detail {d : Nat} {E : Ev} {a : Nat} {w : Int32} {h : Hp} (hd : 2 ≤ d) (ha : a < 40) (hw : ∃ j, j < 7 ∧ w = nI j) : Cl d yX0_detail cX0_detail 3 (some .int) E (wdX E) [.ref (E.2.2.1 1), .int (nI a), .int w] h (Rt (some (.int (dtl (h 12) (h 13) (h 14) (h 15) (h 16) (h 17) a w))) h) := by
  refine Cl_of [some (.ref (E.2.2.1 1)), some (.int (nI a)), some (.int w)] (by decide) rfl (Nat.le_of_ble_eq_true rfl) (fun K A X hQ => ?_)
  refine P_iload2 X 1 dX0_detail_0 rfl ?_
  obtain ⟨j9, hj9, rfl⟩ := hw
  rcases (show j9 = 0 ∨ j9 = 1 ∨ j9 = 2 ∨ j9 = 3 ∨ j9 = 4 ∨ j9 = 5 ∨ j9 = 6 by omega) with rfl | rfl | rfl | rfl | rfl | rfl | rfl
  · refine P_tblIn X 40 dX0_detail_1 (by decide) (by decide) rfl rfl ?_
    refine P_aload0 X 41 dX0_detail_40 rfl ?_
    refine gX_1_0 X 44 dX0_detail_41 rfl fl_X0_9 ?_
    refine P_iload1 X 45 dX0_detail_44 rfl ?_
    refine lX_12 X 46 dX0_detail_45 rfl rfl (by omega) ?_
    exact P_iret X hQ dX0_detail_46 (rti rfl)
  · refine P_tblIn X 47 dX0_detail_1 (by decide) (by decide) rfl rfl ?_
    refine P_aload0 X 48 dX0_detail_47 rfl ?_
    refine gX_1_1 X 51 dX0_detail_48 rfl fl_X0_15 ?_
    refine P_iload1 X 52 dX0_detail_51 rfl ?_
    refine lX_13 X 53 dX0_detail_52 rfl rfl (by omega) ?_
    exact P_iret X hQ dX0_detail_53 (rti rfl)
  · refine P_tblIn X 54 dX0_detail_1 (by decide) (by decide) rfl rfl ?_
    refine P_aload0 X 55 dX0_detail_54 rfl ?_
    refine gX_1_2 X 58 dX0_detail_55 rfl fl_X0_18 ?_
    refine P_iload1 X 59 dX0_detail_58 rfl ?_
    refine lX_14 X 60 dX0_detail_59 rfl rfl (by omega) ?_
    exact P_iret X hQ dX0_detail_60 (rti rfl)
  · refine P_tblIn X 61 dX0_detail_1 (by decide) (by decide) rfl rfl ?_
    refine P_aload0 X 62 dX0_detail_61 rfl ?_
    refine gX_1_3 X 65 dX0_detail_62 rfl fl_X0_21 ?_
    refine P_iload1 X 66 dX0_detail_65 rfl ?_
    refine lX_15 X 67 dX0_detail_66 rfl rfl (by omega) ?_
    exact P_iret X hQ dX0_detail_67 (rti rfl)
  · refine P_tblIn X 68 dX0_detail_1 (by decide) (by decide) rfl rfl ?_
    refine P_aload0 X 69 dX0_detail_68 rfl ?_
    refine gX_1_4 X 72 dX0_detail_69 rfl fl_X0_24 ?_
    refine P_iload1 X 73 dX0_detail_72 rfl ?_
    refine lX_16 X 74 dX0_detail_73 rfl rfl (by omega) ?_
    exact P_iret X hQ dX0_detail_74 (rti rfl)
  · refine P_tblIn X 75 dX0_detail_1 (by decide) (by decide) rfl rfl ?_
    refine P_aload0 X 76 dX0_detail_75 rfl ?_
    refine gX_1_5 X 79 dX0_detail_76 rfl fl_X0_27 ?_
    refine P_iload1 X 80 dX0_detail_79 rfl ?_
    refine lX_17 X 81 dX0_detail_80 rfl rfl (by omega) ?_
    exact P_iret X hQ dX0_detail_81 (rti rfl)
  · refine P_tblOut X 82 dX0_detail_1 (Or.inr (by decide)) rfl ?_
    refine P_aload0 X 83 dX0_detail_82 rfl ?_
    refine P_iload1 X 84 dX0_detail_83 rfl ?_
    refine V1r X 1 87 dX0_detail_84 rfl lk_X0_58 mv_X0_quarterOfAsk rfl (by omega) (Nat.le_of_ble_eq_true rfl) (Nat.le_of_ble_eq_true rfl) rfl rfl (k_X0_quarterOfAsk (by omega) ha) ?_
    exact P_iret X hQ dX0_detail_87 (rti rfl)
set_option maxHeartbeats 4000000 in
set_option maxRecDepth 100000 in
theorem k_X8_of {d : Nat} {E : Ev} {n : Nat} {a w : Int32} {h : Hp} (hd : 3 ≤ d) (hc : h 1 8 = nI n) (hn : n ≤ 40) : Cl d yX8_of cX8_of 3 (some .int) E (wdX E) [.ref (E.2.2.1 0), .int a, .int w] h (Rt (some (.int (if okOf (h 1 8) a w then dtl (h 12) (h 13) (h 14) (h 15) (h 16) (h 17) (tn a) w else -1000001))) (if okOf (h 1 8) a w then h else fiX h)) := by
  refine Cl_of [some (.ref (E.2.2.1 0)), some (.int a), some (.int w)] (by decide) rfl (Nat.le_of_ble_eq_true rfl) (fun K A X hQ => ?_)
  refine P_aload0 X 1 dX8_of_0 rfl ?_
  refine P_iload1 X 2 dX8_of_1 rfl ?_
  refine V1r X 0 5 dX8_of_2 rfl lk_X8_109 mv_X8_isAsk rfl (by omega) (Nat.le_of_ble_eq_true rfl) (Nat.le_of_ble_eq_true rfl) rfl rfl (k_X8_isAsk (by omega)) ?_
  refine P_bz X 18 8 dX8_of_5 rfl rfl (fun b5 => ?_) (fun b5 => ?_)
  · refine P_aload0 X 19 dX8_of_18 rfl ?_
    refine P_ldc X kc_X8_90 21 dX8_of_19 rfl ?_
    refine V1r X 0 24 dX8_of_21 rfl lk_X8_91 mv_X8_finding rfl (by omega) (Nat.le_of_ble_eq_true rfl) (Nat.le_of_ble_eq_true rfl) rfl rfl (k_X8_finding (by omega)) ?_
    exact P_iret X hQ dX8_of_24 ⟨by simp [okOf, b5], by simp [okOf, b5, fiX]⟩
  · refine P_iload2 X 9 dX8_of_8 rfl ?_
    refine P_iconst X (0) rfl 10 dX8_of_9 rfl ?_
    refine P_bipush X (6) rfl 12 dX8_of_10 rfl ?_
    refine S3r X 15 dX8_of_12 rfl lk_X8_79 ms_X8_within rfl (by omega) (Nat.le_of_ble_eq_true rfl) (k_X8_within (by omega)) ?_
    refine P_bn X 25 18 dX8_of_15 rfl rfl (fun b15 => ?_) (fun b15 => ?_)
    · obtain ⟨a, ha, rfl⟩ := inB_ix hc b5 hn
      have ha31 : a < 2 ^ 31 := by omega
      refine P_aload0 X 26 dX8_of_25 rfl ?_
      refine gX_0_0 X 29 dX8_of_26 rfl fl_X8_10 ?_
      refine P_iload1 X 30 dX8_of_29 rfl ?_
      refine P_iload2 X 31 dX8_of_30 rfl ?_
      refine V2r X 1 34 dX8_of_31 rfl lk_X8_116 mv_X0_detail rfl (by omega) (Nat.le_of_ble_eq_true rfl) (Nat.le_of_ble_eq_true rfl) rfl rfl (k_X0_detail (by omega) (by omega) (inB_ex 6 b15)) ?_
      exact P_iret X hQ dX8_of_34 ⟨by rw [if_pos (by simp [okOf, b5, b15]), tn, nI_clamp ha31], by simp [okOf, b5, b15]⟩
    · refine P_aload0 X 19 dX8_of_18 rfl ?_
      refine P_ldc X kc_X8_90 21 dX8_of_19 rfl ?_
      refine V1r X 0 24 dX8_of_21 rfl lk_X8_91 mv_X8_finding rfl (by omega) (Nat.le_of_ble_eq_true rfl) (Nat.le_of_ble_eq_true rfl) rfl rfl (k_X8_finding (by omega)) ?_
      exact P_iret X hQ dX8_of_24 ⟨by simp [okOf, b5, b15], by simp [okOf, b5, b15, fiX]⟩
set_option maxHeartbeats 4000000 in
set_option maxRecDepth 100000 in
theorem k_X9_of {d : Nat} {E : Ev} {n : Nat} {a w : Int32} {h : Hp} (hd : 2 ≤ d) (hc : h 0 1 = nI n) (hn : n ≤ 40) : Cl d yX9_of cX9_of 3 (some .int) E (wdY E) [.ref (E.2.2.1 0), .int a, .int w] h (Rt (some (.int (if okOf (h 0 1) a w then dtl (h 1) (h 2) (h 3) (h 4) (h 5) (h 6) (tn a) w else -1000001))) (if okOf (h 0 1) a w then h else fiY h)) := by
  refine Cl_of [some (.ref (E.2.2.1 0)), some (.int a), some (.int w)] (by decide) rfl (Nat.le_of_ble_eq_true rfl) (fun K A X hQ => ?_)
  refine P_aload0 X 1 dX9_of_0 rfl ?_
  refine P_iload1 X 2 dX9_of_1 rfl ?_
  refine V1r X 0 5 dX9_of_2 rfl lk_X9_153 mv_X9_isAsk rfl (by omega) (Nat.le_of_ble_eq_true rfl) (Nat.le_of_ble_eq_true rfl) rfl rfl (k_X9_isAsk (by omega)) ?_
  refine P_bz X 18 8 dX9_of_5 rfl rfl (fun b5 => ?_) (fun b5 => ?_)
  · refine P_aload0 X 19 dX9_of_18 rfl ?_
    refine P_ldc X kc_X9_144 21 dX9_of_19 rfl ?_
    refine V1r X 0 24 dX9_of_21 rfl lk_X9_145 mv_X9_finding rfl (by omega) (Nat.le_of_ble_eq_true rfl) (Nat.le_of_ble_eq_true rfl) rfl rfl (k_X9_finding (by omega)) ?_
    exact P_iret X hQ dX9_of_24 ⟨by simp [okOf, b5], by simp [okOf, b5, fiY]⟩
  · refine P_iload2 X 9 dX9_of_8 rfl ?_
    refine P_iconst X (0) rfl 10 dX9_of_9 rfl ?_
    refine P_bipush X (6) rfl 12 dX9_of_10 rfl ?_
    refine S3r X 15 dX9_of_12 rfl lk_X9_111 ms_X9_in rfl (by omega) (Nat.le_of_ble_eq_true rfl) (k_X9_in (by omega)) ?_
    refine P_bn X 25 18 dX9_of_15 rfl rfl (fun b15 => ?_) (fun b15 => ?_)
    · obtain ⟨a, ha, rfl⟩ := inB_ix hc b5 hn
      have ha31 : a < 2 ^ 31 := by omega
      refine P_iload2 X 26 dX9_of_25 rfl ?_
      obtain ⟨j9, hj9, rfl⟩ := inB_ex 6 b15
      rcases (show j9 = 0 ∨ j9 = 1 ∨ j9 = 2 ∨ j9 = 3 ∨ j9 = 4 ∨ j9 = 5 ∨ j9 = 6 by omega) with rfl | rfl | rfl | rfl | rfl | rfl | rfl
      · refine P_tblIn X 64 dX9_of_26 (by decide) (by decide) rfl rfl ?_
        refine P_aload0 X 65 dX9_of_64 rfl ?_
        refine gY_0_2 X 68 dX9_of_65 rfl fl_X9_7 ?_
        refine P_iload1 X 69 dX9_of_68 rfl ?_
        refine lY_1 X 70 dX9_of_69 rfl rfl (by omega) ?_
        exact P_iret X hQ dX9_of_70 ⟨by rw [if_pos (by simp [okOf, b5, b15]), tn, nI_clamp ha31]; rfl, by simp [okOf, b5, b15]⟩
      · refine P_tblIn X 71 dX9_of_26 (by decide) (by decide) rfl rfl ?_
        refine P_aload0 X 72 dX9_of_71 rfl ?_
        refine gY_0_3 X 75 dX9_of_72 rfl fl_X9_13 ?_
        refine P_iload1 X 76 dX9_of_75 rfl ?_
        refine lY_2 X 77 dX9_of_76 rfl rfl (by omega) ?_
        exact P_iret X hQ dX9_of_77 ⟨by rw [if_pos (by simp [okOf, b5, b15]), tn, nI_clamp ha31]; rfl, by simp [okOf, b5, b15]⟩
      · refine P_tblIn X 78 dX9_of_26 (by decide) (by decide) rfl rfl ?_
        refine P_aload0 X 79 dX9_of_78 rfl ?_
        refine gY_0_4 X 82 dX9_of_79 rfl fl_X9_16 ?_
        refine P_iload1 X 83 dX9_of_82 rfl ?_
        refine lY_3 X 84 dX9_of_83 rfl rfl (by omega) ?_
        exact P_iret X hQ dX9_of_84 ⟨by rw [if_pos (by simp [okOf, b5, b15]), tn, nI_clamp ha31]; rfl, by simp [okOf, b5, b15]⟩
      · refine P_tblIn X 85 dX9_of_26 (by decide) (by decide) rfl rfl ?_
        refine P_aload0 X 86 dX9_of_85 rfl ?_
        refine gY_0_5 X 89 dX9_of_86 rfl fl_X9_19 ?_
        refine P_iload1 X 90 dX9_of_89 rfl ?_
        refine lY_4 X 91 dX9_of_90 rfl rfl (by omega) ?_
        exact P_iret X hQ dX9_of_91 ⟨by rw [if_pos (by simp [okOf, b5, b15]), tn, nI_clamp ha31]; rfl, by simp [okOf, b5, b15]⟩
      · refine P_tblIn X 92 dX9_of_26 (by decide) (by decide) rfl rfl ?_
        refine P_aload0 X 93 dX9_of_92 rfl ?_
        refine gY_0_6 X 96 dX9_of_93 rfl fl_X9_22 ?_
        refine P_iload1 X 97 dX9_of_96 rfl ?_
        refine lY_5 X 98 dX9_of_97 rfl rfl (by omega) ?_
        exact P_iret X hQ dX9_of_98 ⟨by rw [if_pos (by simp [okOf, b5, b15]), tn, nI_clamp ha31]; rfl, by simp [okOf, b5, b15]⟩
      · refine P_tblIn X 99 dX9_of_26 (by decide) (by decide) rfl rfl ?_
        refine P_aload0 X 100 dX9_of_99 rfl ?_
        refine gY_0_7 X 103 dX9_of_100 rfl fl_X9_25 ?_
        refine P_iload1 X 104 dX9_of_103 rfl ?_
        refine lY_6 X 105 dX9_of_104 rfl rfl (by omega) ?_
        exact P_iret X hQ dX9_of_105 ⟨by rw [if_pos (by simp [okOf, b5, b15]), tn, nI_clamp ha31]; rfl, by simp [okOf, b5, b15]⟩
      · refine P_tblOut X 106 dX9_of_26 (Or.inr (by decide)) rfl ?_
        refine P_aload0 X 107 dX9_of_106 rfl ?_
        refine gY_0_3 X 110 dX9_of_107 rfl fl_X9_13 ?_
        refine P_iload1 X 111 dX9_of_110 rfl ?_
        refine lY_2 X 112 dX9_of_111 rfl rfl (by omega) ?_
        refine P_aload0 X 113 dX9_of_112 rfl ?_
        refine gY_0_4 X 116 dX9_of_113 rfl fl_X9_16 ?_
        refine P_iload1 X 117 dX9_of_116 rfl ?_
        refine lY_3 X 118 dX9_of_117 rfl rfl (by omega) ?_
        refine S2r X 121 dX9_of_118 rfl lk_X9_156 ms_X9_quarterOf rfl (by omega) (Nat.le_of_ble_eq_true rfl) (k_X9_quarterOf (by omega)) ?_
        exact P_iret X hQ dX9_of_121 ⟨by rw [if_pos (by simp [okOf, b5, b15]), tn, nI_clamp ha31]; rfl, by simp [okOf, b5, b15]⟩
    · refine P_aload0 X 19 dX9_of_18 rfl ?_
      refine P_ldc X kc_X9_144 21 dX9_of_19 rfl ?_
      refine V1r X 0 24 dX9_of_21 rfl lk_X9_145 mv_X9_finding rfl (by omega) (Nat.le_of_ble_eq_true rfl) (Nat.le_of_ble_eq_true rfl) rfl rfl (k_X9_finding (by omega)) ?_
      exact P_iret X hQ dX9_of_24 ⟨by simp [okOf, b5, b15], by simp [okOf, b5, b15, fiY]⟩
