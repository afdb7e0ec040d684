def uB (k : Nat) (o : Int32) : Bool := if k = 0 then decide (nI 0 = o) else if k = 4 then decide (nI 4 = o) || decide (nI 2 = o) || decide (nI 0 = o) else decide (nI k = o) || decide (nI 0 = o)
theorem nI_n5 {s : Nat} (hs : s < 5) : ¬ (5 : Int32) ≤ nI s := lt5' s hs

set_option maxHeartbeats 4000000 in
set_option maxRecDepth 100000 in
theorem k_X8_isOrIsUnder {d : Nat} {E : Ev} {wd : Wd} {kk : Nat} {oo : Int32} {h : Hp} (hd : 0 ≤ d) (hkk : kk < 5) : Cl d yX8_isOrIsUnder cX8_isOrIsUnder 4 (some .boolean) E wd [.int (nI kk), .int oo] h (Rt (some (.int (bI (uB kk oo)))) h) := by
  refine Cl_of [some (.int (nI kk)), some (.int oo), none, none] (by decide) rfl (Nat.le_of_ble_eq_true rfl) (fun K A X hQ => ?_)
  have Ex : ∀ ss : Nat, uB kk oo = false → GW K 4 E wd A 4 [some (.int (nI kk)), some (.int oo), some (.int (-1)), some (.int (nI ss))] [] h := by
    intro ss hr
    refine P_iload3 X 5 dX8_isOrIsUnder_4 rfl ?_
    refine P_iconst X (5) rfl 6 dX8_isOrIsUnder_5 rfl ?_
    refine P_icmp_ge X 33 9 dX8_isOrIsUnder_6 rfl rfl (fun b6 => ?_) (fun b6 => ?_)
    · refine P_iconst X (0) rfl 34 dX8_isOrIsUnder_33 rfl ?_
      exact P_zret X hQ dX8_isOrIsUnder_34 (Or.inl rfl) (rt0 hr)
    · refine P_iload2 X 10 dX8_isOrIsUnder_9 rfl ?_
      refine P_iconst X (-1) rfl 11 dX8_isOrIsUnder_10 rfl ?_
      refine P_icmp_eq X 33 14 dX8_isOrIsUnder_11 rfl rfl (fun b11 => ?_) (fun b11 => ?_)
      · refine P_iconst X (0) rfl 34 dX8_isOrIsUnder_33 rfl ?_
        exact P_zret X hQ dX8_isOrIsUnder_34 (Or.inl rfl) (rt0 hr)
      · exact absurd rfl b11
  have It : ∀ jj ss : Nat, jj < 5 → ss < 5 → (nI jj = oo → uB kk oo = true) → (¬ nI jj = oo → GW K 4 E wd A 4 [some (.int (nI kk)), some (.int oo), some (.int (abv jj)), some (.int (nI (ss + 1)))] [] h) → GW K 4 E wd A 4 [some (.int (nI kk)), some (.int oo), some (.int (nI jj)), some (.int (nI ss))] [] h := by
    intro jj ss hjj hss h1 h2
    refine P_iload3 X 5 dX8_isOrIsUnder_4 rfl ?_
    refine P_iconst X (5) rfl 6 dX8_isOrIsUnder_5 rfl ?_
    refine P_icmp_ge X 33 9 dX8_isOrIsUnder_6 rfl rfl (fun b6 => ?_) (fun b6 => ?_)
    · exact absurd b6 (nI_n5 hss)
    · refine P_iload2 X 10 dX8_isOrIsUnder_9 rfl ?_
      refine P_iconst X (-1) rfl 11 dX8_isOrIsUnder_10 rfl ?_
      refine P_icmp_eq X 33 14 dX8_isOrIsUnder_11 rfl rfl (fun b11 => ?_) (fun b11 => ?_)
      · exact absurd b11 (nI_nm1 (by omega))
      · refine P_iload2 X 15 dX8_isOrIsUnder_14 rfl ?_
        refine P_iload1 X 16 dX8_isOrIsUnder_15 rfl ?_
        refine P_icmp_ne X 21 19 dX8_isOrIsUnder_16 rfl rfl (fun b16 => ?_) (fun b16 => ?_)
        · refine P_above X 24 dX8_isOrIsUnder_21 rfl ab_X8_303 ?_
          refine P_iload2 X 25 dX8_isOrIsUnder_24 rfl ?_
          refine P_aboveld X 26 dX8_isOrIsUnder_25 rfl rfl hjj ?_
          refine P_istore2 X 27 dX8_isOrIsUnder_26 rfl (by decide) rfl ?_
          refine P_iinc3 X (1) rfl 30 dX8_isOrIsUnder_27 rfl (by decide) rfl ?_
          refine P_goto X 4 dX8_isOrIsUnder_30 rfl ?_
          rw [nI_1]
          exact h2 b16
        · refine P_iconst X (1) rfl 20 dX8_isOrIsUnder_19 rfl ?_
          exact P_zret X hQ dX8_isOrIsUnder_20 (Or.inr rfl) (rt1 (h1 b16))
  refine P_iload0 X 1 dX8_isOrIsUnder_0 rfl ?_
  refine P_istore2 X 2 dX8_isOrIsUnder_1 rfl (by decide) rfl ?_
  refine P_iconst X (0) rfl 3 dX8_isOrIsUnder_2 rfl ?_
  refine P_istore3 X 4 dX8_isOrIsUnder_3 rfl (by decide) rfl ?_
  rcases (show kk = 0 ∨ kk = 1 ∨ kk = 2 ∨ kk = 3 ∨ kk = 4 by omega) with rfl | rfl | rfl | rfl | rfl
  · exact It 0 0 (by omega) (by omega) (fun e9 => by simp [uB, e9]) (fun n0 => Ex 1 (by simp [uB, n0]))
  · exact It 1 0 (by omega) (by omega) (fun e9 => by simp [uB, e9]) (fun n1 => It 0 1 (by omega) (by omega) (fun e9 => by simp [uB, e9]) (fun n0 => Ex 2 (by simp [uB, n0, n1])))
  · exact It 2 0 (by omega) (by omega) (fun e9 => by simp [uB, e9]) (fun n1 => It 0 1 (by omega) (by omega) (fun e9 => by simp [uB, e9]) (fun n0 => Ex 2 (by simp [uB, n0, n1])))
  · exact It 3 0 (by omega) (by omega) (fun e9 => by simp [uB, e9]) (fun n1 => It 0 1 (by omega) (by omega) (fun e9 => by simp [uB, e9]) (fun n0 => Ex 2 (by simp [uB, n0, n1])))
  · exact It 4 0 (by omega) (by omega) (fun e9 => by simp [uB, e9]) (fun n1 => It 2 1 (by omega) (by omega) (fun e9 => by simp [uB, e9]) (fun n2 => It 0 2 (by omega) (by omega) (fun e9 => by simp [uB, e9]) (fun n0 => Ex 3 (by simp [uB, n0, n1, n2]))))
set_option maxHeartbeats 4000000 in
set_option maxRecDepth 100000 in
theorem k_X9_above {d : Nat} {E : Ev} {wd : Wd} {jj : Nat} {h : Hp} (hd : 0 ≤ d) (hjj : jj < 5) : Cl d yX9_above cX9_above 1 (some .int) E wd [.int (nI jj)] h (Rt (some (.int (abv jj))) h) := by
  refine Cl_of [some (.int (nI jj))] (by decide) rfl (Nat.le_of_ble_eq_true rfl) (fun K A X hQ => ?_)
  refine P_iload0 X 1 dX9_above_0 rfl ?_
  refine P_if_ne X 8 4 dX9_above_1 rfl rfl (fun b1 => ?_) (fun b1 => ?_)
  · refine P_iload0 X 9 dX9_above_8 rfl ?_
    refine P_iconst X (4) rfl 10 dX9_above_9 rfl ?_
    refine P_icmp_ne X 17 13 dX9_above_10 rfl rfl (fun b10 => ?_) (fun b10 => ?_)
    · refine P_iconst X (0) rfl 18 dX9_above_17 rfl ?_
      exact P_iret X hQ dX9_above_18 (rti (by rcases (show jj = 0 ∨ jj = 1 ∨ jj = 2 ∨ jj = 3 ∨ jj = 4 by omega) with rfl | rfl | rfl | rfl | rfl <;> first | rfl | exact absurd b1 (by decide) | exact absurd b10 (by decide)))
    · refine P_iconst X (2) rfl 14 dX9_above_13 rfl ?_
      refine P_goto X 18 dX9_above_14 rfl ?_
      exact P_iret X hQ dX9_above_18 (rti (by rcases (show jj = 0 ∨ jj = 1 ∨ jj = 2 ∨ jj = 3 ∨ jj = 4 by omega) with rfl | rfl | rfl | rfl | rfl <;> first | rfl | exact absurd b1 (by decide) | exact absurd b10 (by decide)))
  · refine P_iconst X (-1) rfl 5 dX9_above_4 rfl ?_
    refine P_goto X 18 dX9_above_5 rfl ?_
    exact P_iret X hQ dX9_above_18 (rti (by rcases (show jj = 0 ∨ jj = 1 ∨ jj = 2 ∨ jj = 3 ∨ jj = 4 by omega) with rfl | rfl | rfl | rfl | rfl <;> first | rfl | exact absurd b1 (by decide)))
set_option maxHeartbeats 4000000 in
set_option maxRecDepth 100000 in
theorem k_X9_isUnder {d : Nat} {E : Ev} {wd : Wd} {kk : Nat} {oo : Int32} {h : Hp} (hd : 1 ≤ d) (hkk : kk < 5) (hoo : ∃ m, m < 5 ∧ oo = nI m) : Cl d yX9_isUnder cX9_isUnder 3 (some .boolean) E wd [.int (nI kk), .int oo] h (Rt (some (.int (bI (uB kk oo)))) h) := by
  refine Cl_of [some (.int (nI kk)), some (.int oo), none] (by decide) rfl (Nat.le_of_ble_eq_true rfl) (fun K A X hQ => ?_)
  have hm1 : ¬ (-1 : Int32) = oo := by
    obtain ⟨m9, h9, e9⟩ := hoo
    rw [e9]
    exact fun z => nI_nm1 (by omega) z.symm
  have E19 : ∀ vv : Int32, uB kk oo = decide (vv = oo) → GW K 3 E wd A 19 [some (.int (nI kk)), some (.int oo), some (.int (vv))] [] h := by
    intro vv hr
    refine P_iload2 X 20 dX9_isUnder_19 rfl ?_
    refine P_iload1 X 21 dX9_isUnder_20 rfl ?_
    refine P_icmp_ne X 28 24 dX9_isUnder_21 rfl rfl (fun b21 => ?_) (fun b21 => ?_)
    · refine P_iconst X (0) rfl 29 dX9_isUnder_28 rfl ?_
      exact P_zret X hQ dX9_isUnder_29 (Or.inl rfl) (rt0 (by rw [hr]; simp [b21]))
    · refine P_iconst X (1) rfl 25 dX9_isUnder_24 rfl ?_
      refine P_goto X 29 dX9_isUnder_25 rfl ?_
      exact P_zret X hQ dX9_isUnder_29 (Or.inr rfl) (rt1 (by rw [hr, b21]; simp))
  have Ex : uB kk oo = false → GW K 3 E wd A 2 [some (.int (nI kk)), some (.int oo), some (.int (-1))] [] h := by
    intro hr
    refine P_iload2 X 3 dX9_isUnder_2 rfl ?_
    refine P_if_lt X 19 6 dX9_isUnder_3 rfl rfl (fun b3 => ?_) (fun b3 => ?_)
    · exact E19 _ (by rw [hr]; simp [hm1])
    · exact absurd (by decide) b3
  have It : ∀ jj : Nat, jj < 5 → (nI jj = oo → uB kk oo = true) → (¬ nI jj = oo → GW K 3 E wd A 2 [some (.int (nI kk)), some (.int oo), some (.int (abv jj))] [] h) → GW K 3 E wd A 2 [some (.int (nI kk)), some (.int oo), some (.int (nI jj))] [] h := by
    intro jj hjj h1 h2
    refine P_iload2 X 3 dX9_isUnder_2 rfl ?_
    refine P_if_lt X 19 6 dX9_isUnder_3 rfl rfl (fun b3 => ?_) (fun b3 => ?_)
    · exact absurd b3 (nI_pos (by omega))
    · refine P_iload2 X 7 dX9_isUnder_6 rfl ?_
      refine P_iload1 X 8 dX9_isUnder_7 rfl ?_
      refine P_icmp_eq X 19 11 dX9_isUnder_8 rfl rfl (fun b8 => ?_) (fun b8 => ?_)
      · exact E19 _ (by rw [h1 b8]; simp [b8])
      · refine P_iload2 X 12 dX9_isUnder_11 rfl ?_
        refine S1r X 15 dX9_isUnder_12 rfl lk_X9_121 ms_X9_above rfl (by omega) (Nat.le_of_ble_eq_true rfl) (k_X9_above (by omega) hjj) ?_
        refine P_istore2 X 16 dX9_isUnder_15 rfl (by decide) rfl ?_
        refine P_goto X 2 dX9_isUnder_16 rfl ?_
        exact h2 b8
  refine P_iload0 X 1 dX9_isUnder_0 rfl ?_
  refine P_istore2 X 2 dX9_isUnder_1 rfl (by decide) rfl ?_
  rcases (show kk = 0 ∨ kk = 1 ∨ kk = 2 ∨ kk = 3 ∨ kk = 4 by omega) with rfl | rfl | rfl | rfl | rfl
  · exact It 0 (by omega) (fun e9 => by simp [uB, e9]) (fun n0 => Ex (by simp [uB, n0]))
  · exact It 1 (by omega) (fun e9 => by simp [uB, e9]) (fun n1 => It 0 (by omega) (fun e9 => by simp [uB, e9]) (fun n0 => Ex (by simp [uB, n0, n1])))
  · exact It 2 (by omega) (fun e9 => by simp [uB, e9]) (fun n1 => It 0 (by omega) (fun e9 => by simp [uB, e9]) (fun n0 => Ex (by simp [uB, n0, n1])))
  · exact It 3 (by omega) (fun e9 => by simp [uB, e9]) (fun n1 => It 0 (by omega) (fun e9 => by simp [uB, e9]) (fun n0 => Ex (by simp [uB, n0, n1])))
  · exact It 4 (by omega) (fun e9 => by simp [uB, e9]) (fun n1 => It 2 (by omega) (fun e9 => by simp [uB, e9]) (fun n2 => It 0 (by omega) (fun e9 => by simp [uB, e9]) (fun n0 => Ex (by simp [uB, n0, n1, n2]))))
def okAs (x a k : Int32) : Bool := inB a 0 (x - 1) && inB k 0 4
set_option maxHeartbeats 4000000 in
set_option maxRecDepth 100000 in
theorem k_X8_as {d : Nat} {E : Ev} {n : Nat} {a k : Int32} {h : Hp} (hd : 3 ≤ d) (hc : h 1 8 = nI n) (hn : n ≤ 40) (hk5 : Bd (h 12) 5) : Cl d yX8_as cX8_as 3 (some .int) E (wdX E) [.ref (E.2.2.1 0), .int a, .int k] h (Rt (some (.int (if okAs (h 1 8) a k then (if uB (tn (h 12 (tn a))) k then h 17 (tn a) else -1000003) else -1000001))) (if okAs (h 1 8) a k then (if uB (tn (h 12 (tn a))) k then h else fiX h) else fiX h)) := by
  refine Cl_of [some (.ref (E.2.2.1 0)), some (.int a), some (.int k)] (by decide) rfl (Nat.le_of_ble_eq_true rfl) (fun K A X hQ => ?_)
  refine P_aload0 X 1 dX8_as_0 rfl ?_
  refine P_iload1 X 2 dX8_as_1 rfl ?_
  refine V1r X 0 5 dX8_as_2 rfl lk_X8_109 mv_X8_isAsk rfl (by omega) (Nat.le_of_ble_eq_true rfl) (Nat.le_of_ble_eq_true rfl) rfl rfl (k_X8_isAsk (by omega)) ?_
  refine P_bz X 15 8 dX8_as_5 rfl rfl (fun b5 => ?_) (fun b5 => ?_)
  · refine P_aload0 X 16 dX8_as_15 rfl ?_
    refine P_ldc X kc_X8_90 18 dX8_as_16 rfl ?_
    refine V1r X 0 21 dX8_as_18 rfl lk_X8_91 mv_X8_finding rfl (by omega) (Nat.le_of_ble_eq_true rfl) (Nat.le_of_ble_eq_true rfl) rfl rfl (k_X8_finding (by omega)) ?_
    exact P_iret X hQ dX8_as_21 ⟨by simp [okAs, b5], by simp [okAs, b5, fiX]⟩
  · refine P_iload2 X 9 dX8_as_8 rfl ?_
    refine S1r X 12 dX8_as_9 rfl lk_X8_83 ms_X8_isKind rfl (by omega) (Nat.le_of_ble_eq_true rfl) (k_X8_isKind (by omega)) ?_
    refine P_bn X 22 15 dX8_as_12 rfl rfl (fun b12 => ?_) (fun b12 => ?_)
    · obtain ⟨a, ha, rfl⟩ := inB_ix hc b5 hn
      have ha31 : a < 2 ^ 31 := by omega
      obtain ⟨kk, hkk, ek⟩ := hk5 a
      have hk31 : kk < 2 ^ 31 := by omega
      refine P_aload0 X 23 dX8_as_22 rfl ?_
      refine gX_0_0 X 26 dX8_as_23 rfl fl_X8_10 ?_
      refine gX_1_0 X 29 dX8_as_26 rfl fl_X8_120 ?_
      refine P_iload1 X 30 dX8_as_29 rfl ?_
      refine lX_12 X 31 dX8_as_30 rfl rfl (by omega) ?_
      refine P_top ek ?_
      refine P_iload2 X 32 dX8_as_31 rfl ?_
      refine S2r X 35 dX8_as_32 rfl lk_X8_123 ms_X8_isOrIsUnder rfl (by omega) (Nat.le_of_ble_eq_true rfl) (k_X8_isOrIsUnder (by omega) hkk ) ?_
      refine P_bn X 45 38 dX8_as_35 rfl rfl (fun b35 => ?_) (fun b35 => ?_)
      · refine P_aload0 X 46 dX8_as_45 rfl ?_
        refine gX_0_0 X 49 dX8_as_46 rfl fl_X8_10 ?_
        refine gX_1_5 X 52 dX8_as_49 rfl fl_X8_127 ?_
        refine P_iload1 X 53 dX8_as_52 rfl ?_
        refine lX_17 X 54 dX8_as_53 rfl rfl (by omega) ?_
        exact P_iret X hQ dX8_as_54 ⟨by simp [okAs, b5, b12, tn, nI_clamp ha31, ek, nI_clamp hk31, b35], by simp [okAs, b5, b12, tn, nI_clamp ha31, ek, nI_clamp hk31, b35, fiX]⟩
      · refine P_aload0 X 39 dX8_as_38 rfl ?_
        refine P_ldc X kc_X8_126 41 dX8_as_39 rfl ?_
        refine V1r X 0 44 dX8_as_41 rfl lk_X8_91 mv_X8_finding rfl (by omega) (Nat.le_of_ble_eq_true rfl) (Nat.le_of_ble_eq_true rfl) rfl rfl (k_X8_finding (by omega)) ?_
        exact P_iret X hQ dX8_as_44 ⟨by simp [okAs, b5, b12, tn, nI_clamp ha31, ek, nI_clamp hk31, b35], by simp [okAs, b5, b12, tn, nI_clamp ha31, ek, nI_clamp hk31, b35, fiX]⟩
    · refine P_aload0 X 16 dX8_as_15 rfl ?_
      refine P_ldc X kc_X8_90 18 dX8_as_16 rfl ?_
      refine V1r X 0 21 dX8_as_18 rfl lk_X8_91 mv_X8_finding rfl (by omega) (Nat.le_of_ble_eq_true rfl) (Nat.le_of_ble_eq_true rfl) rfl rfl (k_X8_finding (by omega)) ?_
      exact P_iret X hQ dX8_as_21 ⟨by simp [okAs, b5, b12], by simp [okAs, b5, b12, fiX]⟩
set_option maxHeartbeats 4000000 in
set_option maxRecDepth 100000 in
theorem k_X9_as {d : Nat} {E : Ev} {n : Nat} {a k : Int32} {h : Hp} (hd : 3 ≤ d) (hc : h 0 1 = nI n) (hn : n ≤ 40) (hk5 : Bd (h 1) 5) : Cl d yX9_as cX9_as 3 (some .int) E (wdY E) [.ref (E.2.2.1 0), .int a, .int k] h (Rt (some (.int (if okAs (h 0 1) a k then (if uB (tn (h 1 (tn a))) k then h 6 (tn a) else -1000003) else -1000001))) (if okAs (h 0 1) a k then (if uB (tn (h 1 (tn a))) k then h else fiY h) else fiY h)) := by
  refine Cl_of [some (.ref (E.2.2.1 0)), some (.int a), some (.int k)] (by decide) rfl (Nat.le_of_ble_eq_true rfl) (fun K A X hQ => ?_)
  refine P_aload0 X 1 dX9_as_0 rfl ?_
  refine P_iload1 X 2 dX9_as_1 rfl ?_
  refine V1r X 0 5 dX9_as_2 rfl lk_X9_153 mv_X9_isAsk rfl (by omega) (Nat.le_of_ble_eq_true rfl) (Nat.le_of_ble_eq_true rfl) rfl rfl (k_X9_isAsk (by omega)) ?_
  refine P_bz X 15 8 dX9_as_5 rfl rfl (fun b5 => ?_) (fun b5 => ?_)
  · refine P_aload0 X 16 dX9_as_15 rfl ?_
    refine P_ldc X kc_X9_144 18 dX9_as_16 rfl ?_
    refine V1r X 0 21 dX9_as_18 rfl lk_X9_145 mv_X9_finding rfl (by omega) (Nat.le_of_ble_eq_true rfl) (Nat.le_of_ble_eq_true rfl) rfl rfl (k_X9_finding (by omega)) ?_
    exact P_iret X hQ dX9_as_21 ⟨by simp [okAs, b5], by simp [okAs, b5, fiY]⟩
  · refine P_iload2 X 9 dX9_as_8 rfl ?_
    refine S1r X 12 dX9_as_9 rfl lk_X9_133 ms_X9_isKind rfl (by omega) (Nat.le_of_ble_eq_true rfl) (k_X9_isKind (by omega)) ?_
    refine P_bn X 22 15 dX9_as_12 rfl rfl (fun b12 => ?_) (fun b12 => ?_)
    · obtain ⟨a, ha, rfl⟩ := inB_ix hc b5 hn
      have ha31 : a < 2 ^ 31 := by omega
      obtain ⟨kk, hkk, ek⟩ := hk5 a
      have hk31 : kk < 2 ^ 31 := by omega
      refine P_aload0 X 23 dX9_as_22 rfl ?_
      refine gY_0_2 X 26 dX9_as_23 rfl fl_X9_7 ?_
      refine P_iload1 X 27 dX9_as_26 rfl ?_
      refine lY_1 X 28 dX9_as_27 rfl rfl (by omega) ?_
      refine P_top ek ?_
      refine P_iload2 X 29 dX9_as_28 rfl ?_
      refine S2r X 32 dX9_as_29 rfl lk_X9_159 ms_X9_isUnder rfl (by omega) (Nat.le_of_ble_eq_true rfl) (k_X9_isUnder (by omega) hkk (inB_ex 4 b12)) ?_
      refine P_bz X 44 35 dX9_as_32 rfl rfl (fun b32 => ?_) (fun b32 => ?_)
      · refine P_aload0 X 45 dX9_as_44 rfl ?_
        refine P_ldc X kc_X9_162 47 dX9_as_45 rfl ?_
        refine V1r X 0 50 dX9_as_47 rfl lk_X9_145 mv_X9_finding rfl (by omega) (Nat.le_of_ble_eq_true rfl) (Nat.le_of_ble_eq_true rfl) rfl rfl (k_X9_finding (by omega)) ?_
        exact P_iret X hQ dX9_as_50 ⟨by simp [okAs, b5, b12, tn, nI_clamp ha31, ek, nI_clamp hk31, b32], by simp [okAs, b5, b12, tn, nI_clamp ha31, ek, nI_clamp hk31, b32, fiY]⟩
      · refine P_aload0 X 36 dX9_as_35 rfl ?_
        refine gY_0_7 X 39 dX9_as_36 rfl fl_X9_25 ?_
        refine P_iload1 X 40 dX9_as_39 rfl ?_
        refine lY_6 X 41 dX9_as_40 rfl rfl (by omega) ?_
        refine P_goto X 50 dX9_as_41 rfl ?_
        exact P_iret X hQ dX9_as_50 ⟨by simp [okAs, b5, b12, tn, nI_clamp ha31, ek, nI_clamp hk31, b32], by simp [okAs, b5, b12, tn, nI_clamp ha31, ek, nI_clamp hk31, b32, fiY]⟩
    · refine P_aload0 X 16 dX9_as_15 rfl ?_
      refine P_ldc X kc_X9_144 18 dX9_as_16 rfl ?_
      refine V1r X 0 21 dX9_as_18 rfl lk_X9_145 mv_X9_finding rfl (by omega) (Nat.le_of_ble_eq_true rfl) (Nat.le_of_ble_eq_true rfl) rfl rfl (k_X9_finding (by omega)) ?_
      exact P_iret X hQ dX9_as_21 ⟨by simp [okAs, b5, b12], by simp [okAs, b5, b12, fiY]⟩
def dt2 (kd xs ys dy fa th op tc cd lk : Nat → Int32) (n t : Nat) (w : Int32) : Int32 := if w = 0 then kd (tn (fa t)) else if w = 1 then xs (tn (fa t)) else if w = 2 then ys (tn (fa t)) else if w = 3 then dy (tn (fa t)) else if w = 4 then nI (cnt (fun o => decide (th o = nI t)) n) else if w = 5 then bI (!decide (op t = 0)) else if w = 6 then tc t else if w = 7 then cd t else bI (decide (op t = 0) && !decide (lk t = 0))
def okTh (x t w : Int32) : Bool := inB t 0 (x - 1) && inB w 0 8
set_option maxHeartbeats 4000000 in
set_option maxRecDepth 100000 in
theorem k_X8_placeDetail {d : Nat} {E : Ev} {n t j9 : Nat} {h : Hp} (hd : 0 ≤ d) (ht : t < 40) (hfa : Bd (h 20) 40) (hj9 : j9 < 4) : Cl d yX8_placeDetail cX8_placeDetail 4 (some .int) E (wdX E) [.ref (E.2.2.1 0), .int (nI t), .int (nI j9)] h (Rt (some (.int (dt2 (h 12) (h 13) (h 14) (h 16) (h 20) (h 17) (h 21) (h 22) (h 23) (h 25) n t (nI j9)))) h) := by
  refine Cl_of [some (.ref (E.2.2.1 0)), some (.int (nI t)), some (.int (nI j9)), none] (by decide) rfl (Nat.le_of_ble_eq_true rfl) (fun K A X hQ => ?_)
  refine P_aload0 X 1 dX8_placeDetail_0 rfl ?_
  refine gX_0_1 X 4 dX8_placeDetail_1 rfl fl_X8_19 ?_
  refine gX_2_0 X 7 dX8_placeDetail_4 rfl fl_X8_322 ?_
  refine P_iload1 X 8 dX8_placeDetail_7 rfl ?_
  refine lX_20 X 9 dX8_placeDetail_8 rfl rfl (by omega) ?_
  obtain ⟨a, ha, ea⟩ := hfa t
  have ha31 : a < 2 ^ 31 := by omega
  refine P_top ea ?_
  refine P_istore3 X 10 dX8_placeDetail_9 rfl (by decide) rfl ?_
  refine P_iload2 X 11 dX8_placeDetail_10 rfl ?_
  rcases (show j9 = 0 ∨ j9 = 1 ∨ j9 = 2 ∨ j9 = 3 by omega) with rfl | rfl | rfl | rfl
  · refine P_tblIn X 36 dX8_placeDetail_11 (by decide) (by decide) rfl rfl ?_
    refine P_aload0 X 37 dX8_placeDetail_36 rfl ?_
    refine gX_0_0 X 40 dX8_placeDetail_37 rfl fl_X8_10 ?_
    refine gX_1_0 X 43 dX8_placeDetail_40 rfl fl_X8_120 ?_
    refine P_iload3 X 44 dX8_placeDetail_43 rfl ?_
    refine lX_12 X 45 dX8_placeDetail_44 rfl rfl (by omega) ?_
    exact P_iret X hQ dX8_placeDetail_45 (rti (by rw [show a = tn (h 20 t) by rw [ea]; exact (nI_clamp ha31).symm]; rfl))
  · refine P_tblIn X 46 dX8_placeDetail_11 (by decide) (by decide) rfl rfl ?_
    refine P_aload0 X 47 dX8_placeDetail_46 rfl ?_
    refine gX_0_0 X 50 dX8_placeDetail_47 rfl fl_X8_10 ?_
    refine gX_1_1 X 53 dX8_placeDetail_50 rfl fl_X8_331 ?_
    refine P_iload3 X 54 dX8_placeDetail_53 rfl ?_
    refine lX_13 X 55 dX8_placeDetail_54 rfl rfl (by omega) ?_
    exact P_iret X hQ dX8_placeDetail_55 (rti (by rw [show a = tn (h 20 t) by rw [ea]; exact (nI_clamp ha31).symm]; rfl))
  · refine P_tblIn X 56 dX8_placeDetail_11 (by decide) (by decide) rfl rfl ?_
    refine P_aload0 X 57 dX8_placeDetail_56 rfl ?_
    refine gX_0_0 X 60 dX8_placeDetail_57 rfl fl_X8_10 ?_
    refine gX_1_2 X 63 dX8_placeDetail_60 rfl fl_X8_334 ?_
    refine P_iload3 X 64 dX8_placeDetail_63 rfl ?_
    refine lX_14 X 65 dX8_placeDetail_64 rfl rfl (by omega) ?_
    exact P_iret X hQ dX8_placeDetail_65 (rti (by rw [show a = tn (h 20 t) by rw [ea]; exact (nI_clamp ha31).symm]; rfl))
  · refine P_tblOut X 66 dX8_placeDetail_11 (Or.inr (by decide)) rfl ?_
    refine P_aload0 X 67 dX8_placeDetail_66 rfl ?_
    refine gX_0_0 X 70 dX8_placeDetail_67 rfl fl_X8_10 ?_
    refine gX_1_4 X 73 dX8_placeDetail_70 rfl fl_X8_325 ?_
    refine P_iload3 X 74 dX8_placeDetail_73 rfl ?_
    refine lX_16 X 75 dX8_placeDetail_74 rfl rfl (by omega) ?_
    exact P_iret X hQ dX8_placeDetail_75 (rti (by rw [show a = tn (h 20 t) by rw [ea]; exact (nI_clamp ha31).symm]; rfl))
set_option maxHeartbeats 4000000 in
set_option maxRecDepth 100000 in
theorem k_X8_stateDetail {d : Nat} {E : Ev} {n t j9 : Nat} {h : Hp} (hd : 1 ≤ d) (hc : h 1 8 = nI n) (hn : n ≤ 40) (ht : t < 40) (hj9 : 4 ≤ j9) (hj8 : j9 < 9) : Cl d yX8_stateDetail cX8_stateDetail 3 (some .int) E (wdX E) [.ref (E.2.2.1 0), .int (nI t), .int (nI j9)] h (Rt (some (.int (dt2 (h 12) (h 13) (h 14) (h 16) (h 20) (h 17) (h 21) (h 22) (h 23) (h 25) n t (nI j9)))) h) := by
  refine Cl_of [some (.ref (E.2.2.1 0)), some (.int (nI t)), some (.int (nI j9))] (by decide) rfl (Nat.le_of_ble_eq_true rfl) (fun K A X hQ => ?_)
  refine P_iload2 X 1 dX8_stateDetail_0 rfl ?_
  rcases (show j9 = 4 ∨ j9 = 5 ∨ j9 = 6 ∨ j9 = 7 ∨ j9 = 8 by omega) with rfl | rfl | rfl | rfl | rfl
  · refine P_tblIn X 32 dX8_stateDetail_1 (by decide) (by decide) rfl rfl ?_
    refine P_aload0 X 33 dX8_stateDetail_32 rfl ?_
    refine gX_0_0 X 36 dX8_stateDetail_33 rfl fl_X8_10 ?_
    refine P_iload1 X 37 dX8_stateDetail_36 rfl ?_
    refine V1r X 1 40 dX8_stateDetail_37 rfl lk_X8_337 mv_X0_countOfThing rfl (by omega) (Nat.le_of_ble_eq_true rfl) (Nat.le_of_ble_eq_true rfl) rfl rfl (k_X0_countOfThing (by omega) hc hn) ?_
    exact P_iret X hQ dX8_stateDetail_40 (rti rfl)
  · refine P_tblIn X 41 dX8_stateDetail_1 (by decide) (by decide) rfl rfl ?_
    refine P_aload0 X 42 dX8_stateDetail_41 rfl ?_
    refine gX_0_1 X 45 dX8_stateDetail_42 rfl fl_X8_19 ?_
    refine gX_2_1 X 48 dX8_stateDetail_45 rfl fl_X8_218 ?_
    refine P_iload1 X 49 dX8_stateDetail_48 rfl ?_
    refine lX_21 X 50 dX8_stateDetail_49 rfl rfl (by omega) ?_
    refine P_if_eq X 57 53 dX8_stateDetail_50 rfl rfl (fun b50 => ?_) (fun b50 => ?_)
    · refine P_iconst X (0) rfl 58 dX8_stateDetail_57 rfl ?_
      exact P_iret X hQ dX8_stateDetail_58 (rti (by show _ = bI _; simp [b50, bI]))
    · refine P_iconst X (1) rfl 54 dX8_stateDetail_53 rfl ?_
      refine P_goto X 58 dX8_stateDetail_54 rfl ?_
      exact P_iret X hQ dX8_stateDetail_58 (rti (by show _ = bI _; simp [b50, bI]))
  · refine P_tblIn X 59 dX8_stateDetail_1 (by decide) (by decide) rfl rfl ?_
    refine P_aload0 X 60 dX8_stateDetail_59 rfl ?_
    refine gX_0_1 X 63 dX8_stateDetail_60 rfl fl_X8_19 ?_
    refine gX_2_2 X 66 dX8_stateDetail_63 rfl fl_X8_340 ?_
    refine P_iload1 X 67 dX8_stateDetail_66 rfl ?_
    refine lX_22 X 68 dX8_stateDetail_67 rfl rfl (by omega) ?_
    exact P_iret X hQ dX8_stateDetail_68 (rti rfl)
  · refine P_tblIn X 69 dX8_stateDetail_1 (by decide) (by decide) rfl rfl ?_
    refine P_aload0 X 70 dX8_stateDetail_69 rfl ?_
    refine gX_0_1 X 73 dX8_stateDetail_70 rfl fl_X8_19 ?_
    refine gX_2_3 X 76 dX8_stateDetail_73 rfl fl_X8_343 ?_
    refine P_iload1 X 77 dX8_stateDetail_76 rfl ?_
    refine lX_23 X 78 dX8_stateDetail_77 rfl rfl (by omega) ?_
    exact P_iret X hQ dX8_stateDetail_78 (rti rfl)
  · refine P_tblOut X 79 dX8_stateDetail_1 (Or.inr (by decide)) rfl ?_
    refine P_aload0 X 80 dX8_stateDetail_79 rfl ?_
    refine gX_0_1 X 83 dX8_stateDetail_80 rfl fl_X8_19 ?_
    refine gX_2_1 X 86 dX8_stateDetail_83 rfl fl_X8_218 ?_
    refine P_iload1 X 87 dX8_stateDetail_86 rfl ?_
    refine lX_21 X 88 dX8_stateDetail_87 rfl rfl (by omega) ?_
    refine P_if_ne X 107 91 dX8_stateDetail_88 rfl rfl (fun b88 => ?_) (fun b88 => ?_)
    · refine P_iconst X (0) rfl 108 dX8_stateDetail_107 rfl ?_
      exact P_iret X hQ dX8_stateDetail_108 (rti (by show _ = bI _; simp [b88, bI]))
    · refine P_aload0 X 92 dX8_stateDetail_91 rfl ?_
      refine gX_0_1 X 95 dX8_stateDetail_92 rfl fl_X8_19 ?_
      refine gX_2_5 X 98 dX8_stateDetail_95 rfl fl_X8_230 ?_
      refine P_iload1 X 99 dX8_stateDetail_98 rfl ?_
      refine lX_25 X 100 dX8_stateDetail_99 rfl rfl (by omega) ?_
      refine P_if_eq X 107 103 dX8_stateDetail_100 rfl rfl (fun b100 => ?_) (fun b100 => ?_)
      · refine P_iconst X (0) rfl 108 dX8_stateDetail_107 rfl ?_
        exact P_iret X hQ dX8_stateDetail_108 (rti (by show _ = bI _; simp [b88, b100, bI]))
      · refine P_iconst X (1) rfl 104 dX8_stateDetail_103 rfl ?_
        refine P_goto X 108 dX8_stateDetail_104 rfl ?_
        exact P_iret X hQ dX8_stateDetail_108 (rti (by show _ = bI _; simp [b88, b100, bI]))
set_option maxHeartbeats 4000000 in
set_option maxRecDepth 100000 in
theorem k_X8_thing {d : Nat} {E : Ev} {n nT : Nat} {t w : Int32} {h : Hp} (hd : 3 ≤ d) (hc : h 1 8 = nI n) (hn : n ≤ 40) (hT : h 2 6 = nI nT) (hnT : nT ≤ 40) (hfa : Bd (h 20) 40) : Cl d yX8_thing cX8_thing 3 (some .int) E (wdX E) [.ref (E.2.2.1 0), .int t, .int w] h (Rt (some (.int (if okTh (h 2 6) t w then dt2 (h 12) (h 13) (h 14) (h 16) (h 20) (h 17) (h 21) (h 22) (h 23) (h 25) n (tn t) w else -1000001))) (if okTh (h 2 6) t w then h else fiX h)) := by
  refine Cl_of [some (.ref (E.2.2.1 0)), some (.int t), some (.int w)] (by decide) rfl (Nat.le_of_ble_eq_true rfl) (fun K A X hQ => ?_)
  refine P_aload0 X 1 dX8_thing_0 rfl ?_
  refine P_iload1 X 2 dX8_thing_1 rfl ?_
  refine V1r X 0 5 dX8_thing_2 rfl lk_X8_135 mv_X8_isThing rfl (by omega) (Nat.le_of_ble_eq_true rfl) (Nat.le_of_ble_eq_true rfl) rfl rfl (k_X8_isThing (by omega)) ?_
  refine P_bz X 18 8 dX8_thing_5 rfl rfl (fun b5 => ?_) (fun b5 => ?_)
  · refine P_aload0 X 19 dX8_thing_18 rfl ?_
    refine P_ldc X kc_X8_90 21 dX8_thing_19 rfl ?_
    refine V1r X 0 24 dX8_thing_21 rfl lk_X8_91 mv_X8_finding rfl (by omega) (Nat.le_of_ble_eq_true rfl) (Nat.le_of_ble_eq_true rfl) rfl rfl (k_X8_finding (by omega)) ?_
    exact P_iret X hQ dX8_thing_24 ⟨by simp [okTh, b5], by simp [okTh, b5, fiX]⟩
  · refine P_iload2 X 9 dX8_thing_8 rfl ?_
    refine P_iconst X (0) rfl 10 dX8_thing_9 rfl ?_
    refine P_bipush X (8) rfl 12 dX8_thing_10 rfl ?_
    refine S3r X 15 dX8_thing_12 rfl lk_X8_79 ms_X8_within rfl (by omega) (Nat.le_of_ble_eq_true rfl) (k_X8_within (by omega)) ?_
    refine P_bn X 25 18 dX8_thing_15 rfl rfl (fun b15 => ?_) (fun b15 => ?_)
    · obtain ⟨t, ht, rfl⟩ := inB_ix hT b5 hnT
      have ht31 : t < 2 ^ 31 := by omega
      obtain ⟨j9, hj9, rfl⟩ := inB_ex 8 b15
      refine P_iload2 X 26 dX8_thing_25 rfl ?_
      refine P_iconst X (4) rfl 27 dX8_thing_26 rfl ?_
      refine P_icmp_ge X 39 30 dX8_thing_27 rfl rfl (fun b27 => ?_) (fun b27 => ?_)
      · have h4 : 4 ≤ j9 := (nI_leI (a := 4) (by decide) (by omega)).mp b27
        refine P_aload0 X 40 dX8_thing_39 rfl ?_
        refine P_iload1 X 41 dX8_thing_40 rfl ?_
        refine P_iload2 X 42 dX8_thing_41 rfl ?_
        refine V2r X 0 45 dX8_thing_42 rfl lk_X8_141 mv_X8_stateDetail rfl (by omega) (Nat.le_of_ble_eq_true rfl) (Nat.le_of_ble_eq_true rfl) rfl rfl (k_X8_stateDetail (by omega) hc hn (by omega) h4 (by omega)) ?_
        exact P_iret X hQ dX8_thing_45 ⟨by rw [if_pos (by simp [okTh, b5, b15]), tn, nI_clamp ht31], by simp [okTh, b5, b15]⟩
      · have h4 : j9 < 4 := Nat.lt_of_not_le (fun z => b27 (nI_le (a := 4) z (by omega)))
        refine P_aload0 X 31 dX8_thing_30 rfl ?_
        refine P_iload1 X 32 dX8_thing_31 rfl ?_
        refine P_iload2 X 33 dX8_thing_32 rfl ?_
        refine V2r X 0 36 dX8_thing_33 rfl lk_X8_138 mv_X8_placeDetail rfl (by omega) (Nat.le_of_ble_eq_true rfl) (Nat.le_of_ble_eq_true rfl) rfl rfl (k_X8_placeDetail (n := n) (by omega) (by omega) hfa h4) ?_
        refine P_goto X 45 dX8_thing_36 rfl ?_
        exact P_iret X hQ dX8_thing_45 ⟨by rw [if_pos (by simp [okTh, b5, b15]), tn, nI_clamp ht31], by simp [okTh, b5, b15]⟩
    · refine P_aload0 X 19 dX8_thing_18 rfl ?_
      refine P_ldc X kc_X8_90 21 dX8_thing_19 rfl ?_
      refine V1r X 0 24 dX8_thing_21 rfl lk_X8_91 mv_X8_finding rfl (by omega) (Nat.le_of_ble_eq_true rfl) (Nat.le_of_ble_eq_true rfl) rfl rfl (k_X8_finding (by omega)) ?_
      exact P_iret X hQ dX8_thing_24 ⟨by simp [okTh, b5, b15], by simp [okTh, b5, b15, fiX]⟩
set_option maxHeartbeats 4000000 in
set_option maxRecDepth 100000 in
theorem k_X9_thing {d : Nat} {E : Ev} {n nT : Nat} {t w : Int32} {h : Hp} (hd : 2 ≤ d) (hc : h 0 1 = nI n) (hn : n ≤ 40) (hT : h 0 10 = nI nT) (hnT : nT ≤ 40) (hfa : Bd (h 9) 40) : Cl d yX9_thing cX9_thing 3 (some .int) E (wdY E) [.ref (E.2.2.1 0), .int t, .int w] h (Rt (some (.int (if okTh (h 0 10) t w then dt2 (h 1) (h 2) (h 3) (h 5) (h 9) (h 6) (h 10) (h 11) (h 12) (h 14) n (tn t) w else -1000001))) (if okTh (h 0 10) t w then h else fiY h)) := by
  refine Cl_of [some (.ref (E.2.2.1 0)), some (.int t), some (.int w)] (by decide) rfl (Nat.le_of_ble_eq_true rfl) (fun K A X hQ => ?_)
  refine P_aload0 X 1 dX9_thing_0 rfl ?_
  refine P_iload1 X 2 dX9_thing_1 rfl ?_
  refine V1r X 0 5 dX9_thing_2 rfl lk_X9_164 mv_X9_isThing rfl (by omega) (Nat.le_of_ble_eq_true rfl) (Nat.le_of_ble_eq_true rfl) rfl rfl (k_X9_isThing (by omega)) ?_
  refine P_bz X 18 8 dX9_thing_5 rfl rfl (fun b5 => ?_) (fun b5 => ?_)
  · refine P_aload0 X 19 dX9_thing_18 rfl ?_
    refine P_ldc X kc_X9_144 21 dX9_thing_19 rfl ?_
    refine V1r X 0 24 dX9_thing_21 rfl lk_X9_145 mv_X9_finding rfl (by omega) (Nat.le_of_ble_eq_true rfl) (Nat.le_of_ble_eq_true rfl) rfl rfl (k_X9_finding (by omega)) ?_
    exact P_iret X hQ dX9_thing_24 ⟨by simp [okTh, b5], by simp [okTh, b5, fiY]⟩
  · refine P_iload2 X 9 dX9_thing_8 rfl ?_
    refine P_iconst X (0) rfl 10 dX9_thing_9 rfl ?_
    refine P_bipush X (8) rfl 12 dX9_thing_10 rfl ?_
    refine S3r X 15 dX9_thing_12 rfl lk_X9_111 ms_X9_in rfl (by omega) (Nat.le_of_ble_eq_true rfl) (k_X9_in (by omega)) ?_
    refine P_bn X 25 18 dX9_thing_15 rfl rfl (fun b15 => ?_) (fun b15 => ?_)
    · obtain ⟨t, ht, rfl⟩ := inB_ix hT b5 hnT
      have ht31 : t < 2 ^ 31 := by omega
      obtain ⟨j9, hj9, rfl⟩ := inB_ex 8 b15
      obtain ⟨a, ha, ea⟩ := hfa t
      have ha31 : a < 2 ^ 31 := by omega
      refine P_iload2 X 26 dX9_thing_25 rfl ?_
      rcases (show j9 = 0 ∨ j9 = 1 ∨ j9 = 2 ∨ j9 = 3 ∨ j9 = 4 ∨ j9 = 5 ∨ j9 = 6 ∨ j9 = 7 ∨ j9 = 8 by omega) with rfl | rfl | rfl | rfl | rfl | rfl | rfl | rfl | rfl
      · refine P_tblIn X 72 dX9_thing_26 (by decide) (by decide) rfl rfl ?_
        refine P_aload0 X 73 dX9_thing_72 rfl ?_
        refine gY_0_2 X 76 dX9_thing_73 rfl fl_X9_7 ?_
        refine P_aload0 X 77 dX9_thing_76 rfl ?_
        refine gY_0_11 X 80 dX9_thing_77 rfl fl_X9_34 ?_
        refine P_iload1 X 81 dX9_thing_80 rfl ?_
        refine lY_9 X 82 dX9_thing_81 rfl rfl (by omega) ?_
        refine lY_1 X 83 dX9_thing_82 rfl ea ha ?_
        exact P_iret X hQ dX9_thing_83 ⟨by rw [if_pos (by simp [okTh, b5, b15]), tn, nI_clamp ht31]; rw [show a = tn (h 9 t) by rw [ea]; exact (nI_clamp ha31).symm]; rfl, by simp [okTh, b5, b15]⟩
      · refine P_tblIn X 84 dX9_thing_26 (by decide) (by decide) rfl rfl ?_
        refine P_aload0 X 85 dX9_thing_84 rfl ?_
        refine gY_0_3 X 88 dX9_thing_85 rfl fl_X9_13 ?_
        refine P_aload0 X 89 dX9_thing_88 rfl ?_
        refine gY_0_11 X 92 dX9_thing_89 rfl fl_X9_34 ?_
        refine P_iload1 X 93 dX9_thing_92 rfl ?_
        refine lY_9 X 94 dX9_thing_93 rfl rfl (by omega) ?_
        refine lY_2 X 95 dX9_thing_94 rfl ea ha ?_
        exact P_iret X hQ dX9_thing_95 ⟨by rw [if_pos (by simp [okTh, b5, b15]), tn, nI_clamp ht31]; rw [show a = tn (h 9 t) by rw [ea]; exact (nI_clamp ha31).symm]; rfl, by simp [okTh, b5, b15]⟩
      · refine P_tblIn X 96 dX9_thing_26 (by decide) (by decide) rfl rfl ?_
        refine P_aload0 X 97 dX9_thing_96 rfl ?_
        refine gY_0_4 X 100 dX9_thing_97 rfl fl_X9_16 ?_
        refine P_aload0 X 101 dX9_thing_100 rfl ?_
        refine gY_0_11 X 104 dX9_thing_101 rfl fl_X9_34 ?_
        refine P_iload1 X 105 dX9_thing_104 rfl ?_
        refine lY_9 X 106 dX9_thing_105 rfl rfl (by omega) ?_
        refine lY_3 X 107 dX9_thing_106 rfl ea ha ?_
        exact P_iret X hQ dX9_thing_107 ⟨by rw [if_pos (by simp [okTh, b5, b15]), tn, nI_clamp ht31]; rw [show a = tn (h 9 t) by rw [ea]; exact (nI_clamp ha31).symm]; rfl, by simp [okTh, b5, b15]⟩
      · refine P_tblIn X 108 dX9_thing_26 (by decide) (by decide) rfl rfl ?_
        refine P_aload0 X 109 dX9_thing_108 rfl ?_
        refine gY_0_6 X 112 dX9_thing_109 rfl fl_X9_22 ?_
        refine P_aload0 X 113 dX9_thing_112 rfl ?_
        refine gY_0_11 X 116 dX9_thing_113 rfl fl_X9_34 ?_
        refine P_iload1 X 117 dX9_thing_116 rfl ?_
        refine lY_9 X 118 dX9_thing_117 rfl rfl (by omega) ?_
        refine lY_5 X 119 dX9_thing_118 rfl ea ha ?_
        exact P_iret X hQ dX9_thing_119 ⟨by rw [if_pos (by simp [okTh, b5, b15]), tn, nI_clamp ht31]; rw [show a = tn (h 9 t) by rw [ea]; exact (nI_clamp ha31).symm]; rfl, by simp [okTh, b5, b15]⟩
      · refine P_tblIn X 120 dX9_thing_26 (by decide) (by decide) rfl rfl ?_
        refine P_aload0 X 121 dX9_thing_120 rfl ?_
        refine P_iload1 X 122 dX9_thing_121 rfl ?_
        refine V1r X 0 125 dX9_thing_122 rfl lk_X9_167 mv_X9_asksOf rfl (by omega) (Nat.le_of_ble_eq_true rfl) (Nat.le_of_ble_eq_true rfl) rfl rfl (k_X9_asksOf (by omega) hc hn) ?_
        exact P_iret X hQ dX9_thing_125 ⟨by rw [if_pos (by simp [okTh, b5, b15]), tn, nI_clamp ht31]; rfl, by simp [okTh, b5, b15]⟩
      · refine P_tblIn X 126 dX9_thing_26 (by decide) (by decide) rfl rfl ?_
        refine P_aload0 X 127 dX9_thing_126 rfl ?_
        refine gY_0_12 X 130 dX9_thing_127 rfl fl_X9_37 ?_
        refine P_iload1 X 131 dX9_thing_130 rfl ?_
        refine lY_10 X 132 dX9_thing_131 rfl rfl (by omega) ?_
        refine P_if_eq X 139 135 dX9_thing_132 rfl rfl (fun b132 => ?_) (fun b132 => ?_)
        · refine P_iconst X (0) rfl 140 dX9_thing_139 rfl ?_
          exact P_iret X hQ dX9_thing_140 ⟨by rw [if_pos (by simp [okTh, b5, b15]), tn, nI_clamp ht31]; refine congrArg (fun z => some (Value.int z)) ?_; show _ = bI _; simp [b132, bI], by simp [okTh, b5, b15]⟩
        · refine P_iconst X (1) rfl 136 dX9_thing_135 rfl ?_
          refine P_goto X 140 dX9_thing_136 rfl ?_
          exact P_iret X hQ dX9_thing_140 ⟨by rw [if_pos (by simp [okTh, b5, b15]), tn, nI_clamp ht31]; refine congrArg (fun z => some (Value.int z)) ?_; show _ = bI _; simp [b132, bI], by simp [okTh, b5, b15]⟩
      · refine P_tblIn X 141 dX9_thing_26 (by decide) (by decide) rfl rfl ?_
        refine P_aload0 X 142 dX9_thing_141 rfl ?_
        refine gY_0_13 X 145 dX9_thing_142 rfl fl_X9_41 ?_
        refine P_iload1 X 146 dX9_thing_145 rfl ?_
        refine lY_11 X 147 dX9_thing_146 rfl rfl (by omega) ?_
        exact P_iret X hQ dX9_thing_147 ⟨by rw [if_pos (by simp [okTh, b5, b15]), tn, nI_clamp ht31]; rfl, by simp [okTh, b5, b15]⟩
      · refine P_tblIn X 148 dX9_thing_26 (by decide) (by decide) rfl rfl ?_
        refine P_aload0 X 149 dX9_thing_148 rfl ?_
        refine gY_0_14 X 152 dX9_thing_149 rfl fl_X9_44 ?_
        refine P_iload1 X 153 dX9_thing_152 rfl ?_
        refine lY_12 X 154 dX9_thing_153 rfl rfl (by omega) ?_
        exact P_iret X hQ dX9_thing_154 ⟨by rw [if_pos (by simp [okTh, b5, b15]), tn, nI_clamp ht31]; rfl, by simp [okTh, b5, b15]⟩
      · refine P_tblOut X 155 dX9_thing_26 (Or.inr (by decide)) rfl ?_
        refine P_aload0 X 156 dX9_thing_155 rfl ?_
        refine gY_0_12 X 159 dX9_thing_156 rfl fl_X9_37 ?_
        refine P_iload1 X 160 dX9_thing_159 rfl ?_
        refine lY_10 X 161 dX9_thing_160 rfl rfl (by omega) ?_
        refine P_if_ne X 177 164 dX9_thing_161 rfl rfl (fun b161 => ?_) (fun b161 => ?_)
        · refine P_iconst X (0) rfl 178 dX9_thing_177 rfl ?_
          exact P_iret X hQ dX9_thing_178 ⟨by rw [if_pos (by simp [okTh, b5, b15]), tn, nI_clamp ht31]; refine congrArg (fun z => some (Value.int z)) ?_; show _ = bI _; simp [b161, bI], by simp [okTh, b5, b15]⟩
        · refine P_aload0 X 165 dX9_thing_164 rfl ?_
          refine gY_0_16 X 168 dX9_thing_165 rfl fl_X9_50 ?_
          refine P_iload1 X 169 dX9_thing_168 rfl ?_
          refine lY_14 X 170 dX9_thing_169 rfl rfl (by omega) ?_
          refine P_if_eq X 177 173 dX9_thing_170 rfl rfl (fun b170 => ?_) (fun b170 => ?_)
          · refine P_iconst X (0) rfl 178 dX9_thing_177 rfl ?_
            exact P_iret X hQ dX9_thing_178 ⟨by rw [if_pos (by simp [okTh, b5, b15]), tn, nI_clamp ht31]; refine congrArg (fun z => some (Value.int z)) ?_; show _ = bI _; simp [b161, b170, bI], by simp [okTh, b5, b15]⟩
          · refine P_iconst X (1) rfl 174 dX9_thing_173 rfl ?_
            refine P_goto X 178 dX9_thing_174 rfl ?_
            exact P_iret X hQ dX9_thing_178 ⟨by rw [if_pos (by simp [okTh, b5, b15]), tn, nI_clamp ht31]; refine congrArg (fun z => some (Value.int z)) ?_; show _ = bI _; simp [b161, b170, bI], by simp [okTh, b5, b15]⟩
    · refine P_aload0 X 19 dX9_thing_18 rfl ?_
      refine P_ldc X kc_X9_144 21 dX9_thing_19 rfl ?_
      refine V1r X 0 24 dX9_thing_21 rfl lk_X9_145 mv_X9_finding rfl (by omega) (Nat.le_of_ble_eq_true rfl) (Nat.le_of_ble_eq_true rfl) rfl rfl (k_X9_finding (by omega)) ?_
      exact P_iret X hQ dX9_thing_24 ⟨by simp [okTh, b5, b15], by simp [okTh, b5, b15, fiY]⟩
def okAk (x t i : Int32) : Bool := inB t 0 (x - 1) && decide (0 ≤ i)
set_option maxHeartbeats 4000000 in
set_option maxRecDepth 100000 in
theorem k_X8_asked {d : Nat} {E : Ev} {n : Nat} {t i0 : Int32} {h : Hp} (hd : 2 ≤ d) (hc : h 1 8 = nI n) (hn : n ≤ 40) : Cl d yX8_asked cX8_asked 3 (some .int) E (wdX E) [.ref (E.2.2.1 0), .int t, .int i0] h (Rt (some (.int (if okAk (h 2 6) t i0 then nthF (fun o => decide (h 17 o = t)) n 0 i0 else -1000001))) (if okAk (h 2 6) t i0 then h else fiX h)) := by
  refine Cl_of [some (.ref (E.2.2.1 0)), some (.int t), some (.int i0)] (by decide) rfl (Nat.le_of_ble_eq_true rfl) (fun K A X hQ => ?_)
  refine P_aload0 X 1 dX8_asked_0 rfl ?_
  refine P_iload1 X 2 dX8_asked_1 rfl ?_
  refine V1r X 0 5 dX8_asked_2 rfl lk_X8_135 mv_X8_isThing rfl (by omega) (Nat.le_of_ble_eq_true rfl) (Nat.le_of_ble_eq_true rfl) rfl rfl (k_X8_isThing (by omega)) ?_
  refine P_bz X 12 8 dX8_asked_5 rfl rfl (fun b5 => ?_) (fun b5 => ?_)
  · refine P_aload0 X 13 dX8_asked_12 rfl ?_
    refine P_ldc X kc_X8_90 15 dX8_asked_13 rfl ?_
    refine V1r X 0 18 dX8_asked_15 rfl lk_X8_91 mv_X8_finding rfl (by omega) (Nat.le_of_ble_eq_true rfl) (Nat.le_of_ble_eq_true rfl) rfl rfl (k_X8_finding (by omega)) ?_
    exact P_iret X hQ dX8_asked_18 ⟨by rw [if_neg (by simp [okAk, b5])], by rw [if_neg (by simp [okAk, b5])]; rfl⟩
  · refine P_iload2 X 9 dX8_asked_8 rfl ?_
    refine P_if_ge X 19 12 dX8_asked_9 rfl rfl (fun b9 => ?_) (fun b9 => ?_)
    · refine P_aload0 X 20 dX8_asked_19 rfl ?_
      refine gX_0_0 X 23 dX8_asked_20 rfl fl_X8_10 ?_
      refine P_iload1 X 24 dX8_asked_23 rfl ?_
      refine P_iload2 X 25 dX8_asked_24 rfl ?_
      refine V2r X 1 28 dX8_asked_25 rfl lk_X8_144 mv_X0_nthOfThing rfl (by omega) (Nat.le_of_ble_eq_true rfl) (Nat.le_of_ble_eq_true rfl) rfl rfl (k_X0_nthOfThing (by omega) hc hn) ?_
      exact P_iret X hQ dX8_asked_28 ⟨by rw [if_pos (by simp [okAk, b5, b9])], by rw [if_pos (by simp [okAk, b5, b9])]⟩
    · refine P_aload0 X 13 dX8_asked_12 rfl ?_
      refine P_ldc X kc_X8_90 15 dX8_asked_13 rfl ?_
      refine V1r X 0 18 dX8_asked_15 rfl lk_X8_91 mv_X8_finding rfl (by omega) (Nat.le_of_ble_eq_true rfl) (Nat.le_of_ble_eq_true rfl) rfl rfl (k_X8_finding (by omega)) ?_
      exact P_iret X hQ dX8_asked_18 ⟨by rw [if_neg (by simp [okAk, b5, b9])], by rw [if_neg (by simp [okAk, b5, b9])]; rfl⟩
set_option maxHeartbeats 4000000 in
set_option maxRecDepth 100000 in
theorem k_X9_asked {d : Nat} {E : Ev} {n : Nat} {t i0 : Int32} {h : Hp} (hd : 2 ≤ d) (hc : h 0 1 = nI n) (hn : n ≤ 40) : Cl d yX9_asked cX9_asked 5 (some .int) E (wdY E) [.ref (E.2.2.1 0), .int t, .int i0] h (Rt (some (.int (if okAk (h 0 10) t i0 then nthF (fun o => decide (h 6 o = t)) n 0 i0 else -1000001))) (if okAk (h 0 10) t i0 then h else fiY h)) := by
  refine Cl_of [some (.ref (E.2.2.1 0)), some (.int t), some (.int i0), none, none] (by decide) rfl (Nat.le_of_ble_eq_true rfl) (fun K A X hQ => ?_)
  refine P_aload0 X 1 dX9_asked_0 rfl ?_
  refine P_iload1 X 2 dX9_asked_1 rfl ?_
  refine V1r X 0 5 dX9_asked_2 rfl lk_X9_164 mv_X9_isThing rfl (by omega) (Nat.le_of_ble_eq_true rfl) (Nat.le_of_ble_eq_true rfl) rfl rfl (k_X9_isThing (by omega)) ?_
  refine P_bz X 12 8 dX9_asked_5 rfl rfl (fun b5 => ?_) (fun b5 => ?_)
  · refine P_aload0 X 13 dX9_asked_12 rfl ?_
    refine P_ldc X kc_X9_144 15 dX9_asked_13 rfl ?_
    refine V1r X 0 18 dX9_asked_15 rfl lk_X9_145 mv_X9_finding rfl (by omega) (Nat.le_of_ble_eq_true rfl) (Nat.le_of_ble_eq_true rfl) rfl rfl (k_X9_finding (by omega)) ?_
    exact P_iret X hQ dX9_asked_18 ⟨by rw [if_neg (by simp [okAk, b5])], by rw [if_neg (by simp [okAk, b5])]; rfl⟩
  · refine P_iload2 X 9 dX9_asked_8 rfl ?_
    refine P_if_ge X 19 12 dX9_asked_9 rfl rfl (fun b9 => ?_) (fun b9 => ?_)
    · have L : ∀ (m i : Nat) (kv : Int32), i + m = n → (nthF (fun o => decide (h 6 o = t)) m i kv = nthF (fun o => decide (h 6 o = t)) n 0 i0) → GW K 5 E (wdY E) A 24 [some (.ref (E.2.2.1 0)), some (.int t), some (.int i0), some (.int kv), some (.int (nI i))] [] h := by
        intro m
        induction m with
        | zero =>
          intro i kv hm hI0
          refine P_iload4 X 26 dX9_asked_24 rfl ?_
          refine P_aload0 X 27 dX9_asked_26 rfl ?_
          refine gY_0_1 X 30 dX9_asked_27 rfl fl_X9_115 ?_
          refine P_icmp_ge X 60 33 dX9_asked_30 rfl rfl (fun b30 => ?_) (fun b30 => ?_)
          · obtain rfl : i = n := by omega
            refine P_iconst X (-1) rfl 61 dX9_asked_60 rfl ?_
            exact P_iret X hQ dX9_asked_61 ⟨by rw [if_pos (by simp [okAk, b5, b9]), ← hI0]; rfl, by rw [if_pos (by simp [okAk, b5, b9])]⟩
          · exact (geN hc b30 (by omega) (by omega)).elim
        | succ m ih =>
          intro i kv hm hI0
          refine P_iload4 X 26 dX9_asked_24 rfl ?_
          refine P_aload0 X 27 dX9_asked_26 rfl ?_
          refine gY_0_1 X 30 dX9_asked_27 rfl fl_X9_115 ?_
          refine P_icmp_ge X 60 33 dX9_asked_30 rfl rfl (fun b30 => ?_) (fun b30 => ?_)
          · exact (geY hc b30 (by omega) (by omega)).elim
          · refine P_aload0 X 34 dX9_asked_33 rfl ?_
            refine gY_0_7 X 37 dX9_asked_34 rfl fl_X9_25 ?_
            refine P_iload4 X 39 dX9_asked_37 rfl ?_
            refine lY_6 X 40 dX9_asked_39 rfl rfl (by omega) ?_
            refine P_iload1 X 41 dX9_asked_40 rfl ?_
            refine P_icmp_ne X 54 44 dX9_asked_41 rfl rfl (fun b41 => ?_) (fun b41 => ?_)
            · refine P_iinc4 X (1) rfl 57 dX9_asked_54 rfl (by decide) rfl ?_
              refine P_goto X 24 dX9_asked_57 rfl ?_
              rw [nI_1]
              rw [nthF, if_neg (by simpa using b41)] at hI0
              exact ih (i + 1) kv (by omega) hI0
            · refine P_iload3 X 45 dX9_asked_44 rfl ?_
              refine P_if_ne X 51 48 dX9_asked_45 rfl rfl (fun b45 => ?_) (fun b45 => ?_)
              · refine P_iinc3 X (-1) rfl 54 dX9_asked_51 rfl (by decide) rfl ?_
                refine P_iinc4 X (1) rfl 57 dX9_asked_54 rfl (by decide) rfl ?_
                refine P_goto X 24 dX9_asked_57 rfl ?_
                rw [nI_1]
                rw [nthF, if_pos (by simpa using b41), if_neg b45] at hI0
                exact ih (i + 1) _ (by omega) hI0
              · refine P_iload4 X 50 dX9_asked_48 rfl ?_
                rw [nthF, if_pos (by simpa using b41), if_pos b45] at hI0
                exact P_iret X hQ dX9_asked_50 ⟨by rw [if_pos (by simp [okAk, b5, b9]), ← hI0], by rw [if_pos (by simp [okAk, b5, b9])]⟩
      refine P_iload2 X 20 dX9_asked_19 rfl ?_
      refine P_istore3 X 21 dX9_asked_20 rfl (by decide) rfl ?_
      refine P_iconst X (0) rfl 22 dX9_asked_21 rfl ?_
      refine P_istore4 X 24 dX9_asked_22 rfl (by decide) rfl ?_
      exact L n 0 i0 (by omega) rfl
    · refine P_aload0 X 13 dX9_asked_12 rfl ?_
      refine P_ldc X kc_X9_144 15 dX9_asked_13 rfl ?_
      refine V1r X 0 18 dX9_asked_15 rfl lk_X9_145 mv_X9_finding rfl (by omega) (Nat.le_of_ble_eq_true rfl) (Nat.le_of_ble_eq_true rfl) rfl rfl (k_X9_finding (by omega)) ?_
      exact P_iret X hQ dX9_asked_18 ⟨by rw [if_neg (by simp [okAk, b5, b9])], by rw [if_neg (by simp [okAk, b5, b9])]; rfl⟩
