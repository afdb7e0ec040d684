abbrev gvX (h : Hp) : Nat → Bool := fun r => decide (h 29 r = 97)
abbrev sdX (h : Hp) : Nat → Bool := fun r => decide (h 29 r = 115)
abbrev TVX (h : Hp) (rr : Nat) : Prop := TV (gvX h) (sdX h) (h 30) (h 31) (h 32) rr
abbrev nxX (h : Hp) (rr : Nat) (q : Int32) : Int32 → Int32 := nxt (sdX h) (h 30) (h 31) (h 32) rr q
abbrev rowX (h : Hp) (rr k : Nat) : Int32 := rowF (gvX h) (h 30) rr k

theorem n6e : (6 : Int32) = nI 6 := rfl
theorem own2_le {nx : Int32 → Int32} : ∀ (m g : Nat) (a b : Int32), (ownY nx m g a b).2 ≤ g + m
  | 0, g, a, b => Nat.le_refl _
  | m + 1, g, a, b => by
    rw [ownY]
    by_cases e : nx a = -1
    · rw [if_pos e]; exact Nat.le_add_right _ _
    · rw [if_neg e]
      by_cases e2 : hasB b (nx a) = true
      · rw [if_pos e2]; show g + 1 ≤ _; omega
      · rw [if_neg e2]
        have := own2_le (nx := nx) m (g + 1) (nx a) (b ||| (1 <<< (nx a &&& 31)))
        omega
theorem own2_eq {nx : Int32 → Int32} (hN : NX nx) {a w : Nat} (ha : a < 6) (hw : w ≤ 6) (e : gone nx 6 0 (nI a) (1 <<< (nI a &&& 31)) = nI (0 + w)) : w = (own0 nx (nI a)).2 := by
  have h1 := own0_gone hN ha
  have h2 : (own0 nx (nI a)).2 ≤ 0 + 7 := own2_le 7 0 _ _
  rw [e, Nat.zero_add] at h1
  exact (nI_eq (by omega) (by omega)).mp h1

set_option maxHeartbeats 4000000 in
set_option maxRecDepth 100000 in
theorem k_X2_rowForJust {d : Nat} {E : Ev} {rr : Nat} {kv : Int32} {h : Hp} (hd : 0 ≤ d) (hR : h 5 4 = nI rr) (hr12 : rr ≤ 12) : Cl d yX2_rowForJust cX2_rowForJust 3 (some .int) E (wdX E) [.ref (E.2.2.1 5), .int kv] h (Rt (some (.int (fsI (jP (gvX h) (h 30) kv) rr))) h) := by
  refine Cl_of [some (.ref (E.2.2.1 5)), some (.int kv), none] (by decide) rfl (Nat.le_of_ble_eq_true rfl) (fun K A X hQ => ?_)
  have L : ∀ (m i : Nat) , i + m = rr → (∀ j, j < i → (jP (gvX h) (h 30) kv) j = false) → GW K 3 E (wdX E) A 2 [some (.ref (E.2.2.1 5)), some (.int kv), some (.int (nI i))] [] h := by
    intro m
    induction m with
    | zero =>
      intro i  hm hI0
      refine P_iload2 X 3 dX2_rowForJust_2 rfl ?_
      refine P_aload0 X 4 dX2_rowForJust_3 rfl ?_
      refine gX_5_4 X 7 dX2_rowForJust_4 rfl fl_X2_24 ?_
      refine P_icmp_ge X 39 10 dX2_rowForJust_7 rfl rfl (fun b7 => ?_) (fun b7 => ?_)
      · obtain rfl : i = rr := by omega
        refine P_iconst X (-1) rfl 40 dX2_rowForJust_39 rfl ?_
        exact P_iret X hQ dX2_rowForJust_40 (rti (fsI_none hI0))
      · exact (geN hR b7 (by omega) (by omega)).elim
    | succ m ih =>
      intro i  hm hI0
      refine P_iload2 X 3 dX2_rowForJust_2 rfl ?_
      refine P_aload0 X 4 dX2_rowForJust_3 rfl ?_
      refine gX_5_4 X 7 dX2_rowForJust_4 rfl fl_X2_24 ?_
      refine P_icmp_ge X 39 10 dX2_rowForJust_7 rfl rfl (fun b7 => ?_) (fun b7 => ?_)
      · exact (geY hR b7 (by omega) (by omega)).elim
      · refine P_aload0 X 11 dX2_rowForJust_10 rfl ?_
        refine gX_5_0 X 14 dX2_rowForJust_11 rfl fl_X2_11 ?_
        refine P_iload2 X 15 dX2_rowForJust_14 rfl ?_
        refine lX_29 X 16 dX2_rowForJust_15 rfl rfl (by omega) ?_
        refine P_bipush X (97) rfl 18 dX2_rowForJust_16 rfl ?_
        refine P_icmp_ne X 33 21 dX2_rowForJust_18 rfl rfl (fun b18 => ?_) (fun b18 => ?_)
        · refine P_iinc2 X (1) rfl 36 dX2_rowForJust_33 rfl (by decide) rfl ?_
          refine P_goto X 2 dX2_rowForJust_36 rfl ?_
          rw [nI_1]
          exact ih (i + 1) (by omega) (lt_s hI0 (by simp [jP, gvX, b18]))
        · refine P_aload0 X 22 dX2_rowForJust_21 rfl ?_
          refine gX_5_1 X 25 dX2_rowForJust_22 rfl fl_X2_15 ?_
          refine P_iload2 X 26 dX2_rowForJust_25 rfl ?_
          refine lX_30 X 27 dX2_rowForJust_26 rfl rfl (by omega) ?_
          refine P_iload1 X 28 dX2_rowForJust_27 rfl ?_
          refine P_icmp_ne X 33 31 dX2_rowForJust_28 rfl rfl (fun b28 => ?_) (fun b28 => ?_)
          · refine P_iinc2 X (1) rfl 36 dX2_rowForJust_33 rfl (by decide) rfl ?_
            refine P_goto X 2 dX2_rowForJust_36 rfl ?_
            rw [nI_1]
            exact ih (i + 1) (by omega) (lt_s hI0 (by simp [jP, gvX, b28]))
          · refine P_iload2 X 32 dX2_rowForJust_31 rfl ?_
            exact P_iret X hQ dX2_rowForJust_32 (rti (fsI_at hI0 (by simp [jP, gvX, b18, b28]) (by omega)))
  refine P_iconst X (0) rfl 1 dX2_rowForJust_0 rfl ?_
  refine P_istore2 X 2 dX2_rowForJust_1 rfl (by decide) rfl ?_
  exact L rr 0 (by omega) (fun j hj => absurd hj (Nat.not_lt_zero _))
set_option maxHeartbeats 4000000 in
set_option maxRecDepth 100000 in
theorem k_X2_rowFor {d : Nat} {E : Ev} {rr kk : Nat} {h : Hp} (hd : 1 ≤ d) (hR : h 5 4 = nI rr) (hr12 : rr ≤ 12) (hkk : kk < 5) : Cl d yX2_rowFor cX2_rowFor 5 (some .int) E (wdX E) [.ref (E.2.2.1 5), .int (nI kk)] h (Rt (some (.int (rowX h rr kk))) h) := by
  refine Cl_of [some (.ref (E.2.2.1 5)), some (.int (nI kk)), none, none, none] (by decide) rfl (Nat.le_of_ble_eq_true rfl) (fun K A X hQ => ?_)
  have Ex : ∀ (ss : Nat) (o4 : Option Value), rowX h rr kk = -1 → GW K 5 E (wdX E) A 4 [some (.ref (E.2.2.1 5)), some (.int (nI kk)), some (.int (-1)), some (.int (nI ss)), o4] [] h := by
    intro ss o4 hr
    refine P_iload3 X 5 dX2_rowFor_4 rfl ?_
    refine P_iconst X (5) rfl 6 dX2_rowFor_5 rfl ?_
    refine P_icmp_ge X 42 9 dX2_rowFor_6 rfl rfl (fun b6 => ?_) (fun b6 => ?_)
    · refine P_iconst X (-1) rfl 43 dX2_rowFor_42 rfl ?_
      exact P_iret X hQ dX2_rowFor_43 (rti hr.symm)
    · refine P_iload2 X 10 dX2_rowFor_9 rfl ?_
      refine P_iconst X (-1) rfl 11 dX2_rowFor_10 rfl ?_
      refine P_icmp_eq X 42 14 dX2_rowFor_11 rfl rfl (fun b11 => ?_) (fun b11 => ?_)
      · refine P_iconst X (-1) rfl 43 dX2_rowFor_42 rfl ?_
        exact P_iret X hQ dX2_rowFor_43 (rti hr.symm)
      · exact absurd rfl b11
  have It : ∀ (jj ss : Nat) (o4 : Option Value), jj < 5 → ss < 5 → (¬ fsI (jP (gvX h) (h 30) (nI jj)) rr = -1 → rowX h rr kk = fsI (jP (gvX h) (h 30) (nI jj)) rr) → (fsI (jP (gvX h) (h 30) (nI jj)) rr = -1 → ∀ o4, GW K 5 E (wdX E) A 4 [some (.ref (E.2.2.1 5)), some (.int (nI kk)), some (.int (abv jj)), some (.int (nI (ss + 1))), o4] [] h) → GW K 5 E (wdX E) A 4 [some (.ref (E.2.2.1 5)), some (.int (nI kk)), some (.int (nI jj)), some (.int (nI ss)), o4] [] h := by
    intro jj ss o4 hjj hss h1 h2
    refine P_iload3 X 5 dX2_rowFor_4 rfl ?_
    refine P_iconst X (5) rfl 6 dX2_rowFor_5 rfl ?_
    refine P_icmp_ge X 42 9 dX2_rowFor_6 rfl rfl (fun b6 => ?_) (fun b6 => ?_)
    · exact absurd b6 (nI_n5 hss)
    · refine P_iload2 X 10 dX2_rowFor_9 rfl ?_
      refine P_iconst X (-1) rfl 11 dX2_rowFor_10 rfl ?_
      refine P_icmp_eq X 42 14 dX2_rowFor_11 rfl rfl (fun b11 => ?_) (fun b11 => ?_)
      · exact absurd b11 (nI_nm1 (by omega))
      · refine P_aload0 X 15 dX2_rowFor_14 rfl ?_
        refine P_iload2 X 16 dX2_rowFor_15 rfl ?_
        refine V1r X 5 19 dX2_rowFor_16 rfl lk_X2_48 mv_X2_rowForJust rfl (by omega) (Nat.le_of_ble_eq_true rfl) (Nat.le_of_ble_eq_true rfl) rfl rfl (k_X2_rowForJust (by omega) hR hr12) ?_
        refine P_istore4 X 21 dX2_rowFor_19 rfl (by decide) rfl ?_
        refine P_iload4 X 23 dX2_rowFor_21 rfl ?_
        refine P_iconst X (-1) rfl 24 dX2_rowFor_23 rfl ?_
        refine P_icmp_eq X 30 27 dX2_rowFor_24 rfl rfl (fun b24 => ?_) (fun b24 => ?_)
        · refine P_above X 33 dX2_rowFor_30 rfl ab_X2_51 ?_
          refine P_iload2 X 34 dX2_rowFor_33 rfl ?_
          refine P_aboveld X 35 dX2_rowFor_34 rfl rfl hjj ?_
          refine P_istore2 X 36 dX2_rowFor_35 rfl (by decide) rfl ?_
          refine P_iinc3 X (1) rfl 39 dX2_rowFor_36 rfl (by decide) rfl ?_
          refine P_goto X 4 dX2_rowFor_39 rfl ?_
          rw [nI_1]
          exact h2 b24 _
        · refine P_iload4 X 29 dX2_rowFor_27 rfl ?_
          exact P_iret X hQ dX2_rowFor_29 (rti (h1 b24).symm)
  have nI_0z : nI 0 = 0 := rfl
  have nI_2z : nI 2 = 2 := rfl
  have nI_4z : nI 4 = 4 := rfl
  refine P_iload1 X 1 dX2_rowFor_0 rfl ?_
  refine P_istore2 X 2 dX2_rowFor_1 rfl (by decide) rfl ?_
  refine P_iconst X (0) rfl 3 dX2_rowFor_2 rfl ?_
  refine P_istore3 X 4 dX2_rowFor_3 rfl (by decide) rfl ?_
  rcases (show kk = 0 ∨ kk = 1 ∨ kk = 2 ∨ kk = 3 ∨ kk = 4 by omega) with rfl | rfl | rfl | rfl | rfl
  · exact It 0 0 none (by omega) (by omega) (fun e9 => rfl) (fun n0 o4 => Ex 1 o4 n0)
  · exact It 1 0 none (by omega) (by omega) (fun e9 => (if_neg e9 : orI _ _ = _)) (fun n1 o4 => It 0 1 o4 (by omega) (by omega) (fun _ => (if_pos n1 : orI _ _ = _)) (fun n0 o5 => Ex 2 o5 ((if_pos n1 : orI _ _ = _).trans n0)))
  · exact It 2 0 none (by omega) (by omega) (fun e9 => (if_neg e9 : orI _ _ = _)) (fun n1 o4 => It 0 1 o4 (by omega) (by omega) (fun _ => (if_pos n1 : orI _ _ = _)) (fun n0 o5 => Ex 2 o5 ((if_pos n1 : orI _ _ = _).trans n0)))
  · exact It 3 0 none (by omega) (by omega) (fun e9 => (if_neg e9 : orI _ _ = _)) (fun n1 o4 => It 0 1 o4 (by omega) (by omega) (fun _ => (if_pos n1 : orI _ _ = _)) (fun n0 o5 => Ex 2 o5 ((if_pos n1 : orI _ _ = _).trans n0)))
  · exact It 4 0 none (by omega) (by omega) (fun e9 => (if_neg e9 : orI _ _ = _)) (fun n1 o4 => It 2 1 o4 (by omega) (by omega) (fun e9 => (if_pos n1 : orI _ _ = _).trans (if_neg e9 : orI _ _ = _)) (fun n2 o5 => It 0 2 o5 (by omega) (by omega) (fun _ => (if_pos n1 : orI _ _ = _).trans (if_pos n2 : orI _ _ = _)) (fun n0 o6 => Ex 3 o6 (((if_pos n1 : orI _ _ = _).trans (if_pos n2 : orI _ _ = _)).trans n0))))
set_option maxHeartbeats 4000000 in
set_option maxRecDepth 100000 in
theorem k_X2_firstDeskFor {d : Nat} {E : Ev} {rr kk : Nat} {h : Hp} (hd : 2 ≤ d) (hR : h 5 4 = nI rr) (hr12 : rr ≤ 12) (hkk : kk < 5) : Cl d yX2_firstDeskFor cX2_firstDeskFor 3 (some .int) E (wdX E) [.ref (E.2.2.1 5), .int (nI kk)] h (Rt (some (.int (if rowX h rr kk = -1 then -1 else h 31 (tn (rowX h rr kk))))) h) := by
  refine Cl_of [some (.ref (E.2.2.1 5)), some (.int (nI kk)), none] (by decide) rfl (Nat.le_of_ble_eq_true rfl) (fun K A X hQ => ?_)
  refine P_aload0 X 1 dX2_firstDeskFor_0 rfl ?_
  refine P_iload1 X 2 dX2_firstDeskFor_1 rfl ?_
  refine V1r X 5 5 dX2_firstDeskFor_2 rfl lk_X2_44 mv_X2_rowFor rfl (by omega) (Nat.le_of_ble_eq_true rfl) (Nat.le_of_ble_eq_true rfl) rfl rfl (k_X2_rowFor (by omega) hR hr12 hkk) ?_
  refine P_istore2 X 6 dX2_firstDeskFor_5 rfl (by decide) rfl ?_
  refine P_iload2 X 7 dX2_firstDeskFor_6 rfl ?_
  refine P_iconst X (-1) rfl 8 dX2_firstDeskFor_7 rfl ?_
  refine P_icmp_ne X 15 11 dX2_firstDeskFor_8 rfl rfl (fun b8 => ?_) (fun b8 => ?_)
  · obtain ⟨r9, e9, h9, -⟩ : ∃ r, rowX h rr kk = nI r ∧ r < rr ∧ gvX h r = true := rowF_cases.resolve_left b8
    refine P_aload0 X 16 dX2_firstDeskFor_15 rfl ?_
    refine gX_5_2 X 19 dX2_firstDeskFor_16 rfl fl_X2_18 ?_
    refine P_iload2 X 20 dX2_firstDeskFor_19 rfl ?_
    refine lX_31 X 21 dX2_firstDeskFor_20 rfl e9 (by omega) ?_
    exact P_iret X hQ dX2_firstDeskFor_21 (rti (by rw [if_neg b8, show tn (rowX h rr kk) = r9 by rw [e9]; exact nI_clamp (by omega)]))
  · refine P_iconst X (-1) rfl 12 dX2_firstDeskFor_11 rfl ?_
    refine P_goto X 21 dX2_firstDeskFor_12 rfl ?_
    exact P_iret X hQ dX2_firstDeskFor_21 (rti (if_pos b8).symm)
set_option maxHeartbeats 4000000 in
set_option maxRecDepth 100000 in
theorem k_X2_daysFor {d : Nat} {E : Ev} {rr kk : Nat} {h : Hp} (hd : 2 ≤ d) (hR : h 5 4 = nI rr) (hr12 : rr ≤ 12) (hkk : kk < 5) : Cl d yX2_daysFor cX2_daysFor 3 (some .int) E (wdX E) [.ref (E.2.2.1 5), .int (nI kk)] h (Rt (some (.int (if rowX h rr kk = -1 then -1 else h 32 (tn (rowX h rr kk))))) h) := by
  refine Cl_of [some (.ref (E.2.2.1 5)), some (.int (nI kk)), none] (by decide) rfl (Nat.le_of_ble_eq_true rfl) (fun K A X hQ => ?_)
  refine P_aload0 X 1 dX2_daysFor_0 rfl ?_
  refine P_iload1 X 2 dX2_daysFor_1 rfl ?_
  refine V1r X 5 5 dX2_daysFor_2 rfl lk_X2_44 mv_X2_rowFor rfl (by omega) (Nat.le_of_ble_eq_true rfl) (Nat.le_of_ble_eq_true rfl) rfl rfl (k_X2_rowFor (by omega) hR hr12 hkk) ?_
  refine P_istore2 X 6 dX2_daysFor_5 rfl (by decide) rfl ?_
  refine P_iload2 X 7 dX2_daysFor_6 rfl ?_
  refine P_iconst X (-1) rfl 8 dX2_daysFor_7 rfl ?_
  refine P_icmp_ne X 15 11 dX2_daysFor_8 rfl rfl (fun b8 => ?_) (fun b8 => ?_)
  · obtain ⟨r9, e9, h9, -⟩ : ∃ r, rowX h rr kk = nI r ∧ r < rr ∧ gvX h r = true := rowF_cases.resolve_left b8
    refine P_aload0 X 16 dX2_daysFor_15 rfl ?_
    refine gX_5_3 X 19 dX2_daysFor_16 rfl fl_X2_21 ?_
    refine P_iload2 X 20 dX2_daysFor_19 rfl ?_
    refine lX_32 X 21 dX2_daysFor_20 rfl e9 (by omega) ?_
    exact P_iret X hQ dX2_daysFor_21 (rti (by rw [if_neg b8, show tn (rowX h rr kk) = r9 by rw [e9]; exact nI_clamp (by omega)]))
  · refine P_iconst X (-1) rfl 12 dX2_daysFor_11 rfl ?_
    refine P_goto X 21 dX2_daysFor_12 rfl ?_
    exact P_iret X hQ dX2_daysFor_21 (rti (if_pos b8).symm)
set_option maxHeartbeats 4000000 in
set_option maxRecDepth 100000 in
theorem k_X2_nextDesk {d : Nat} {E : Ev} {rr : Nat} {kv qv : Int32} {h : Hp} (hd : 0 ≤ d) (hR : h 5 4 = nI rr) (hr12 : rr ≤ 12) : Cl d yX2_nextDesk cX2_nextDesk 5 (some .int) E (wdX E) [.ref (E.2.2.1 5), .int kv, .int qv] h (Rt (some (.int (nxX h rr qv kv))) h) := by
  refine Cl_of [some (.ref (E.2.2.1 5)), some (.int kv), some (.int qv), none, none] (by decide) rfl (Nat.le_of_ble_eq_true rfl) (fun K A X hQ => ?_)
  have hat : ∀ i, (∀ j, j < i → (sP (sdX h) (h 30) (h 31) kv qv) j = false) → (sP (sdX h) (h 30) (h 31) kv qv) i = true → i < rr → h 32 i = nxX h rr qv kv := by
    intro i h1 h2 h3
    simp only [nxX, nxt]
    rw [fst_at h1 h2 h3, if_pos h3]
  have hno : (∀ j, j < rr → (sP (sdX h) (h 30) (h 31) kv qv) j = false) → -1 = nxX h rr qv kv := by
    intro h1
    simp only [nxX, nxt]
    rw [fst_none h1, if_neg (by omega)]
  have L : ∀ (m i : Nat) (o4 : Option Value), i + m = rr → (∀ j, j < i → (sP (sdX h) (h 30) (h 31) kv qv) j = false) → GW K 5 E (wdX E) A 2 [some (.ref (E.2.2.1 5)), some (.int kv), some (.int qv), some (.int (nI i)), o4] [] h := by
    intro m
    induction m with
    | zero =>
      intro i o4 hm hI0
      refine P_iload3 X 3 dX2_nextDesk_2 rfl ?_
      refine P_aload0 X 4 dX2_nextDesk_3 rfl ?_
      refine gX_5_4 X 7 dX2_nextDesk_4 rfl fl_X2_24 ?_
      refine P_icmp_ge X 66 10 dX2_nextDesk_7 rfl rfl (fun b7 => ?_) (fun b7 => ?_)
      · obtain rfl : i = rr := by omega
        refine P_iconst X (-1) rfl 67 dX2_nextDesk_66 rfl ?_
        exact P_iret X hQ dX2_nextDesk_67 (rti (hno hI0))
      · exact (geN hR b7 (by omega) (by omega)).elim
    | succ m ih =>
      intro i o4 hm hI0
      refine P_iload3 X 3 dX2_nextDesk_2 rfl ?_
      refine P_aload0 X 4 dX2_nextDesk_3 rfl ?_
      refine gX_5_4 X 7 dX2_nextDesk_4 rfl fl_X2_24 ?_
      refine P_icmp_ge X 66 10 dX2_nextDesk_7 rfl rfl (fun b7 => ?_) (fun b7 => ?_)
      · exact (geY hR b7 (by omega) (by omega)).elim
      · refine P_aload0 X 11 dX2_nextDesk_10 rfl ?_
        refine gX_5_0 X 14 dX2_nextDesk_11 rfl fl_X2_11 ?_
        refine P_iload3 X 15 dX2_nextDesk_14 rfl ?_
        refine lX_29 X 16 dX2_nextDesk_15 rfl rfl (by omega) ?_
        refine P_bipush X (115) rfl 18 dX2_nextDesk_16 rfl ?_
        refine P_icmp_ne X 35 21 dX2_nextDesk_18 rfl rfl (fun b18 => ?_) (fun b18 => ?_)
        · refine P_iconst X (0) rfl 36 dX2_nextDesk_35 rfl ?_
          refine P_istore4 X 38 dX2_nextDesk_36 rfl (by decide) rfl ?_
          refine P_iload4 X 40 dX2_nextDesk_38 rfl ?_
          refine P_if_eq X 60 43 dX2_nextDesk_40 rfl rfl (fun b40 => ?_) (fun b40 => absurd b40 (by decide))
          refine P_iinc3 X (1) rfl 63 dX2_nextDesk_60 rfl (by decide) rfl ?_
          refine P_goto X 2 dX2_nextDesk_63 rfl ?_
          rw [nI_1]
          exact ih (i + 1) _ (by omega) (lt_s hI0 (by simp [sP, sdX, b18]))
        · refine P_aload0 X 22 dX2_nextDesk_21 rfl ?_
          refine gX_5_1 X 25 dX2_nextDesk_22 rfl fl_X2_15 ?_
          refine P_iload3 X 26 dX2_nextDesk_25 rfl ?_
          refine lX_30 X 27 dX2_nextDesk_26 rfl rfl (by omega) ?_
          refine P_iload1 X 28 dX2_nextDesk_27 rfl ?_
          refine P_icmp_ne X 35 31 dX2_nextDesk_28 rfl rfl (fun b28 => ?_) (fun b28 => ?_)
          · refine P_iconst X (0) rfl 36 dX2_nextDesk_35 rfl ?_
            refine P_istore4 X 38 dX2_nextDesk_36 rfl (by decide) rfl ?_
            refine P_iload4 X 40 dX2_nextDesk_38 rfl ?_
            refine P_if_eq X 60 43 dX2_nextDesk_40 rfl rfl (fun b40 => ?_) (fun b40 => absurd b40 (by decide))
            refine P_iinc3 X (1) rfl 63 dX2_nextDesk_60 rfl (by decide) rfl ?_
            refine P_goto X 2 dX2_nextDesk_63 rfl ?_
            rw [nI_1]
            exact ih (i + 1) _ (by omega) (lt_s hI0 (by simp [sP, sdX, b28]))
          · refine P_iconst X (1) rfl 32 dX2_nextDesk_31 rfl ?_
            refine P_goto X 36 dX2_nextDesk_32 rfl ?_
            refine P_istore4 X 38 dX2_nextDesk_36 rfl (by decide) rfl ?_
            refine P_iload4 X 40 dX2_nextDesk_38 rfl ?_
            refine P_if_eq X 60 43 dX2_nextDesk_40 rfl rfl (fun b40 => absurd b40 (by decide)) (fun b40 => ?_)
            refine P_aload0 X 44 dX2_nextDesk_43 rfl ?_
            refine gX_5_2 X 47 dX2_nextDesk_44 rfl fl_X2_18 ?_
            refine P_iload3 X 48 dX2_nextDesk_47 rfl ?_
            refine lX_31 X 49 dX2_nextDesk_48 rfl rfl (by omega) ?_
            refine P_iload2 X 50 dX2_nextDesk_49 rfl ?_
            refine P_icmp_ne X 60 53 dX2_nextDesk_50 rfl rfl (fun b50 => ?_) (fun b50 => ?_)
            · refine P_iinc3 X (1) rfl 63 dX2_nextDesk_60 rfl (by decide) rfl ?_
              refine P_goto X 2 dX2_nextDesk_63 rfl ?_
              rw [nI_1]
              exact ih (i + 1) _ (by omega) (lt_s hI0 (by simp [sP, sdX, b50]))
            · refine P_aload0 X 54 dX2_nextDesk_53 rfl ?_
              refine gX_5_3 X 57 dX2_nextDesk_54 rfl fl_X2_21 ?_
              refine P_iload3 X 58 dX2_nextDesk_57 rfl ?_
              refine lX_32 X 59 dX2_nextDesk_58 rfl rfl (by omega) ?_
              exact P_iret X hQ dX2_nextDesk_59 (rti (hat i hI0 (by simp [sP, sdX, b18, b28, b50]) (by omega)))
  refine P_iconst X (0) rfl 1 dX2_nextDesk_0 rfl ?_
  refine P_istore3 X 2 dX2_nextDesk_1 rfl (by decide) rfl ?_
  exact L rr 0 none (by omega) (fun j hj => absurd hj (Nat.not_lt_zero _))
set_option maxHeartbeats 4000000 in
set_option maxRecDepth 100000 in
theorem k_X2_rowsGoneBy {d : Nat} {E : Ev} {rr : Nat} {kv qv : Int32} {h : Hp} (hd : 1 ≤ d) (hR : h 5 4 = nI rr) (hr12 : rr ≤ 12) : Cl d yX2_rowsGoneBy cX2_rowsGoneBy 6 (some .int) E (wdX E) [.ref (E.2.2.1 5), .int kv, .int qv] h (Rt (some (.int (gone (nxX h rr qv) 6 0 kv (1 <<< (kv &&& 31))))) h) := by
  refine Cl_of [some (.ref (E.2.2.1 5)), some (.int kv), some (.int qv), none, none, none] (by decide) rfl (Nat.le_of_ble_eq_true rfl) (fun K A X hQ => ?_)
  have L : ∀ (m i : Nat) (av bv : Int32), i + m = 6 → (gone (nxX h rr qv) m i av bv = gone (nxX h rr qv) 6 0 kv (1 <<< (kv &&& 31))) → GW K 6 E (wdX E) A 10 [some (.ref (E.2.2.1 5)), some (.int kv), some (.int qv), some (.int av), some (.int bv), some (.int (nI i))] [] h := by
    intro m
    induction m with
    | zero =>
      intro i av bv hm hI0
      refine P_iload5 X 12 dX2_rowsGoneBy_10 rfl ?_
      refine P_bipush X (6) rfl 14 dX2_rowsGoneBy_12 rfl ?_
      refine P_icmp_ge X 60 17 dX2_rowsGoneBy_14 rfl rfl (fun b14 => ?_) (fun b14 => ?_)
      · obtain rfl : i = 6 := by omega
        refine P_bipush X (6) rfl 62 dX2_rowsGoneBy_60 rfl ?_
        exact P_iret X hQ dX2_rowsGoneBy_62 (rti hI0)
      · exact (geN n6e b14 (by omega) (by omega)).elim
    | succ m ih =>
      intro i av bv hm hI0
      refine P_iload5 X 12 dX2_rowsGoneBy_10 rfl ?_
      refine P_bipush X (6) rfl 14 dX2_rowsGoneBy_12 rfl ?_
      refine P_icmp_ge X 60 17 dX2_rowsGoneBy_14 rfl rfl (fun b14 => ?_) (fun b14 => ?_)
      · exact (geY n6e b14 (by omega) (by omega)).elim
      · refine P_aload0 X 18 dX2_rowsGoneBy_17 rfl ?_
        refine P_iload3 X 19 dX2_rowsGoneBy_18 rfl ?_
        refine P_iload2 X 20 dX2_rowsGoneBy_19 rfl ?_
        refine V2r X 5 23 dX2_rowsGoneBy_20 rfl lk_X2_54 mv_X2_nextDesk rfl (by omega) (Nat.le_of_ble_eq_true rfl) (Nat.le_of_ble_eq_true rfl) rfl rfl (k_X2_nextDesk (by omega) hR hr12) ?_
        refine P_istore3 X 24 dX2_rowsGoneBy_23 rfl (by decide) rfl ?_
        refine P_iload3 X 25 dX2_rowsGoneBy_24 rfl ?_
        refine P_iconst X (-1) rfl 26 dX2_rowsGoneBy_25 rfl ?_
        refine P_icmp_ne X 32 29 dX2_rowsGoneBy_26 rfl rfl (fun b26 => ?_) (fun b26 => ?_)
        · refine P_iload4 X 34 dX2_rowsGoneBy_32 rfl ?_
          refine P_iload3 X 35 dX2_rowsGoneBy_34 rfl ?_
          refine S2r X 38 dX2_rowsGoneBy_35 rfl lk_X2_58 ms_X8_hasBit rfl (by omega) (Nat.le_of_ble_eq_true rfl) (k_X8_hasBit (by omega)) ?_
          refine P_bz X 46 41 dX2_rowsGoneBy_38 rfl rfl (fun b38 => ?_) (fun b38 => ?_)
          · refine P_iload4 X 48 dX2_rowsGoneBy_46 rfl ?_
            refine P_iconst X (1) rfl 49 dX2_rowsGoneBy_48 rfl ?_
            refine P_iload3 X 50 dX2_rowsGoneBy_49 rfl ?_
            refine P_ishl X 51 dX2_rowsGoneBy_50 rfl ?_
            refine P_ior X 52 dX2_rowsGoneBy_51 rfl ?_
            refine P_istore4 X 54 dX2_rowsGoneBy_52 rfl (by decide) rfl ?_
            refine P_iinc5 X (1) rfl 57 dX2_rowsGoneBy_54 rfl (by decide) rfl ?_
            refine P_goto X 10 dX2_rowsGoneBy_57 rfl ?_
            rw [gone, if_neg b26, if_neg (by simp [b38])] at hI0
            rw [nI_1]
            exact ih (i + 1) _ _ (by omega) hI0
          · refine P_iload5 X 43 dX2_rowsGoneBy_41 rfl ?_
            refine P_iconst X (1) rfl 44 dX2_rowsGoneBy_43 rfl ?_
            refine P_iadd X 45 dX2_rowsGoneBy_44 rfl ?_
            rw [gone, if_neg b26, if_pos b38] at hI0
            exact P_iret X hQ dX2_rowsGoneBy_45 (rti (by rw [nI_1]; exact hI0))
        · refine P_iload5 X 31 dX2_rowsGoneBy_29 rfl ?_
          rw [gone, if_pos b26] at hI0
          exact P_iret X hQ dX2_rowsGoneBy_31 (rti hI0)
  refine P_iload1 X 1 dX2_rowsGoneBy_0 rfl ?_
  refine P_istore3 X 2 dX2_rowsGoneBy_1 rfl (by decide) rfl ?_
  refine P_iconst X (1) rfl 3 dX2_rowsGoneBy_2 rfl ?_
  refine P_iload1 X 4 dX2_rowsGoneBy_3 rfl ?_
  refine P_ishl X 5 dX2_rowsGoneBy_4 rfl ?_
  refine P_istore4 X 7 dX2_rowsGoneBy_5 rfl (by decide) rfl ?_
  refine P_iconst X (0) rfl 8 dX2_rowsGoneBy_7 rfl ?_
  refine P_istore5 X 10 dX2_rowsGoneBy_8 rfl (by decide) rfl ?_
  exact L 6 0 _ _ (by omega) rfl
set_option maxHeartbeats 4000000 in
set_option maxRecDepth 100000 in
theorem k_X2_lastDeskFrom {d : Nat} {E : Ev} {rr a : Nat} {qv : Int32} {h : Hp} (hd : 2 ≤ d) (hR : h 5 4 = nI rr) (hr12 : rr ≤ 12) (hV : TVX h rr) (ha : a < 6) : Cl d yX2_lastDeskFrom cX2_lastDeskFrom 6 (some .int) E (wdX E) [.ref (E.2.2.1 5), .int (nI a), .int qv] h (Rt (some (.int ((own0 (nxX h rr qv) (nI a)).1))) h) := by
  refine Cl_of [some (.ref (E.2.2.1 5)), some (.int (nI a)), some (.int qv), none, none, none] (by decide) rfl (Nat.le_of_ble_eq_true rfl) (fun K A X hQ => ?_)
  have hN : NX (nxX h rr qv) := fun k9 => nxt_cases hV qv k9
  obtain ⟨w9, hw9, ew9⟩ := gone_le (nxX h rr qv) 6 0 (nI a) (1 <<< (nI a &&& 31))
  have eo := own0_gone hN ha
  rw [ew9, Nat.zero_add] at eo
  have eo2 := own0_it hN ha
  refine P_iload1 X 1 dX2_lastDeskFrom_0 rfl ?_
  refine P_istore3 X 2 dX2_lastDeskFrom_1 rfl (by decide) rfl ?_
  refine P_aload0 X 3 dX2_lastDeskFrom_2 rfl ?_
  refine P_iload1 X 4 dX2_lastDeskFrom_3 rfl ?_
  refine P_iload2 X 5 dX2_lastDeskFrom_4 rfl ?_
  refine V2r X 5 8 dX2_lastDeskFrom_5 rfl lk_X2_62 mv_X2_rowsGoneBy rfl (by omega) (Nat.le_of_ble_eq_true rfl) (Nat.le_of_ble_eq_true rfl) rfl rfl (k_X2_rowsGoneBy (by omega) hR hr12) ?_
  refine P_top (y := nI w9) (by rw [ew9, Nat.zero_add]) ?_
  refine P_istore4 X 10 dX2_lastDeskFrom_8 rfl (by decide) rfl ?_
  obtain ⟨z9, hz9⟩ : ∃ z, itN (nxX h rr qv) w9 (nI a) = z := ⟨_, rfl⟩
  have hres : (own0 (nxX h rr qv) (nI a)).1 = (if nxX h rr qv z9 = -1 then z9 else -1000007) := by
    rw [eo2, ← own2_eq hN ha hw9 ew9, hz9]
  have L : ∀ (m i : Nat) (av : Int32), i + m = w9 → (itN (nxX h rr qv) m av = z9) → GW K 6 E (wdX E) A 13 [some (.ref (E.2.2.1 5)), some (.int (nI a)), some (.int qv), some (.int av), some (.int (nI w9)), some (.int (nI i))] [] h := by
    intro m
    induction m with
    | zero =>
      intro i av hm hI0
      refine P_iload5 X 15 dX2_lastDeskFrom_13 rfl ?_
      refine P_iload4 X 17 dX2_lastDeskFrom_15 rfl ?_
      refine P_icmp_ge X 33 20 dX2_lastDeskFrom_17 rfl rfl (fun b17 => ?_) (fun b17 => ?_)
      · obtain rfl : i = w9 := by omega
        rw [itN] at hI0
        subst hI0
        refine P_aload0 X 34 dX2_lastDeskFrom_33 rfl ?_
        refine P_iload3 X 35 dX2_lastDeskFrom_34 rfl ?_
        refine P_iload2 X 36 dX2_lastDeskFrom_35 rfl ?_
        refine V2r X 5 39 dX2_lastDeskFrom_36 rfl lk_X2_54 mv_X2_nextDesk rfl (by omega) (Nat.le_of_ble_eq_true rfl) (Nat.le_of_ble_eq_true rfl) rfl rfl (k_X2_nextDesk (by omega) hR hr12) ?_
        refine P_iconst X (-1) rfl 40 dX2_lastDeskFrom_39 rfl ?_
        refine P_icmp_ne X 47 43 dX2_lastDeskFrom_40 rfl rfl (fun b40 => ?_) (fun b40 => ?_)
        · refine P_ldc X kc_X2_65 49 dX2_lastDeskFrom_47 rfl ?_
          exact P_iret X hQ dX2_lastDeskFrom_49 (rti (by rw [hres, if_neg b40]))
        · refine P_iload3 X 44 dX2_lastDeskFrom_43 rfl ?_
          refine P_goto X 49 dX2_lastDeskFrom_44 rfl ?_
          exact P_iret X hQ dX2_lastDeskFrom_49 (rti (by rw [hres, if_pos b40]))
      · exact (geN (rfl : nI w9 = nI w9) b17 (by omega) (by omega)).elim
    | succ m ih =>
      intro i av hm hI0
      refine P_iload5 X 15 dX2_lastDeskFrom_13 rfl ?_
      refine P_iload4 X 17 dX2_lastDeskFrom_15 rfl ?_
      refine P_icmp_ge X 33 20 dX2_lastDeskFrom_17 rfl rfl (fun b17 => ?_) (fun b17 => ?_)
      · exact (geY (rfl : nI w9 = nI w9) b17 (by omega) (by omega)).elim
      · refine P_aload0 X 21 dX2_lastDeskFrom_20 rfl ?_
        refine P_iload3 X 22 dX2_lastDeskFrom_21 rfl ?_
        refine P_iload2 X 23 dX2_lastDeskFrom_22 rfl ?_
        refine V2r X 5 26 dX2_lastDeskFrom_23 rfl lk_X2_54 mv_X2_nextDesk rfl (by omega) (Nat.le_of_ble_eq_true rfl) (Nat.le_of_ble_eq_true rfl) rfl rfl (k_X2_nextDesk (by omega) hR hr12) ?_
        refine P_istore3 X 27 dX2_lastDeskFrom_26 rfl (by decide) rfl ?_
        refine P_iinc5 X (1) rfl 30 dX2_lastDeskFrom_27 rfl (by decide) rfl ?_
        refine P_goto X 13 dX2_lastDeskFrom_30 rfl ?_
        rw [nI_1]
        exact ih (i + 1) _ (by omega) hI0
  refine P_iconst X (0) rfl 11 dX2_lastDeskFrom_10 rfl ?_
  refine P_istore5 X 13 dX2_lastDeskFrom_11 rfl (by decide) rfl ?_
  exact L w9 0 _ (by omega) hz9
set_option maxHeartbeats 4000000 in
set_option maxRecDepth 100000 in
theorem k_X8_kindOf {d : Nat} {E : Ev} {t : Nat} {h : Hp} (hd : 0 ≤ d) (ht : t < 40) (hfa : Bd (h 20) 40) : Cl d yX8_kindOf cX8_kindOf 2 (some .int) E (wdX E) [.ref (E.2.2.1 0), .int (nI t)] h (Rt (some (.int (h 12 (tn (h 20 t))))) h) := by
  refine Cl_of [some (.ref (E.2.2.1 0)), some (.int (nI t))] (by decide) rfl (Nat.le_of_ble_eq_true rfl) (fun K A X hQ => ?_)
  obtain ⟨a9, ha9, ea⟩ := hfa t
  have et : tn (h 20 t) = a9 := by rw [ea]; exact nI_clamp (by omega)
  refine P_aload0 X 1 dX8_kindOf_0 rfl ?_
  refine gX_0_0 X 4 dX8_kindOf_1 rfl fl_X8_10 ?_
  refine gX_1_0 X 7 dX8_kindOf_4 rfl fl_X8_120 ?_
  refine P_aload0 X 8 dX8_kindOf_7 rfl ?_
  refine gX_0_1 X 11 dX8_kindOf_8 rfl fl_X8_19 ?_
  refine gX_2_0 X 14 dX8_kindOf_11 rfl fl_X8_322 ?_
  refine P_iload1 X 15 dX8_kindOf_14 rfl ?_
  refine lX_20 X 16 dX8_kindOf_15 rfl rfl (by omega) ?_
  refine lX_12 X 17 dX8_kindOf_16 rfl ea ha9 ?_
  exact P_iret X hQ dX8_kindOf_17 (rti (by rw [et]))
set_option maxHeartbeats 4000000 in
set_option maxRecDepth 100000 in
theorem k_X8_dayOf {d : Nat} {E : Ev} {t : Nat} {h : Hp} (hd : 0 ≤ d) (ht : t < 40) (hfa : Bd (h 20) 40) : Cl d yX8_dayOf cX8_dayOf 2 (some .int) E (wdX E) [.ref (E.2.2.1 0), .int (nI t)] h (Rt (some (.int (h 16 (tn (h 20 t))))) h) := by
  refine Cl_of [some (.ref (E.2.2.1 0)), some (.int (nI t))] (by decide) rfl (Nat.le_of_ble_eq_true rfl) (fun K A X hQ => ?_)
  obtain ⟨a9, ha9, ea⟩ := hfa t
  have et : tn (h 20 t) = a9 := by rw [ea]; exact nI_clamp (by omega)
  refine P_aload0 X 1 dX8_dayOf_0 rfl ?_
  refine gX_0_0 X 4 dX8_dayOf_1 rfl fl_X8_10 ?_
  refine gX_1_4 X 7 dX8_dayOf_4 rfl fl_X8_325 ?_
  refine P_aload0 X 8 dX8_dayOf_7 rfl ?_
  refine gX_0_1 X 11 dX8_dayOf_8 rfl fl_X8_19 ?_
  refine gX_2_0 X 14 dX8_dayOf_11 rfl fl_X8_322 ?_
  refine P_iload1 X 15 dX8_dayOf_14 rfl ?_
  refine lX_20 X 16 dX8_dayOf_15 rfl rfl (by omega) ?_
  refine lX_16 X 17 dX8_dayOf_16 rfl ea ha9 ?_
  exact P_iret X hQ dX8_dayOf_17 (rti (by rw [et]))
set_option maxHeartbeats 4000000 in
set_option maxRecDepth 100000 in
theorem k_X8_quarterOfThing {d : Nat} {E : Ev} {t : Nat} {h : Hp} (hd : 2 ≤ d) (ht : t < 40) (hfa : Bd (h 20) 40) : Cl d yX8_quarterOfThing cX8_quarterOfThing 2 (some .int) E (wdX E) [.ref (E.2.2.1 0), .int (nI t)] h (Rt (some (.int (qtr (h 13 (tn (h 20 t))) (h 14 (tn (h 20 t)))))) h) := by
  refine Cl_of [some (.ref (E.2.2.1 0)), some (.int (nI t))] (by decide) rfl (Nat.le_of_ble_eq_true rfl) (fun K A X hQ => ?_)
  obtain ⟨a9, ha9, ea⟩ := hfa t
  have et : tn (h 20 t) = a9 := by rw [ea]; exact nI_clamp (by omega)
  refine P_aload0 X 1 dX8_quarterOfThing_0 rfl ?_
  refine gX_0_0 X 4 dX8_quarterOfThing_1 rfl fl_X8_10 ?_
  refine P_aload0 X 5 dX8_quarterOfThing_4 rfl ?_
  refine gX_0_1 X 8 dX8_quarterOfThing_5 rfl fl_X8_19 ?_
  refine gX_2_0 X 11 dX8_quarterOfThing_8 rfl fl_X8_322 ?_
  refine P_iload1 X 12 dX8_quarterOfThing_11 rfl ?_
  refine lX_20 X 13 dX8_quarterOfThing_12 rfl rfl (by omega) ?_
  refine P_top ea ?_
  refine V1r X 1 16 dX8_quarterOfThing_13 rfl lk_X8_328 mv_X0_quarterOfAsk rfl (by omega) (Nat.le_of_ble_eq_true rfl) (Nat.le_of_ble_eq_true rfl) rfl rfl (k_X0_quarterOfAsk (by omega) ha9) ?_
  exact P_iret X hQ dX8_quarterOfThing_16 (rti (by rw [et]))
/-- whose a thing is: its desk, or the finding; and how many rows it goes by -/
def ownP (kd xs ys fa : Nat → Int32) (row : Nat → Int32) (d2 : Nat → Int32) (nx : Int32 → Int32 → Int32) (t : Nat) : Int32 × Nat := if row (tn (kd (tn (fa t)))) = -1 then (-1000004, 0) else own0 (nx (qtr (xs (tn (fa t))) (ys (tn (fa t))))) (d2 (tn (row (tn (kd (tn (fa t)))))))
abbrev owX (h : Hp) (rr t : Nat) : Int32 × Nat := ownP (h 12) (h 13) (h 14) (h 20) (fun k => rowX h rr k) (h 31) (fun q => nxX h rr q) t
set_option maxHeartbeats 4000000 in
set_option maxRecDepth 100000 in
theorem k_X8_ownerOf {d : Nat} {E : Ev} {rr t : Nat} {h : Hp} (hd : 4 ≤ d) (hR : h 5 4 = nI rr) (hr12 : rr ≤ 12) (hV : TVX h rr) (ht : t < 40) (hfa : Bd (h 20) 40) (hk5 : Bd (h 12) 5) : Cl d yX8_ownerOf cX8_ownerOf 3 (some .int) E (wdX E) [.ref (E.2.2.1 0), .int (nI t)] h (Rt (some (.int ((owX h rr t).1))) h) := by
  refine Cl_of [some (.ref (E.2.2.1 0)), some (.int (nI t)), none] (by decide) rfl (Nat.le_of_ble_eq_true rfl) (fun K A X hQ => ?_)
  obtain ⟨kk, hkk, ekk⟩ := hk5 (tn (h 20 t))
  have etk : tn (h 12 (tn (h 20 t))) = kk := by rw [ekk]; exact nI_clamp (by omega)
  refine P_aload0 X 1 dX8_ownerOf_0 rfl ?_
  refine gX_0_4 X 4 dX8_ownerOf_1 rfl fl_X8_40 ?_
  refine P_aload0 X 5 dX8_ownerOf_4 rfl ?_
  refine P_iload1 X 6 dX8_ownerOf_5 rfl ?_
  refine V1r X 0 9 dX8_ownerOf_6 rfl lk_X8_169 mv_X8_kindOf rfl (by omega) (Nat.le_of_ble_eq_true rfl) (Nat.le_of_ble_eq_true rfl) rfl rfl (k_X8_kindOf (by omega) ht hfa) ?_
  refine P_top ekk ?_
  refine V1r X 5 12 dX8_ownerOf_9 rfl lk_X8_179 mv_X2_firstDeskFor rfl (by omega) (Nat.le_of_ble_eq_true rfl) (Nat.le_of_ble_eq_true rfl) rfl rfl (k_X2_firstDeskFor (by omega) hR hr12 hkk) ?_
  by_cases hne : rowX h rr kk = -1
  · rw [if_pos hne]
    refine P_istore2 X 13 dX8_ownerOf_12 rfl (by decide) rfl ?_
    refine P_iload2 X 14 dX8_ownerOf_13 rfl ?_
    refine P_iconst X (-1) rfl 15 dX8_ownerOf_14 rfl ?_
    refine P_icmp_ne X 23 18 dX8_ownerOf_15 rfl rfl (fun b15 => ?_) (fun b15 => ?_)
    · exact absurd rfl b15
    · refine P_ldc X kc_X8_175 20 dX8_ownerOf_18 rfl ?_
      refine P_goto X 36 dX8_ownerOf_20 rfl ?_
      exact P_iret X hQ dX8_ownerOf_36 (rti (by simp only [owX, ownP]; rw [etk, if_pos hne]))
  · rw [if_neg hne]
    obtain ⟨r9, e9, h9, hg9⟩ : ∃ r, rowX h rr kk = nI r ∧ r < rr ∧ gvX h r = true := rowF_cases.resolve_left hne
    have er9 : tn (rowX h rr kk) = r9 := by rw [e9]; exact nI_clamp (by omega)
    obtain ⟨d9, hd9, ed9⟩ : ∃ k, k < 6 ∧ h 31 r9 = nI k := by
      rcases hV r9 h9 with z | z
      · exact z.2.2.2.1
      · rw [z.1] at hg9; cases hg9
    rw [er9, ed9]
    refine P_istore2 X 13 dX8_ownerOf_12 rfl (by decide) rfl ?_
    refine P_iload2 X 14 dX8_ownerOf_13 rfl ?_
    refine P_iconst X (-1) rfl 15 dX8_ownerOf_14 rfl ?_
    refine P_icmp_ne X 23 18 dX8_ownerOf_15 rfl rfl (fun b15 => ?_) (fun b15 => ?_)
    · refine P_aload0 X 24 dX8_ownerOf_23 rfl ?_
      refine gX_0_4 X 27 dX8_ownerOf_24 rfl fl_X8_40 ?_
      refine P_iload2 X 28 dX8_ownerOf_27 rfl ?_
      refine P_aload0 X 29 dX8_ownerOf_28 rfl ?_
      refine P_iload1 X 30 dX8_ownerOf_29 rfl ?_
      refine V1r X 0 33 dX8_ownerOf_30 rfl lk_X8_182 mv_X8_quarterOfThing rfl (by omega) (Nat.le_of_ble_eq_true rfl) (Nat.le_of_ble_eq_true rfl) rfl rfl (k_X8_quarterOfThing (by omega) ht hfa) ?_
      refine V2r X 5 36 dX8_ownerOf_33 rfl lk_X8_346 mv_X2_lastDeskFrom rfl (by omega) (Nat.le_of_ble_eq_true rfl) (Nat.le_of_ble_eq_true rfl) rfl rfl (k_X2_lastDeskFrom (by omega) hR hr12 hV hd9) ?_
      exact P_iret X hQ dX8_ownerOf_36 (rti (by simp only [owX, ownP]; rw [etk, if_neg hne, er9, ed9]))
    · exact absurd b15 (nI_nm1 (by omega))
def okT1 (x t : Int32) : Bool := inB t 0 (x - 1)
set_option maxHeartbeats 4000000 in
set_option maxRecDepth 100000 in
theorem k_X8_whose {d : Nat} {E : Ev} {rr nT : Nat} {t : Int32} {h : Hp} (hd : 5 ≤ d) (hR : h 5 4 = nI rr) (hr12 : rr ≤ 12) (hV : TVX h rr) (hT : h 2 6 = nI nT) (hnT : nT ≤ 40) (hfa : Bd (h 20) 40) (hk5 : Bd (h 12) 5) : Cl d yX8_whose cX8_whose 3 (some .int) E (wdX E) [.ref (E.2.2.1 0), .int t] h (Rt (some (.int (if okT1 (h 2 6) t then (owX h rr (tn t)).1 else -1000001))) (if okT1 (h 2 6) t then (if (owX h rr (tn t)).1 < 0 then fiX h else h) else fiX h)) := by
  refine Cl_of [some (.ref (E.2.2.1 0)), some (.int t), none] (by decide) rfl (Nat.le_of_ble_eq_true rfl) (fun K A X hQ => ?_)
  refine P_aload0 X 1 dX8_whose_0 rfl ?_
  refine P_iload1 X 2 dX8_whose_1 rfl ?_
  refine V1r X 0 5 dX8_whose_2 rfl lk_X8_135 mv_X8_isThing rfl (by omega) (Nat.le_of_ble_eq_true rfl) (Nat.le_of_ble_eq_true rfl) rfl rfl (k_X8_isThing (by omega)) ?_
  refine P_bn X 15 8 dX8_whose_5 rfl rfl (fun b5 => ?_) (fun b5 => ?_)
  · obtain ⟨t, ht0, rfl⟩ := inB_ix hT b5 hnT
    have ht : t < 40 := by omega
    have ht31 : tn (nI t) = t := nI_clamp (by omega)
    rw [ht31] at hQ
    have hok : okT1 (h 2 6) (nI t) = true := b5
    rw [if_pos hok, if_pos hok] at hQ
    refine P_aload0 X 16 dX8_whose_15 rfl ?_
    refine P_iload1 X 17 dX8_whose_16 rfl ?_
    refine V1r X 0 20 dX8_whose_17 rfl lk_X8_166 mv_X8_ownerOf rfl (by omega) (Nat.le_of_ble_eq_true rfl) (Nat.le_of_ble_eq_true rfl) rfl rfl (k_X8_ownerOf (by omega) hR hr12 hV (by omega) hfa hk5) ?_
    refine P_istore2 X 21 dX8_whose_20 rfl (by decide) rfl ?_
    refine P_iload2 X 22 dX8_whose_21 rfl ?_
    refine P_if_ge X 33 25 dX8_whose_22 rfl rfl (fun b22 => ?_) (fun b22 => ?_)
    · refine P_iload2 X 34 dX8_whose_33 rfl ?_
      rw [if_neg (fun z => absurd b22 (Int32.not_le.mpr z))] at hQ
      exact P_iret X hQ dX8_whose_34 ⟨rfl, rfl⟩
    · refine P_aload0 X 26 dX8_whose_25 rfl ?_
      refine P_iload2 X 27 dX8_whose_26 rfl ?_
      refine V1r X 0 30 dX8_whose_27 rfl lk_X8_91 mv_X8_finding rfl (by omega) (Nat.le_of_ble_eq_true rfl) (Nat.le_of_ble_eq_true rfl) rfl rfl (k_X8_finding (by omega)) ?_
      refine P_goto X 34 dX8_whose_30 rfl ?_
      rw [if_pos (Int32.not_le.mp b22)] at hQ
      exact P_iret X hQ dX8_whose_34 ⟨rfl, rfl⟩
  · have hok : ¬ okT1 (h 2 6) t = true := by rw [okT1, b5]; simp
    rw [if_neg hok, if_neg hok] at hQ
    refine P_aload0 X 9 dX8_whose_8 rfl ?_
    refine P_ldc X kc_X8_90 11 dX8_whose_9 rfl ?_
    refine V1r X 0 14 dX8_whose_11 rfl lk_X8_91 mv_X8_finding rfl (by omega) (Nat.le_of_ble_eq_true rfl) (Nat.le_of_ble_eq_true rfl) rfl rfl (k_X8_finding (by omega)) ?_
    exact P_iret X hQ dX8_whose_14 ⟨rfl, rfl⟩
def prP (kd dy fa : Nat → Int32) (row : Nat → Int32) (d3 : Nat → Int32) (t : Nat) : Int32 := if row (tn (kd (tn (fa t)))) = -1 then -1 else dy (tn (fa t)) + d3 (tn (row (tn (kd (tn (fa t))))))
abbrev prX (h : Hp) (rr t : Nat) : Int32 := prP (h 12) (h 16) (h 20) (fun k => rowX h rr k) (h 32) t
theorem m1_eq : (-1 : Int32) = -1 := rfl
set_option maxHeartbeats 4000000 in
set_option maxRecDepth 100000 in
theorem k_X8_promise {d : Nat} {E : Ev} {rr nT : Nat} {t : Int32} {h : Hp} (hd : 4 ≤ d) (hR : h 5 4 = nI rr) (hr12 : rr ≤ 12) (hV : TVX h rr) (hT : h 2 6 = nI nT) (hnT : nT ≤ 40) (hfa : Bd (h 20) 40) (hk5 : Bd (h 12) 5) : Cl d yX8_promise cX8_promise 3 (some .int) E (wdX E) [.ref (E.2.2.1 0), .int t] h (Rt (some (.int (if okT1 (h 2 6) t then (if rowX h rr (tn (h 12 (tn (h 20 (tn t))))) = -1 then -1000004 else prX h rr (tn t)) else -1000001))) (if okT1 (h 2 6) t then (if rowX h rr (tn (h 12 (tn (h 20 (tn t))))) = -1 then fiX h else h) else fiX h)) := by
  refine Cl_of [some (.ref (E.2.2.1 0)), some (.int t), none] (by decide) rfl (Nat.le_of_ble_eq_true rfl) (fun K A X hQ => ?_)
  refine P_aload0 X 1 dX8_promise_0 rfl ?_
  refine P_iload1 X 2 dX8_promise_1 rfl ?_
  refine V1r X 0 5 dX8_promise_2 rfl lk_X8_135 mv_X8_isThing rfl (by omega) (Nat.le_of_ble_eq_true rfl) (Nat.le_of_ble_eq_true rfl) rfl rfl (k_X8_isThing (by omega)) ?_
  refine P_bn X 15 8 dX8_promise_5 rfl rfl (fun b5 => ?_) (fun b5 => ?_)
  · obtain ⟨t, ht0, rfl⟩ := inB_ix hT b5 hnT
    have ht : t < 40 := by omega
    have ht31 : tn (nI t) = t := nI_clamp (by omega)
    rw [ht31] at hQ
    have hok : okT1 (h 2 6) (nI t) = true := b5
    rw [if_pos hok, if_pos hok] at hQ
    obtain ⟨kk, hkk, ekk⟩ := hk5 (tn (h 20 t))
    have etk : tn (h 12 (tn (h 20 t))) = kk := by rw [ekk]; exact nI_clamp (by omega)
    rw [etk] at hQ
    refine P_aload0 X 16 dX8_promise_15 rfl ?_
    refine gX_0_4 X 19 dX8_promise_16 rfl fl_X8_40 ?_
    refine P_aload0 X 20 dX8_promise_19 rfl ?_
    refine P_iload1 X 21 dX8_promise_20 rfl ?_
    refine V1r X 0 24 dX8_promise_21 rfl lk_X8_169 mv_X8_kindOf rfl (by omega) (Nat.le_of_ble_eq_true rfl) (Nat.le_of_ble_eq_true rfl) rfl rfl (k_X8_kindOf (by omega) ht hfa) ?_
    refine P_top ekk ?_
    refine V1r X 5 27 dX8_promise_24 rfl lk_X8_172 mv_X2_daysFor rfl (by omega) (Nat.le_of_ble_eq_true rfl) (Nat.le_of_ble_eq_true rfl) rfl rfl (k_X2_daysFor (by omega) hR hr12 hkk) ?_
    by_cases hne : rowX h rr kk = -1
    · rw [if_pos hne]
      refine P_istore2 X 28 dX8_promise_27 rfl (by decide) rfl ?_
      refine P_iload2 X 29 dX8_promise_28 rfl ?_
      refine P_iconst X (-1) rfl 30 dX8_promise_29 rfl ?_
      refine P_icmp_ne X 42 33 dX8_promise_30 rfl rfl (fun b30 => ?_) (fun b30 => ?_)
      · exact absurd rfl b30
      · refine P_aload0 X 34 dX8_promise_33 rfl ?_
        refine P_ldc X kc_X8_175 36 dX8_promise_34 rfl ?_
        refine V1r X 0 39 dX8_promise_36 rfl lk_X8_91 mv_X8_finding rfl (by omega) (Nat.le_of_ble_eq_true rfl) (Nat.le_of_ble_eq_true rfl) rfl rfl (k_X8_finding (by omega)) ?_
        refine P_goto X 49 dX8_promise_39 rfl ?_
        rw [if_pos hne, if_pos hne] at hQ
        exact P_iret X hQ dX8_promise_49 ⟨rfl, rfl⟩
    · rw [if_neg hne]
      obtain ⟨r9, e9, h9, hg9⟩ : ∃ r, rowX h rr kk = nI r ∧ r < rr ∧ gvX h r = true := rowF_cases.resolve_left hne
      have er9 : tn (rowX h rr kk) = r9 := by rw [e9]; exact nI_clamp (by omega)
      obtain ⟨d9, hd9, hd8, ed9⟩ : ∃ k, 1 ≤ k ∧ k < 10 ∧ h 32 r9 = nI k := by
        rcases hV r9 h9 with z | z
        · exact z.2.2.2.2
        · rw [z.1] at hg9; cases hg9
      rw [er9, ed9]
      refine P_istore2 X 28 dX8_promise_27 rfl (by decide) rfl ?_
      refine P_iload2 X 29 dX8_promise_28 rfl ?_
      refine P_iconst X (-1) rfl 30 dX8_promise_29 rfl ?_
      refine P_icmp_ne X 42 33 dX8_promise_30 rfl rfl (fun b30 => ?_) (fun b30 => ?_)
      · refine P_aload0 X 43 dX8_promise_42 rfl ?_
        refine P_iload1 X 44 dX8_promise_43 rfl ?_
        refine V1r X 0 47 dX8_promise_44 rfl lk_X8_176 mv_X8_dayOf rfl (by omega) (Nat.le_of_ble_eq_true rfl) (Nat.le_of_ble_eq_true rfl) rfl rfl (k_X8_dayOf (by omega) ht hfa) ?_
        refine P_iload2 X 48 dX8_promise_47 rfl ?_
        refine P_iadd X 49 dX8_promise_48 rfl ?_
        rw [if_neg hne, if_neg hne] at hQ
        exact P_iret X hQ dX8_promise_49 ⟨by simp only [prX, prP]; rw [etk, if_neg hne, er9, ed9], rfl⟩
      · exact absurd b30 (nI_nm1 (by omega))
  · have hok : ¬ okT1 (h 2 6) t = true := by rw [okT1, b5]; simp
    rw [if_neg hok, if_neg hok] at hQ
    refine P_aload0 X 9 dX8_promise_8 rfl ?_
    refine P_ldc X kc_X8_90 11 dX8_promise_9 rfl ?_
    refine V1r X 0 14 dX8_promise_11 rfl lk_X8_91 mv_X8_finding rfl (by omega) (Nat.le_of_ble_eq_true rfl) (Nat.le_of_ble_eq_true rfl) rfl rfl (k_X8_finding (by omega)) ?_
    exact P_iret X hQ dX8_promise_14 ⟨rfl, rfl⟩
set_option maxHeartbeats 4000000 in
set_option maxRecDepth 100000 in
theorem k_X8_sent {d : Nat} {E : Ev} {rr nT : Nat} {t : Int32} {h : Hp} (hd : 4 ≤ d) (hR : h 5 4 = nI rr) (hr12 : rr ≤ 12) (hV : TVX h rr) (hT : h 2 6 = nI nT) (hnT : nT ≤ 40) (hfa : Bd (h 20) 40) (hk5 : Bd (h 12) 5) : Cl d yX8_sent cX8_sent 3 (some .int) E (wdX E) [.ref (E.2.2.1 0), .int t] h (Rt (some (.int (if okT1 (h 2 6) t then (if rowX h rr (tn (h 12 (tn (h 20 (tn t))))) = -1 then -1000004 else nI (owX h rr (tn t)).2) else -1000001))) (if okT1 (h 2 6) t then (if rowX h rr (tn (h 12 (tn (h 20 (tn t))))) = -1 then fiX h else h) else fiX h)) := by
  refine Cl_of [some (.ref (E.2.2.1 0)), some (.int t), none] (by decide) rfl (Nat.le_of_ble_eq_true rfl) (fun K A X hQ => ?_)
  refine P_aload0 X 1 dX8_sent_0 rfl ?_
  refine P_iload1 X 2 dX8_sent_1 rfl ?_
  refine V1r X 0 5 dX8_sent_2 rfl lk_X8_135 mv_X8_isThing rfl (by omega) (Nat.le_of_ble_eq_true rfl) (Nat.le_of_ble_eq_true rfl) rfl rfl (k_X8_isThing (by omega)) ?_
  refine P_bn X 15 8 dX8_sent_5 rfl rfl (fun b5 => ?_) (fun b5 => ?_)
  · obtain ⟨t, ht0, rfl⟩ := inB_ix hT b5 hnT
    have ht : t < 40 := by omega
    have ht31 : tn (nI t) = t := nI_clamp (by omega)
    rw [ht31] at hQ
    have hok : okT1 (h 2 6) (nI t) = true := b5
    rw [if_pos hok, if_pos hok] at hQ
    obtain ⟨kk, hkk, ekk⟩ := hk5 (tn (h 20 t))
    have etk : tn (h 12 (tn (h 20 t))) = kk := by rw [ekk]; exact nI_clamp (by omega)
    rw [etk] at hQ
    refine P_aload0 X 16 dX8_sent_15 rfl ?_
    refine gX_0_4 X 19 dX8_sent_16 rfl fl_X8_40 ?_
    refine P_aload0 X 20 dX8_sent_19 rfl ?_
    refine P_iload1 X 21 dX8_sent_20 rfl ?_
    refine V1r X 0 24 dX8_sent_21 rfl lk_X8_169 mv_X8_kindOf rfl (by omega) (Nat.le_of_ble_eq_true rfl) (Nat.le_of_ble_eq_true rfl) rfl rfl (k_X8_kindOf (by omega) ht hfa) ?_
    refine P_top ekk ?_
    refine V1r X 5 27 dX8_sent_24 rfl lk_X8_179 mv_X2_firstDeskFor rfl (by omega) (Nat.le_of_ble_eq_true rfl) (Nat.le_of_ble_eq_true rfl) rfl rfl (k_X2_firstDeskFor (by omega) hR hr12 hkk) ?_
    by_cases hne : rowX h rr kk = -1
    · rw [if_pos hne]
      refine P_istore2 X 28 dX8_sent_27 rfl (by decide) rfl ?_
      refine P_iload2 X 29 dX8_sent_28 rfl ?_
      refine P_iconst X (-1) rfl 30 dX8_sent_29 rfl ?_
      refine P_icmp_ne X 42 33 dX8_sent_30 rfl rfl (fun b30 => ?_) (fun b30 => ?_)
      · exact absurd rfl b30
      · refine P_aload0 X 34 dX8_sent_33 rfl ?_
        refine P_ldc X kc_X8_175 36 dX8_sent_34 rfl ?_
        refine V1r X 0 39 dX8_sent_36 rfl lk_X8_91 mv_X8_finding rfl (by omega) (Nat.le_of_ble_eq_true rfl) (Nat.le_of_ble_eq_true rfl) rfl rfl (k_X8_finding (by omega)) ?_
        refine P_goto X 55 dX8_sent_39 rfl ?_
        rw [if_pos hne, if_pos hne] at hQ
        exact P_iret X hQ dX8_sent_55 ⟨rfl, rfl⟩
    · rw [if_neg hne]
      obtain ⟨r9, e9, h9, hg9⟩ : ∃ r, rowX h rr kk = nI r ∧ r < rr ∧ gvX h r = true := rowF_cases.resolve_left hne
      have er9 : tn (rowX h rr kk) = r9 := by rw [e9]; exact nI_clamp (by omega)
      obtain ⟨d9, hd9, ed9⟩ : ∃ k, k < 6 ∧ h 31 r9 = nI k := by
        rcases hV r9 h9 with z | z
        · exact z.2.2.2.1
        · rw [z.1] at hg9; cases hg9
      rw [er9, ed9]
      refine P_istore2 X 28 dX8_sent_27 rfl (by decide) rfl ?_
      refine P_iload2 X 29 dX8_sent_28 rfl ?_
      refine P_iconst X (-1) rfl 30 dX8_sent_29 rfl ?_
      refine P_icmp_ne X 42 33 dX8_sent_30 rfl rfl (fun b30 => ?_) (fun b30 => ?_)
      · refine P_aload0 X 43 dX8_sent_42 rfl ?_
        refine gX_0_4 X 46 dX8_sent_43 rfl fl_X8_40 ?_
        refine P_iload2 X 47 dX8_sent_46 rfl ?_
        refine P_aload0 X 48 dX8_sent_47 rfl ?_
        refine P_iload1 X 49 dX8_sent_48 rfl ?_
        refine V1r X 0 52 dX8_sent_49 rfl lk_X8_182 mv_X8_quarterOfThing rfl (by omega) (Nat.le_of_ble_eq_true rfl) (Nat.le_of_ble_eq_true rfl) rfl rfl (k_X8_quarterOfThing (by omega) ht hfa) ?_
        refine V2r X 5 55 dX8_sent_52 rfl lk_X8_185 mv_X2_rowsGoneBy rfl (by omega) (Nat.le_of_ble_eq_true rfl) (Nat.le_of_ble_eq_true rfl) rfl rfl (k_X2_rowsGoneBy (by omega) hR hr12) ?_
        rw [if_neg hne, if_neg hne] at hQ
        exact P_iret X hQ dX8_sent_55 ⟨by simp only [owX, ownP]; rw [etk, if_neg hne, er9, ed9, own0_gone (fun k9 => nxt_cases hV _ k9) hd9], rfl⟩
      · exact absurd b30 (nI_nm1 (by omega))
  · have hok : ¬ okT1 (h 2 6) t = true := by rw [okT1, b5]; simp
    rw [if_neg hok, if_neg hok] at hQ
    refine P_aload0 X 9 dX8_sent_8 rfl ?_
    refine P_ldc X kc_X8_90 11 dX8_sent_9 rfl ?_
    refine V1r X 0 14 dX8_sent_11 rfl lk_X8_91 mv_X8_finding rfl (by omega) (Nat.le_of_ble_eq_true rfl) (Nat.le_of_ble_eq_true rfl) rfl rfl (k_X8_finding (by omega)) ?_
    exact P_iret X hQ dX8_sent_14 ⟨rfl, rfl⟩
