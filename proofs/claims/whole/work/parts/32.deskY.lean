abbrev gvY (f : Nat → Int32) : Nat → Bool := fun r => decide (f (4 * r) = 1)
abbrev sdY (f : Nat → Int32) : Nat → Bool := fun r => decide (f (4 * r) = 0)
abbrev d1Y (f : Nat → Int32) : Nat → Int32 := fun r => f (4 * r + 1)
abbrev d2Y (f : Nat → Int32) : Nat → Int32 := fun r => f (4 * r + 2)
abbrev d3Y (f : Nat → Int32) : Nat → Int32 := fun r => f (4 * r + 3)
abbrev TVY (f : Nat → Int32) (rr : Nat) : Prop := TV (gvY f) (sdY f) (d1Y f) (d2Y f) (d3Y f) rr
def nxF (f : Nat → Int32) (rr : Nat) (q : Int32) : Int32 → Int32 := nxt (sdY f) (d1Y f) (d2Y f) (d3Y f) rr q
def rowYf (f : Nat → Int32) (rr k : Nat) : Int32 := rowF (gvY f) (d1Y f) rr k
theorem m64h : ∀ b, b < 64 → ∀ j, j < 6 → ((nI b >>> (nI j &&& 31)) &&& 1) = bI (b.testBit j) := by decide +kernel
theorem bI_1 {b : Bool} : bI b = 1 ↔ b = true := by cases b <;> simp [bI]

set_option maxHeartbeats 4000000 in
set_option maxRecDepth 100000 in
theorem k_X9_rowFor {d : Nat} {E : Ev} {rr kk : Nat} {h : Hp} (hd : 1 ≤ d) (hR : h 0 19 = nI rr) (hr12 : rr ≤ 12) (hkk : kk < 5) : Cl d yX9_rowFor cX9_rowFor 4 (some .int) E (wdY E) [.ref (E.2.2.1 0), .int (nI kk)] h (Rt (some (.int (rowYf (h 16) rr kk))) h) := by
  refine Cl_of [some (.ref (E.2.2.1 0)), some (.int (nI kk)), none, none] (by decide) rfl (Nat.le_of_ble_eq_true rfl) (fun K A X hQ => ?_)
  have Ex : ∀ (o3 : Option Value), rowYf (h 16) rr kk = -1 → GW K 4 E (wdY E) A 2 [some (.ref (E.2.2.1 0)), some (.int (nI kk)), some (.int (-1)), o3] [] h := by
    intro o3 hr
    refine P_iload2 X 3 dX9_rowFor_2 rfl ?_
    refine P_if_lt X 58 6 dX9_rowFor_3 rfl rfl (fun b3 => ?_) (fun b3 => ?_)
    · refine P_iconst X (-1) rfl 59 dX9_rowFor_58 rfl ?_
      exact P_iret X hQ dX9_rowFor_59 (rti hr.symm)
    · exact absurd (by decide) b3
  have It : ∀ (jj : Nat) (o3 : Option Value), jj < 5 → (¬ fsI (jP (gvY (h 16)) (d1Y (h 16)) (nI jj)) rr = -1 → rowYf (h 16) rr kk = fsI (jP (gvY (h 16)) (d1Y (h 16)) (nI jj)) rr) → (fsI (jP (gvY (h 16)) (d1Y (h 16)) (nI jj)) rr = -1 → ∀ o3, GW K 4 E (wdY E) A 2 [some (.ref (E.2.2.1 0)), some (.int (nI kk)), some (.int (abv jj)), o3] [] h) → GW K 4 E (wdY E) A 2 [some (.ref (E.2.2.1 0)), some (.int (nI kk)), some (.int (nI jj)), o3] [] h := by
    intro jj o3 hjj h1 h2
    have L : ∀ (m i : Nat) , i + m = rr → (∀ j, j < i → (jP (gvY (h 16)) (d1Y (h 16)) (nI jj)) j = false) → GW K 4 E (wdY E) A 8 [some (.ref (E.2.2.1 0)), some (.int (nI kk)), some (.int (nI jj)), some (.int (nI i))] [] h := by
      intro m
      induction m with
      | zero =>
        intro i  hm hI0
        refine P_iload3 X 9 dX9_rowFor_8 rfl ?_
        refine P_aload0 X 10 dX9_rowFor_9 rfl ?_
        refine gY_0_19 X 13 dX9_rowFor_10 rfl fl_X9_179 ?_
        refine P_icmp_ge X 50 16 dX9_rowFor_13 rfl rfl (fun b13 => ?_) (fun b13 => ?_)
        · obtain rfl : i = rr := by omega
          refine P_iload2 X 51 dX9_rowFor_50 rfl ?_
          refine S1r X 54 dX9_rowFor_51 rfl lk_X9_121 ms_X9_above rfl (by omega) (Nat.le_of_ble_eq_true rfl) (k_X9_above (by omega) hjj) ?_
          refine P_istore2 X 55 dX9_rowFor_54 rfl (by decide) rfl ?_
          refine P_goto X 2 dX9_rowFor_55 rfl ?_
          exact h2 (fsI_none hI0).symm _
        · exact (geN hR b13 (by omega) (by omega)).elim
      | succ m ih =>
        intro i  hm hI0
        refine P_iload3 X 9 dX9_rowFor_8 rfl ?_
        refine P_aload0 X 10 dX9_rowFor_9 rfl ?_
        refine gY_0_19 X 13 dX9_rowFor_10 rfl fl_X9_179 ?_
        refine P_icmp_ge X 50 16 dX9_rowFor_13 rfl rfl (fun b13 => ?_) (fun b13 => ?_)
        · exact (geY hR b13 (by omega) (by omega)).elim
        · refine P_aload0 X 17 dX9_rowFor_16 rfl ?_
          refine gY_0_20 X 20 dX9_rowFor_17 rfl fl_X9_56 ?_
          refine P_iconst X (4) rfl 21 dX9_rowFor_20 rfl ?_
          refine P_iload3 X 22 dX9_rowFor_21 rfl ?_
          refine P_imul X 23 dX9_rowFor_22 rfl ?_
          refine lY_16 X 24 dX9_rowFor_23 rfl (ixm0 4 i) (by omega) ?_
          refine P_iconst X (1) rfl 25 dX9_rowFor_24 rfl ?_
          refine P_icmp_ne X 44 28 dX9_rowFor_25 rfl rfl (fun b25 => ?_) (fun b25 => ?_)
          · refine P_iinc3 X (1) rfl 47 dX9_rowFor_44 rfl (by decide) rfl ?_
            refine P_goto X 8 dX9_rowFor_47 rfl ?_
            rw [nI_1]
            exact ih (i + 1) (by omega) (lt_s hI0 (by simp [jP, gvY, d1Y, b25]))
          · refine P_aload0 X 29 dX9_rowFor_28 rfl ?_
            refine gY_0_20 X 32 dX9_rowFor_29 rfl fl_X9_56 ?_
            refine P_iconst X (4) rfl 33 dX9_rowFor_32 rfl ?_
            refine P_iload3 X 34 dX9_rowFor_33 rfl ?_
            refine P_imul X 35 dX9_rowFor_34 rfl ?_
            refine P_iconst X (1) rfl 36 dX9_rowFor_35 rfl ?_
            refine P_iadd X 37 dX9_rowFor_36 rfl ?_
            refine lY_16 X 38 dX9_rowFor_37 rfl (ixm 4 i 1) (by omega) ?_
            refine P_iload2 X 39 dX9_rowFor_38 rfl ?_
            refine P_icmp_ne X 44 42 dX9_rowFor_39 rfl rfl (fun b39 => ?_) (fun b39 => ?_)
            · refine P_iinc3 X (1) rfl 47 dX9_rowFor_44 rfl (by decide) rfl ?_
              refine P_goto X 8 dX9_rowFor_47 rfl ?_
              rw [nI_1]
              exact ih (i + 1) (by omega) (lt_s hI0 (by simp [jP, gvY, d1Y, b39]))
            · refine P_iload3 X 43 dX9_rowFor_42 rfl ?_
              have ef := fsI_at (n := rr) hI0 (show jP (gvY (h 16)) (d1Y (h 16)) (nI jj) i = true by simp [jP, gvY, d1Y, b25, b39]) (by omega)
              exact P_iret X hQ dX9_rowFor_43 (rti (by rw [h1 (by rw [← ef]; exact nI_nm1 (by omega)), ← ef]))
    refine P_iload2 X 3 dX9_rowFor_2 rfl ?_
    refine P_if_lt X 58 6 dX9_rowFor_3 rfl rfl (fun b3 => ?_) (fun b3 => ?_)
    · exact absurd b3 (nI_pos (by omega))
    · refine P_iconst X (0) rfl 7 dX9_rowFor_6 rfl ?_
      refine P_istore3 X 8 dX9_rowFor_7 rfl (by decide) rfl ?_
      exact L rr 0 (by omega) (fun j hj => absurd hj (Nat.not_lt_zero _))
  refine P_iload1 X 1 dX9_rowFor_0 rfl ?_
  refine P_istore2 X 2 dX9_rowFor_1 rfl (by decide) rfl ?_
  rcases (show kk = 0 ∨ kk = 1 ∨ kk = 2 ∨ kk = 3 ∨ kk = 4 by omega) with rfl | rfl | rfl | rfl | rfl
  · exact It 0 _ (by omega) (fun e9 => rfl) (fun n0 o4 => Ex o4 n0)
  · exact It 1 _ (by omega) (fun e9 => (if_neg e9 : orI _ _ = _)) (fun n1 o4 => It 0 o4 (by omega) (fun _ => (if_pos n1 : orI _ _ = _)) (fun n0 o5 => Ex o5 ((if_pos n1 : orI _ _ = _).trans n0)))
  · exact It 2 _ (by omega) (fun e9 => (if_neg e9 : orI _ _ = _)) (fun n1 o4 => It 0 o4 (by omega) (fun _ => (if_pos n1 : orI _ _ = _)) (fun n0 o5 => Ex o5 ((if_pos n1 : orI _ _ = _).trans n0)))
  · exact It 3 _ (by omega) (fun e9 => (if_neg e9 : orI _ _ = _)) (fun n1 o4 => It 0 o4 (by omega) (fun _ => (if_pos n1 : orI _ _ = _)) (fun n0 o5 => Ex o5 ((if_pos n1 : orI _ _ = _).trans n0)))
  · exact It 4 _ (by omega) (fun e9 => (if_neg e9 : orI _ _ = _)) (fun n1 o4 => It 2 o4 (by omega) (fun e9 => (if_pos n1 : orI _ _ = _).trans (if_neg e9 : orI _ _ = _)) (fun n2 o5 => It 0 o5 (by omega) (fun _ => (if_pos n1 : orI _ _ = _).trans (if_pos n2 : orI _ _ = _)) (fun n0 o6 => Ex o6 (((if_pos n1 : orI _ _ = _).trans (if_pos n2 : orI _ _ = _)).trans n0))))
set_option maxHeartbeats 4000000 in
set_option maxRecDepth 100000 in
theorem k_X9_sends {d : Nat} {E : Ev} {rr : Nat} {kv qv : Int32} {h : Hp} (hd : 0 ≤ d) (hR : h 0 19 = nI rr) (hr12 : rr ≤ 12) : Cl d yX9_sends cX9_sends 4 (some .int) E (wdY E) [.ref (E.2.2.1 0), .int kv, .int qv] h (Rt (some (.int (nxF (h 16) rr qv kv))) h) := by
  refine Cl_of [some (.ref (E.2.2.1 0)), some (.int kv), some (.int qv), none] (by decide) rfl (Nat.le_of_ble_eq_true rfl) (fun K A X hQ => ?_)
  have hat : ∀ i, (∀ j, j < i → (sP (sdY (h 16)) (d1Y (h 16)) (d2Y (h 16)) kv qv) j = false) → (sP (sdY (h 16)) (d1Y (h 16)) (d2Y (h 16)) kv qv) i = true → i < rr → h 16 (4 * i + 3) = nxF (h 16) rr qv kv := by
    intro i h1 h2 h3
    simp only [nxF, nxt]
    rw [fst_at h1 h2 h3, if_pos h3]
  have hno : (∀ j, j < rr → (sP (sdY (h 16)) (d1Y (h 16)) (d2Y (h 16)) kv qv) j = false) → -1 = nxF (h 16) rr qv kv := by
    intro h1
    simp only [nxF, nxt]
    rw [fst_none h1, if_neg (by omega)]
  have L : ∀ (m i : Nat) , i + m = rr → (∀ j, j < i → (sP (sdY (h 16)) (d1Y (h 16)) (d2Y (h 16)) kv qv) j = false) → GW K 4 E (wdY E) A 2 [some (.ref (E.2.2.1 0)), some (.int kv), some (.int qv), some (.int (nI i))] [] h := by
    intro m
    induction m with
    | zero =>
      intro i  hm hI0
      refine P_iload3 X 3 dX9_sends_2 rfl ?_
      refine P_aload0 X 4 dX9_sends_3 rfl ?_
      refine gY_0_19 X 7 dX9_sends_4 rfl fl_X9_179 ?_
      refine P_icmp_ge X 66 10 dX9_sends_7 rfl rfl (fun b7 => ?_) (fun b7 => ?_)
      · obtain rfl : i = rr := by omega
        refine P_iconst X (-1) rfl 67 dX9_sends_66 rfl ?_
        exact P_iret X hQ dX9_sends_67 (rti (hno hI0))
      · exact (geN hR b7 (by omega) (by omega)).elim
    | succ m ih =>
      intro i  hm hI0
      refine P_iload3 X 3 dX9_sends_2 rfl ?_
      refine P_aload0 X 4 dX9_sends_3 rfl ?_
      refine gY_0_19 X 7 dX9_sends_4 rfl fl_X9_179 ?_
      refine P_icmp_ge X 66 10 dX9_sends_7 rfl rfl (fun b7 => ?_) (fun b7 => ?_)
      · exact (geY hR b7 (by omega) (by omega)).elim
      · refine P_aload0 X 11 dX9_sends_10 rfl ?_
        refine gY_0_20 X 14 dX9_sends_11 rfl fl_X9_56 ?_
        refine P_iconst X (4) rfl 15 dX9_sends_14 rfl ?_
        refine P_iload3 X 16 dX9_sends_15 rfl ?_
        refine P_imul X 17 dX9_sends_16 rfl ?_
        refine lY_16 X 18 dX9_sends_17 rfl (ixm0 4 i) (by omega) ?_
        refine P_if_ne X 60 21 dX9_sends_18 rfl rfl (fun b18 => ?_) (fun b18 => ?_)
        · refine P_iinc3 X (1) rfl 63 dX9_sends_60 rfl (by decide) rfl ?_
          refine P_goto X 2 dX9_sends_63 rfl ?_
          rw [nI_1]
          exact ih (i + 1) (by omega) (lt_s hI0 (by simp [sP, sdY, d1Y, d2Y, b18]))
        · refine P_aload0 X 22 dX9_sends_21 rfl ?_
          refine gY_0_20 X 25 dX9_sends_22 rfl fl_X9_56 ?_
          refine P_iconst X (4) rfl 26 dX9_sends_25 rfl ?_
          refine P_iload3 X 27 dX9_sends_26 rfl ?_
          refine P_imul X 28 dX9_sends_27 rfl ?_
          refine P_iconst X (1) rfl 29 dX9_sends_28 rfl ?_
          refine P_iadd X 30 dX9_sends_29 rfl ?_
          refine lY_16 X 31 dX9_sends_30 rfl (ixm 4 i 1) (by omega) ?_
          refine P_iload1 X 32 dX9_sends_31 rfl ?_
          refine P_icmp_ne X 60 35 dX9_sends_32 rfl rfl (fun b32 => ?_) (fun b32 => ?_)
          · refine P_iinc3 X (1) rfl 63 dX9_sends_60 rfl (by decide) rfl ?_
            refine P_goto X 2 dX9_sends_63 rfl ?_
            rw [nI_1]
            exact ih (i + 1) (by omega) (lt_s hI0 (by simp [sP, sdY, d1Y, d2Y, b32]))
          · refine P_aload0 X 36 dX9_sends_35 rfl ?_
            refine gY_0_20 X 39 dX9_sends_36 rfl fl_X9_56 ?_
            refine P_iconst X (4) rfl 40 dX9_sends_39 rfl ?_
            refine P_iload3 X 41 dX9_sends_40 rfl ?_
            refine P_imul X 42 dX9_sends_41 rfl ?_
            refine P_iconst X (2) rfl 43 dX9_sends_42 rfl ?_
            refine P_iadd X 44 dX9_sends_43 rfl ?_
            refine lY_16 X 45 dX9_sends_44 rfl (ixm 4 i 2) (by omega) ?_
            refine P_iload2 X 46 dX9_sends_45 rfl ?_
            refine P_icmp_ne X 60 49 dX9_sends_46 rfl rfl (fun b46 => ?_) (fun b46 => ?_)
            · refine P_iinc3 X (1) rfl 63 dX9_sends_60 rfl (by decide) rfl ?_
              refine P_goto X 2 dX9_sends_63 rfl ?_
              rw [nI_1]
              exact ih (i + 1) (by omega) (lt_s hI0 (by simp [sP, sdY, d1Y, d2Y, b46]))
            · refine P_aload0 X 50 dX9_sends_49 rfl ?_
              refine gY_0_20 X 53 dX9_sends_50 rfl fl_X9_56 ?_
              refine P_iconst X (4) rfl 54 dX9_sends_53 rfl ?_
              refine P_iload3 X 55 dX9_sends_54 rfl ?_
              refine P_imul X 56 dX9_sends_55 rfl ?_
              refine P_iconst X (3) rfl 57 dX9_sends_56 rfl ?_
              refine P_iadd X 58 dX9_sends_57 rfl ?_
              refine lY_16 X 59 dX9_sends_58 rfl (ixm 4 i 3) (by omega) ?_
              exact P_iret X hQ dX9_sends_59 (rti (hat i hI0 (by simp [sP, sdY, d1Y, d2Y, b18, b32, b46]) (by omega)))
  refine P_iconst X (0) rfl 1 dX9_sends_0 rfl ?_
  refine P_istore3 X 2 dX9_sends_1 rfl (by decide) rfl ?_
  exact L rr 0 (by omega) (fun j hj => absurd hj (Nat.not_lt_zero _))
abbrev owY (h : Hp) (rr t : Nat) : Int32 × Nat := ownP (h 1) (h 2) (h 3) (h 9) (fun k => rowYf (h 16) rr k) (d2Y (h 16)) (fun q => nxF (h 16) rr q) t
set_option maxHeartbeats 4000000 in
set_option maxRecDepth 100000 in
theorem k_X9_owner {d : Nat} {E : Ev} {rr t : Nat} {h : Hp} (hd : 3 ≤ d) (hR : h 0 19 = nI rr) (hr12 : rr ≤ 12) (hV : TVY (h 16) rr) (ht : t < 40) (hfa : Bd (h 9) 40) (hk5 : Bd (h 1) 5) : Cl d yX9_owner cX9_owner 7 (some .int) E (wdY E) [.ref (E.2.2.1 0), .int (nI t)] h (Rt (some (.int (owY h rr t).1)) (put h 0 33 (nI (owY h rr t).2))) := by
  refine Cl_of [some (.ref (E.2.2.1 0)), some (.int (nI t)), none, none, none, none, none] (by decide) rfl (Nat.le_of_ble_eq_true rfl) (fun K A X hQ => ?_)
  obtain ⟨a9, ha9, ea⟩ := hfa t
  have et : tn (h 9 t) = a9 := by rw [ea]; exact nI_clamp (by omega)
  obtain ⟨kk, hkk, ekk⟩ := hk5 a9
  have etk : tn (h 1 a9) = kk := by rw [ekk]; exact nI_clamp (by omega)
  have e16 : ∀ v9 : Int32, put h 0 33 v9 16 = h 16 := fun _ => put_n (by decide)
  have eR : ∀ v9 : Int32, put h 0 33 v9 0 19 = nI rr := fun _ => by rw [put_i (by decide)]; exact hR
  have e2 : ∀ v9 : Int32, put h 0 33 v9 2 a9 = h 2 a9 := fun _ => by rw [put_n (by decide)]
  have e3 : ∀ v9 : Int32, put h 0 33 v9 3 a9 = h 3 a9 := fun _ => by rw [put_n (by decide)]
  refine P_aload0 X 1 dX9_owner_0 rfl ?_
  refine gY_0_11 X 4 dX9_owner_1 rfl fl_X9_34 ?_
  refine P_iload1 X 5 dX9_owner_4 rfl ?_
  refine lY_9 X 6 dX9_owner_5 rfl rfl (by omega) ?_
  refine P_top ea ?_
  refine P_istore2 X 7 dX9_owner_6 rfl (by decide) rfl ?_
  refine P_aload0 X 8 dX9_owner_7 rfl ?_
  refine P_aload0 X 9 dX9_owner_8 rfl ?_
  refine gY_0_2 X 12 dX9_owner_9 rfl fl_X9_7 ?_
  refine P_iload2 X 13 dX9_owner_12 rfl ?_
  refine lY_1 X 14 dX9_owner_13 rfl rfl (by omega) ?_
  refine P_top ekk ?_
  refine V1r X 0 17 dX9_owner_14 rfl lk_X9_182 mv_X9_rowFor rfl (by omega) (Nat.le_of_ble_eq_true rfl) (Nat.le_of_ble_eq_true rfl) rfl rfl (k_X9_rowFor (by omega) hR hr12 hkk) ?_
  by_cases hne : rowYf (h 16) rr kk = -1
  · rw [hne]
    refine P_istore3 X 18 dX9_owner_17 rfl (by decide) rfl ?_
    refine P_aload0 X 19 dX9_owner_18 rfl ?_
    refine P_iconst X (0) rfl 20 dX9_owner_19 rfl ?_
    refine pY_0_33 X 23 dX9_owner_20 rfl fw_X9_185 ?_
    refine P_iload3 X 24 dX9_owner_23 rfl ?_
    refine P_if_ge X 30 27 dX9_owner_24 rfl rfl (fun b24 => ?_) (fun b24 => ?_)
    · exact absurd b24 (by decide)
    · refine P_ldc X kc_X9_188 29 dX9_owner_27 rfl ?_
      exact P_iret X hQ dX9_owner_29 ⟨by simp only [owY, ownP]; rw [et, etk, if_pos hne], by simp only [owY, ownP]; rw [et, etk, if_pos hne]; rfl⟩
  · obtain ⟨r9, e9, h9, hg9⟩ : ∃ r, rowYf (h 16) rr kk = nI r ∧ r < rr ∧ gvY (h 16) r = true := rowF_cases.resolve_left hne
    have er9 : tn (rowYf (h 16) rr kk) = r9 := by rw [e9]; exact nI_clamp (by omega)
    obtain ⟨d9, hd9, ed9⟩ : ∃ k, k < 6 ∧ h 16 (4 * r9 + 2) = nI k := by
      rcases hV r9 h9 with z | z
      · exact z.2.2.2.1
      · rw [z.1] at hg9; cases hg9
    obtain ⟨nx, hnx⟩ : ∃ z, nxF (h 16) rr (qtr (h 2 a9) (h 3 a9)) = z := ⟨_, rfl⟩
    have hN : NX nx := by
      rw [← hnx]
      exact fun k9 => nxt_cases hV _ k9
    obtain ⟨Rr, hRr0⟩ : ∃ z, own0 nx (nI d9) = z := ⟨_, rfl⟩
    have hRr : owY h rr t = Rr := by
      simp only [owY, ownP]
      rw [et, etk, if_neg hne, er9, show d2Y (h 16) r9 = nI d9 from ed9, hnx, hRr0]
    have L : ∀ (m g a b : Nat), a < 6 → b < 64 → 6 < m + pop6 b → ownY nx m g (nI a) (nI b) = Rr → GW K 7 E (wdY E) A 71 [some (.ref (E.2.2.1 0)), some (.int (nI t)), some (.int (nI a9)), some (.int (nI r9)), some (.int (nI a)), some (.int (nI b)), some (.int (nx (nI a)))] [] (put h 0 33 (nI g)) := by
      intro m
      induction m with
      | zero =>
        intro g a b ha hb hm hI
        have := pop6_le b
        omega
      | succ m ih =>
        intro g a b ha hb hm hI
        refine P_iload6 X 73 dX9_owner_71 rfl ?_
        refine P_if_lt X 139 76 dX9_owner_73 rfl rfl (fun b73 => ?_) (fun b73 => ?_)
        · have h0 : nx (nI a) = -1 := by
            rcases hN (nI a) with z | ⟨j, hj, z⟩
            · exact z
            · rw [z] at b73
              exact absurd b73 (nI_pos (by omega))
          rw [ownY, if_pos h0] at hI
          refine P_iload4 X 141 dX9_owner_139 rfl ?_
          exact P_iret X hQ dX9_owner_141 ⟨by rw [hRr, ← hI], by rw [hRr, ← hI]⟩
        · rcases hN (nI a) with h0 | ⟨j, hj, h0⟩
          · exact absurd (by rw [h0]; decide) b73
          · refine P_aload0 X 77 dX9_owner_76 rfl ?_
            refine P_dup X rfl 78 dX9_owner_77 rfl ?_
            refine gY_0_33 X 81 dX9_owner_78 rfl fl_X9_185 ?_
            refine P_top put_s ?_
            refine P_iconst X (1) rfl 82 dX9_owner_81 rfl ?_
            refine P_iadd X 83 dX9_owner_82 rfl ?_
            rw [nI_1]
            refine pY_0_33 X 86 dX9_owner_83 rfl fw_X9_185 ?_
            rw [put_put]
            refine P_iload5 X 88 dX9_owner_86 rfl ?_
            refine P_iload6 X 90 dX9_owner_88 rfl ?_
            refine P_ishr X 91 dX9_owner_90 rfl ?_
            refine P_iconst X (1) rfl 92 dX9_owner_91 rfl ?_
            refine P_iand X 93 dX9_owner_92 rfl ?_
            rw [h0]
            refine P_top (m64h b hb j hj) ?_
            refine P_iconst X (1) rfl 94 dX9_owner_93 rfl ?_
            refine P_icmp_ne X 100 97 dX9_owner_94 rfl rfl (fun b94 => ?_) (fun b94 => ?_)
            · have hb1 : b.testBit j = false := by
                cases hz : b.testBit j
                · rfl
                · rw [hz] at b94; exact absurd rfl b94
              refine P_iload5 X 102 dX9_owner_100 rfl ?_
              refine P_iconst X (1) rfl 103 dX9_owner_102 rfl ?_
              refine P_iload6 X 105 dX9_owner_103 rfl ?_
              refine P_ishl X 106 dX9_owner_105 rfl ?_
              refine P_ior X 107 dX9_owner_106 rfl ?_
              refine P_top (m64c b hb j hj) ?_
              refine P_istore5 X 109 dX9_owner_107 rfl (by decide) rfl ?_
              refine P_iload6 X 111 dX9_owner_109 rfl ?_
              refine P_istore4 X 113 dX9_owner_111 rfl (by decide) rfl ?_
              refine P_aload0 X 114 dX9_owner_113 rfl ?_
              refine P_iload4 X 116 dX9_owner_114 rfl ?_
              refine P_aload0 X 117 dX9_owner_116 rfl ?_
              refine gY_0_3 X 120 dX9_owner_117 rfl fl_X9_13 ?_
              refine P_iload2 X 121 dX9_owner_120 rfl ?_
              refine lY_2 X 122 dX9_owner_121 rfl rfl (by omega) ?_
              refine P_top (e2 _) ?_
              refine P_aload0 X 123 dX9_owner_122 rfl ?_
              refine gY_0_4 X 126 dX9_owner_123 rfl fl_X9_16 ?_
              refine P_iload2 X 127 dX9_owner_126 rfl ?_
              refine lY_3 X 128 dX9_owner_127 rfl rfl (by omega) ?_
              refine P_top (e3 _) ?_
              refine S2r X 131 dX9_owner_128 rfl lk_X9_156 ms_X9_quarterOf rfl (by omega) (Nat.le_of_ble_eq_true rfl) (k_X9_quarterOf (by omega)) ?_
              refine V2r X 0 134 dX9_owner_131 rfl lk_X9_189 mv_X9_sends rfl (by omega) (Nat.le_of_ble_eq_true rfl) (Nat.le_of_ble_eq_true rfl) rfl rfl (k_X9_sends (rr := rr) (by omega) (eR _) hr12) ?_
              rw [e16, hnx]
              refine P_istore6 X 136 dX9_owner_134 rfl (by decide) rfl ?_
              refine P_goto X 71 dX9_owner_136 rfl ?_
              have hp := m64a b hb j hj hb1
              rw [ownY, if_neg (by rw [h0]; exact nI_nm1 (by omega)), h0, m64b b hb j hj, if_neg (by simp [hb1]), m64c b hb j hj] at hI
              exact ih (g + 1) j _ hj (m64d b hb j hj) (by omega) hI
            · have hb1 : b.testBit j = true := bI_1.mp b94
              rw [ownY, if_neg (by rw [h0]; exact nI_nm1 (by omega)), h0, m64b b hb j hj, if_pos hb1] at hI
              refine P_ldc X kc_X9_192 99 dX9_owner_97 rfl ?_
              exact P_iret X hQ dX9_owner_99 ⟨by rw [hRr, ← hI], by rw [hRr, ← hI]⟩
    rw [e9]
    refine P_istore3 X 18 dX9_owner_17 rfl (by decide) rfl ?_
    refine P_aload0 X 19 dX9_owner_18 rfl ?_
    refine P_iconst X (0) rfl 20 dX9_owner_19 rfl ?_
    refine pY_0_33 X 23 dX9_owner_20 rfl fw_X9_185 ?_
    refine P_iload3 X 24 dX9_owner_23 rfl ?_
    refine P_if_ge X 30 27 dX9_owner_24 rfl rfl (fun b24 => ?_) (fun b24 => ?_)
    · refine P_aload0 X 31 dX9_owner_30 rfl ?_
      refine gY_0_20 X 34 dX9_owner_31 rfl fl_X9_56 ?_
      refine P_iconst X (4) rfl 35 dX9_owner_34 rfl ?_
      refine P_iload3 X 36 dX9_owner_35 rfl ?_
      refine P_imul X 37 dX9_owner_36 rfl ?_
      refine P_iconst X (2) rfl 38 dX9_owner_37 rfl ?_
      refine P_iadd X 39 dX9_owner_38 rfl ?_
      refine lY_16 X 40 dX9_owner_39 rfl (ixm 4 r9 2) (by omega) ?_
      refine P_top (y := nI d9) (by rw [e16]; exact ed9) ?_
      refine P_istore4 X 42 dX9_owner_40 rfl (by decide) rfl ?_
      refine P_iconst X (1) rfl 43 dX9_owner_42 rfl ?_
      refine P_iload4 X 45 dX9_owner_43 rfl ?_
      refine P_ishl X 46 dX9_owner_45 rfl ?_
      obtain ⟨em1, em2, em3⟩ := m64e d9 hd9
      refine P_top em1 ?_
      refine P_istore5 X 48 dX9_owner_46 rfl (by decide) rfl ?_
      refine P_aload0 X 49 dX9_owner_48 rfl ?_
      refine P_iload4 X 51 dX9_owner_49 rfl ?_
      refine P_aload0 X 52 dX9_owner_51 rfl ?_
      refine gY_0_3 X 55 dX9_owner_52 rfl fl_X9_13 ?_
      refine P_iload2 X 56 dX9_owner_55 rfl ?_
      refine lY_2 X 57 dX9_owner_56 rfl rfl (by omega) ?_
      refine P_top (e2 _) ?_
      refine P_aload0 X 58 dX9_owner_57 rfl ?_
      refine gY_0_4 X 61 dX9_owner_58 rfl fl_X9_16 ?_
      refine P_iload2 X 62 dX9_owner_61 rfl ?_
      refine lY_3 X 63 dX9_owner_62 rfl rfl (by omega) ?_
      refine P_top (e3 _) ?_
      refine S2r X 66 dX9_owner_63 rfl lk_X9_156 ms_X9_quarterOf rfl (by omega) (Nat.le_of_ble_eq_true rfl) (k_X9_quarterOf (by omega)) ?_
      refine V2r X 0 69 dX9_owner_66 rfl lk_X9_189 mv_X9_sends rfl (by omega) (Nat.le_of_ble_eq_true rfl) (Nat.le_of_ble_eq_true rfl) rfl rfl (k_X9_sends (rr := rr) (by omega) (eR _) hr12) ?_
      refine P_istore6 X 71 dX9_owner_69 rfl (by decide) rfl ?_
      rw [e16, hnx]
      rw [own0, em1] at hRr0
      exact L 7 0 d9 _ hd9 em3 (by omega) hRr0
    · exact absurd (nI_pos' (by omega)) b24
set_option maxHeartbeats 4000000 in
set_option maxRecDepth 100000 in
theorem k_X9_whose {d : Nat} {E : Ev} {rr nT : Nat} {t : Int32} {h : Hp} (hd : 4 ≤ d) (hR : h 0 19 = nI rr) (hr12 : rr ≤ 12) (hV : TVY (h 16) rr) (hT : h 0 10 = nI nT) (hnT : nT ≤ 40) (hfa : Bd (h 9) 40) (hk5 : Bd (h 1) 5) : Cl d yX9_whose cX9_whose 3 (some .int) E (wdY E) [.ref (E.2.2.1 0), .int t] h (Rt (some (.int (if okT1 (h 0 10) t then (owY h rr (tn t)).1 else -1000001))) (if okT1 (h 0 10) t then (if (owY h rr (tn t)).1 < 0 then fiY (put h 0 33 (nI (owY h rr (tn t)).2)) else put h 0 33 (nI (owY h rr (tn t)).2)) else fiY h)) := by
  refine Cl_of [some (.ref (E.2.2.1 0)), some (.int t), none] (by decide) rfl (Nat.le_of_ble_eq_true rfl) (fun K A X hQ => ?_)
  refine P_aload0 X 1 dX9_whose_0 rfl ?_
  refine P_iload1 X 2 dX9_whose_1 rfl ?_
  refine V1r X 0 5 dX9_whose_2 rfl lk_X9_164 mv_X9_isThing rfl (by omega) (Nat.le_of_ble_eq_true rfl) (Nat.le_of_ble_eq_true rfl) rfl rfl (k_X9_isThing (by omega)) ?_
  refine P_bn X 15 8 dX9_whose_5 rfl rfl (fun b5 => ?_) (fun b5 => ?_)
  · obtain ⟨t, ht0, rfl⟩ := inB_ix hT b5 hnT
    have ht : t < 40 := by omega
    have ht31 : tn (nI t) = t := nI_clamp (by omega)
    rw [ht31] at hQ
    have hok : okT1 (h 0 10) (nI t) = true := b5
    rw [if_pos hok, if_pos hok] at hQ
    refine P_aload0 X 16 dX9_whose_15 rfl ?_
    refine P_iload1 X 17 dX9_whose_16 rfl ?_
    refine V1r X 0 20 dX9_whose_17 rfl lk_X9_193 mv_X9_owner rfl (by omega) (Nat.le_of_ble_eq_true rfl) (Nat.le_of_ble_eq_true rfl) rfl rfl (k_X9_owner (by omega) hR hr12 hV ht hfa hk5) ?_
    refine P_istore2 X 21 dX9_whose_20 rfl (by decide) rfl ?_
    refine P_iload2 X 22 dX9_whose_21 rfl ?_
    refine P_if_ge X 33 25 dX9_whose_22 rfl rfl (fun b22 => ?_) (fun b22 => ?_)
    · refine P_iload2 X 34 dX9_whose_33 rfl ?_
      rw [if_neg (fun z => absurd b22 (Int32.not_le.mpr z))] at hQ
      exact P_iret X hQ dX9_whose_34 ⟨rfl, rfl⟩
    · refine P_aload0 X 26 dX9_whose_25 rfl ?_
      refine P_iload2 X 27 dX9_whose_26 rfl ?_
      refine V1r X 0 30 dX9_whose_27 rfl lk_X9_145 mv_X9_finding rfl (by omega) (Nat.le_of_ble_eq_true rfl) (Nat.le_of_ble_eq_true rfl) rfl rfl (k_X9_finding (by omega)) ?_
      refine P_goto X 34 dX9_whose_30 rfl ?_
      rw [if_pos (Int32.not_le.mp b22)] at hQ
      exact P_iret X hQ dX9_whose_34 ⟨rfl, rfl⟩
  · have hok : ¬ okT1 (h 0 10) t = true := by rw [okT1, b5]; simp
    rw [if_neg hok, if_neg hok] at hQ
    refine P_aload0 X 9 dX9_whose_8 rfl ?_
    refine P_ldc X kc_X9_144 11 dX9_whose_9 rfl ?_
    refine V1r X 0 14 dX9_whose_11 rfl lk_X9_145 mv_X9_finding rfl (by omega) (Nat.le_of_ble_eq_true rfl) (Nat.le_of_ble_eq_true rfl) rfl rfl (k_X9_finding (by omega)) ?_
    exact P_iret X hQ dX9_whose_14 ⟨rfl, rfl⟩
abbrev prY (h : Hp) (rr t : Nat) : Int32 := prP (h 1) (h 5) (h 9) (fun k => rowYf (h 16) rr k) (d3Y (h 16)) t
set_option maxHeartbeats 4000000 in
set_option maxRecDepth 100000 in
theorem k_X9_promised {d : Nat} {E : Ev} {rr t : Nat} {h : Hp} (hd : 2 ≤ d) (hR : h 0 19 = nI rr) (hr12 : rr ≤ 12) (ht : t < 40) (hfa : Bd (h 9) 40) (hk5 : Bd (h 1) 5) : Cl d yX9_promised cX9_promised 3 (some .int) E (wdY E) [.ref (E.2.2.1 0), .int (nI t)] h (Rt (some (.int (prY h rr t))) h) := by
  refine Cl_of [some (.ref (E.2.2.1 0)), some (.int (nI t)), none] (by decide) rfl (Nat.le_of_ble_eq_true rfl) (fun K A X hQ => ?_)
  obtain ⟨a9, ha9, ea⟩ := hfa t
  have et : tn (h 9 t) = a9 := by rw [ea]; exact nI_clamp (by omega)
  obtain ⟨kk, hkk, ekk⟩ := hk5 a9
  have etk : tn (h 1 a9) = kk := by rw [ekk]; exact nI_clamp (by omega)
  refine P_aload0 X 1 dX9_promised_0 rfl ?_
  refine P_aload0 X 2 dX9_promised_1 rfl ?_
  refine gY_0_2 X 5 dX9_promised_2 rfl fl_X9_7 ?_
  refine P_aload0 X 6 dX9_promised_5 rfl ?_
  refine gY_0_11 X 9 dX9_promised_6 rfl fl_X9_34 ?_
  refine P_iload1 X 10 dX9_promised_9 rfl ?_
  refine lY_9 X 11 dX9_promised_10 rfl rfl (by omega) ?_
  refine lY_1 X 12 dX9_promised_11 rfl ea ha9 ?_
  refine P_top ekk ?_
  refine V1r X 0 15 dX9_promised_12 rfl lk_X9_182 mv_X9_rowFor rfl (by omega) (Nat.le_of_ble_eq_true rfl) (Nat.le_of_ble_eq_true rfl) rfl rfl (k_X9_rowFor (by omega) hR hr12 hkk) ?_
  by_cases hne : rowYf (h 16) rr kk = -1
  · rw [hne]
    refine P_istore2 X 16 dX9_promised_15 rfl (by decide) rfl ?_
    refine P_iload2 X 17 dX9_promised_16 rfl ?_
    refine P_if_ge X 24 20 dX9_promised_17 rfl rfl (fun b17 => ?_) (fun b17 => ?_)
    · exact absurd b17 (by decide)
    · refine P_iconst X (-1) rfl 21 dX9_promised_20 rfl ?_
      refine P_goto X 46 dX9_promised_21 rfl ?_
      exact P_iret X hQ dX9_promised_46 (rti (by simp only [prY, prP]; rw [et, etk, if_pos hne]))
  · obtain ⟨r9, e9, h9, hg9⟩ : ∃ r, rowYf (h 16) rr kk = nI r ∧ r < rr ∧ gvY (h 16) r = true := rowF_cases.resolve_left hne
    have er9 : tn (rowYf (h 16) rr kk) = r9 := by rw [e9]; exact nI_clamp (by omega)
    rw [e9]
    refine P_istore2 X 16 dX9_promised_15 rfl (by decide) rfl ?_
    refine P_iload2 X 17 dX9_promised_16 rfl ?_
    refine P_if_ge X 24 20 dX9_promised_17 rfl rfl (fun b17 => ?_) (fun b17 => ?_)
    · refine P_aload0 X 25 dX9_promised_24 rfl ?_
      refine gY_0_6 X 28 dX9_promised_25 rfl fl_X9_22 ?_
      refine P_aload0 X 29 dX9_promised_28 rfl ?_
      refine gY_0_11 X 32 dX9_promised_29 rfl fl_X9_34 ?_
      refine P_iload1 X 33 dX9_promised_32 rfl ?_
      refine lY_9 X 34 dX9_promised_33 rfl rfl (by omega) ?_
      refine lY_5 X 35 dX9_promised_34 rfl ea ha9 ?_
      refine P_aload0 X 36 dX9_promised_35 rfl ?_
      refine gY_0_20 X 39 dX9_promised_36 rfl fl_X9_56 ?_
      refine P_iconst X (4) rfl 40 dX9_promised_39 rfl ?_
      refine P_iload2 X 41 dX9_promised_40 rfl ?_
      refine P_imul X 42 dX9_promised_41 rfl ?_
      refine P_iconst X (3) rfl 43 dX9_promised_42 rfl ?_
      refine P_iadd X 44 dX9_promised_43 rfl ?_
      refine lY_16 X 45 dX9_promised_44 rfl (ixm 4 r9 3) (by omega) ?_
      refine P_iadd X 46 dX9_promised_45 rfl ?_
      exact P_iret X hQ dX9_promised_46 (rti (by simp only [prY, prP]; rw [et, etk, if_neg hne, er9]))
    · exact absurd (nI_pos' (by omega)) b17
theorem prP_neg {kd dy fa row d3 : Nat → Int32} {t : Nat} {gv sd : Nat → Bool} {d1 d2 : Nat → Int32} {rr : Nat} (hdy : Bd dy 1000) (hV : TV gv sd d1 d2 d3 rr) (hrow : ∀ k, row k = -1 ∨ ∃ r, row k = nI r ∧ r < rr ∧ gv r = true) (hr : rr ≤ 12) : (row (tn (kd (tn (fa t)))) = -1 ∧ prP kd dy fa row d3 t = -1) ∨ (¬ row (tn (kd (tn (fa t)))) = -1 ∧ ∃ n, n < 1010 ∧ prP kd dy fa row d3 t = nI n) := by
  rw [prP]
  rcases hrow (tn (kd (tn (fa t)))) with e | ⟨r, e, h1, h2⟩
  · exact Or.inl ⟨e, by rw [if_pos e]⟩
  · have hne : ¬ row (tn (kd (tn (fa t)))) = -1 := by rw [e]; exact nI_nm1 (by omega)
    refine Or.inr ⟨hne, ?_⟩
    rw [if_neg hne, e, show tn (nI r) = r from nI_clamp (by omega)]
    obtain ⟨a, ha, ea⟩ := hdy (tn (fa t))
    obtain ⟨k, hk1, hk2, ek⟩ : ∃ k, 1 ≤ k ∧ k < 10 ∧ d3 r = nI k := by
      rcases hV r h1 with z | z
      · exact z.2.2.2.2
      · rw [z.1] at h2; cases h2
    exact ⟨a + k, by omega, by rw [ea, ek, nI_add]⟩
set_option maxHeartbeats 4000000 in
set_option maxRecDepth 100000 in
theorem k_X9_promise {d : Nat} {E : Ev} {rr nT : Nat} {t : Int32} {h : Hp} (hd : 3 ≤ d) (hR : h 0 19 = nI rr) (hr12 : rr ≤ 12) (hV : TVY (h 16) rr) (hT : h 0 10 = nI nT) (hnT : nT ≤ 40) (hfa : Bd (h 9) 40) (hk5 : Bd (h 1) 5) (hdy : Bd (h 5) 1000) : Cl d yX9_promise cX9_promise 3 (some .int) E (wdY E) [.ref (E.2.2.1 0), .int t] h (Rt (some (.int (if okT1 (h 0 10) t then (if rowYf (h 16) rr (tn (h 1 (tn (h 9 (tn t))))) = -1 then -1000004 else prY h rr (tn t)) else -1000001))) (if okT1 (h 0 10) t then (if rowYf (h 16) rr (tn (h 1 (tn (h 9 (tn t))))) = -1 then fiY h else h) else fiY h)) := by
  refine Cl_of [some (.ref (E.2.2.1 0)), some (.int t), none] (by decide) rfl (Nat.le_of_ble_eq_true rfl) (fun K A X hQ => ?_)
  refine P_aload0 X 1 dX9_promise_0 rfl ?_
  refine P_iload1 X 2 dX9_promise_1 rfl ?_
  refine V1r X 0 5 dX9_promise_2 rfl lk_X9_164 mv_X9_isThing rfl (by omega) (Nat.le_of_ble_eq_true rfl) (Nat.le_of_ble_eq_true rfl) rfl rfl (k_X9_isThing (by omega)) ?_
  refine P_bn X 15 8 dX9_promise_5 rfl rfl (fun b5 => ?_) (fun b5 => ?_)
  · obtain ⟨t, ht0, rfl⟩ := inB_ix hT b5 hnT
    have ht : t < 40 := by omega
    have ht31 : tn (nI t) = t := nI_clamp (by omega)
    rw [ht31] at hQ
    have hok : okT1 (h 0 10) (nI t) = true := b5
    rw [if_pos hok, if_pos hok] at hQ
    have hcs := prP_neg (kd := h 1) (fa := h 9) (row := fun k => rowYf (h 16) rr k) (t := t) hdy hV (fun k => rowF_cases) hr12
    refine P_aload0 X 16 dX9_promise_15 rfl ?_
    refine P_iload1 X 17 dX9_promise_16 rfl ?_
    refine V1r X 0 20 dX9_promise_17 rfl lk_X9_196 mv_X9_promised rfl (by omega) (Nat.le_of_ble_eq_true rfl) (Nat.le_of_ble_eq_true rfl) rfl rfl (k_X9_promised (by omega) hR hr12 ht hfa hk5) ?_
    refine P_istore2 X 21 dX9_promise_20 rfl (by decide) rfl ?_
    refine P_iload2 X 22 dX9_promise_21 rfl ?_
    refine P_if_ge X 34 25 dX9_promise_22 rfl rfl (fun b22 => ?_) (fun b22 => ?_)
    · refine P_iload2 X 35 dX9_promise_34 rfl ?_
      have hne : ¬ rowYf (h 16) rr (tn (h 1 (tn (h 9 t)))) = -1 := by
        rcases hcs with ⟨-, z⟩ | z
        · exact absurd b22 (by rw [show prY h rr t = -1 from z]; decide)
        · exact z.1
      rw [if_neg hne, if_neg hne] at hQ
      exact P_iret X hQ dX9_promise_35 ⟨rfl, rfl⟩
    · refine P_aload0 X 26 dX9_promise_25 rfl ?_
      refine P_ldc X kc_X9_188 28 dX9_promise_26 rfl ?_
      refine V1r X 0 31 dX9_promise_28 rfl lk_X9_145 mv_X9_finding rfl (by omega) (Nat.le_of_ble_eq_true rfl) (Nat.le_of_ble_eq_true rfl) rfl rfl (k_X9_finding (by omega)) ?_
      refine P_goto X 35 dX9_promise_31 rfl ?_
      have hne : rowYf (h 16) rr (tn (h 1 (tn (h 9 t)))) = -1 := by
        rcases hcs with z | ⟨-, n9, hn9, z⟩
        · exact z.1
        · exact absurd (by rw [show prY h rr t = nI n9 from z]; exact nI_pos' (by omega)) b22
      rw [if_pos hne, if_pos hne] at hQ
      exact P_iret X hQ dX9_promise_35 ⟨rfl, rfl⟩
  · have hok : ¬ okT1 (h 0 10) t = true := by rw [okT1, b5]; simp
    rw [if_neg hok, if_neg hok] at hQ
    refine P_aload0 X 9 dX9_promise_8 rfl ?_
    refine P_ldc X kc_X9_144 11 dX9_promise_9 rfl ?_
    refine V1r X 0 14 dX9_promise_11 rfl lk_X9_145 mv_X9_finding rfl (by omega) (Nat.le_of_ble_eq_true rfl) (Nat.le_of_ble_eq_true rfl) rfl rfl (k_X9_finding (by omega)) ?_
    exact P_iret X hQ dX9_promise_14 ⟨rfl, rfl⟩
set_option maxHeartbeats 4000000 in
set_option maxRecDepth 100000 in
theorem k_X9_sent {d : Nat} {E : Ev} {rr nT : Nat} {t : Int32} {h : Hp} (hd : 4 ≤ d) (hR : h 0 19 = nI rr) (hr12 : rr ≤ 12) (hV : TVY (h 16) rr) (hT : h 0 10 = nI nT) (hnT : nT ≤ 40) (hfa : Bd (h 9) 40) (hk5 : Bd (h 1) 5) : Cl d yX9_sent cX9_sent 2 (some .int) E (wdY E) [.ref (E.2.2.1 0), .int t] h (Rt (some (.int (if okT1 (h 0 10) t then (if rowYf (h 16) rr (tn (h 1 (tn (h 9 (tn t))))) = -1 then -1000004 else nI (owY h rr (tn t)).2) else -1000001))) (if okT1 (h 0 10) t then (if rowYf (h 16) rr (tn (h 1 (tn (h 9 (tn t))))) = -1 then fiY (put h 0 33 (nI (owY h rr (tn t)).2)) else put h 0 33 (nI (owY h rr (tn t)).2)) else fiY h)) := by
  refine Cl_of [some (.ref (E.2.2.1 0)), some (.int t)] (by decide) rfl (Nat.le_of_ble_eq_true rfl) (fun K A X hQ => ?_)
  refine P_aload0 X 1 dX9_sent_0 rfl ?_
  refine P_iload1 X 2 dX9_sent_1 rfl ?_
  refine V1r X 0 5 dX9_sent_2 rfl lk_X9_164 mv_X9_isThing rfl (by omega) (Nat.le_of_ble_eq_true rfl) (Nat.le_of_ble_eq_true rfl) rfl rfl (k_X9_isThing (by omega)) ?_
  refine P_bn X 15 8 dX9_sent_5 rfl rfl (fun b5 => ?_) (fun b5 => ?_)
  · obtain ⟨t, ht0, rfl⟩ := inB_ix hT b5 hnT
    have ht : t < 40 := by omega
    have ht31 : tn (nI t) = t := nI_clamp (by omega)
    rw [ht31] at hQ
    have hok : okT1 (h 0 10) (nI t) = true := b5
    rw [if_pos hok, if_pos hok] at hQ
    have hcs : (rowYf (h 16) rr (tn (h 1 (tn (h 9 t)))) = -1 ∧ (owY h rr t).1 = -1000004) ∨ (¬ rowYf (h 16) rr (tn (h 1 (tn (h 9 t)))) = -1 ∧ ¬ (owY h rr t).1 = -1000004) := by
      by_cases hne : rowYf (h 16) rr (tn (h 1 (tn (h 9 t)))) = -1
      · exact Or.inl ⟨hne, by simp only [owY, ownP]; rw [if_pos hne]⟩
      · refine Or.inr ⟨hne, ?_⟩
        simp only [owY, ownP]
        rw [if_neg hne]
        obtain ⟨r9, e9, h9, hg9⟩ : ∃ r, rowYf (h 16) rr (tn (h 1 (tn (h 9 t)))) = nI r ∧ r < rr ∧ gvY (h 16) r = true := rowF_cases.resolve_left hne
        rw [e9, show tn (nI r9) = r9 from nI_clamp (by omega)]
        obtain ⟨d9, hd9, ed9⟩ : ∃ k, k < 6 ∧ h 16 (4 * r9 + 2) = nI k := by
          rcases hV r9 h9 with z | z
          · exact z.2.2.2.1
          · rw [z.1] at hg9; cases hg9
        rcases own_cases (nx := nxF (h 16) rr (qtr (h 2 (tn (h 9 t))) (h 3 (tn (h 9 t))))) (fun k9 => nxt_cases hV _ k9) 7 0 (h 16 (4 * r9 + 2)) (1 <<< (h 16 (4 * r9 + 2) &&& 31)) ⟨d9, hd9, ed9⟩ with z | ⟨j, hj, z⟩
        · show ¬ (own0 _ _).1 = _
          rw [own0, z]; decide
        · show ¬ (own0 _ _).1 = _
          rw [own0, z]
          rcases (show j = 0 ∨ j = 1 ∨ j = 2 ∨ j = 3 ∨ j = 4 ∨ j = 5 by omega) with rfl | rfl | rfl | rfl | rfl | rfl <;> decide
    refine P_aload0 X 16 dX9_sent_15 rfl ?_
    refine P_iload1 X 17 dX9_sent_16 rfl ?_
    refine V1r X 0 20 dX9_sent_17 rfl lk_X9_193 mv_X9_owner rfl (by omega) (Nat.le_of_ble_eq_true rfl) (Nat.le_of_ble_eq_true rfl) rfl rfl (k_X9_owner (by omega) hR hr12 hV ht hfa hk5) ?_
    refine P_ldc X kc_X9_188 22 dX9_sent_20 rfl ?_
    refine P_icmp_ne X 34 25 dX9_sent_22 rfl rfl (fun b22 => ?_) (fun b22 => ?_)
    · refine P_aload0 X 35 dX9_sent_34 rfl ?_
      refine gY_0_33 X 38 dX9_sent_35 rfl fl_X9_185 ?_
      have hne : ¬ rowYf (h 16) rr (tn (h 1 (tn (h 9 t)))) = -1 := by
        rcases hcs with z | z
        · exact absurd z.2 b22
        · exact z.1
      rw [if_neg hne, if_neg hne] at hQ
      exact P_iret X hQ dX9_sent_38 ⟨by rw [put_s], rfl⟩
    · refine P_aload0 X 26 dX9_sent_25 rfl ?_
      refine P_ldc X kc_X9_188 28 dX9_sent_26 rfl ?_
      refine V1r X 0 31 dX9_sent_28 rfl lk_X9_145 mv_X9_finding rfl (by omega) (Nat.le_of_ble_eq_true rfl) (Nat.le_of_ble_eq_true rfl) rfl rfl (k_X9_finding (by omega)) ?_
      refine P_goto X 38 dX9_sent_31 rfl ?_
      have hne : rowYf (h 16) rr (tn (h 1 (tn (h 9 t)))) = -1 := by
        rcases hcs with z | z
        · exact z.1
        · exact absurd b22 z.2
      rw [if_pos hne, if_pos hne] at hQ
      exact P_iret X hQ dX9_sent_38 ⟨rfl, rfl⟩
  · have hok : ¬ okT1 (h 0 10) t = true := by rw [okT1, b5]; simp
    rw [if_neg hok, if_neg hok] at hQ
    refine P_aload0 X 9 dX9_sent_8 rfl ?_
    refine P_ldc X kc_X9_144 11 dX9_sent_9 rfl ?_
    refine V1r X 0 14 dX9_sent_11 rfl lk_X9_145 mv_X9_finding rfl (by omega) (Nat.le_of_ble_eq_true rfl) (Nat.le_of_ble_eq_true rfl) rfl rfl (k_X9_finding (by omega)) ?_
    exact P_iret X hQ dX9_sent_14 ⟨rfl, rfl⟩
