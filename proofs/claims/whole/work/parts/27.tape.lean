def byX (wv : Int64) (i : Nat) : Int32 := (wv.toUInt64 >>> ((8 * nI i).toInt64.toUInt64 &&& Int64.toUInt64 63)).toInt64.toInt32 &&& 255
def byY (wv : Int64) (i : Nat) : Int32 := (wv >>> ((8 * nI i).toInt64 &&& 63) &&& 255).toInt32
def appH (h : Hp) (l : Nat) (wv : Int64) : Nat → Hp
  | 0 => h
  | i + 1 => put (put (appH h l wv i) 28 (l + i) (byX wv i)) 4 1 (nI (l + i + 1))
def fdY (h : Hp) (l : Nat) (wv : Int64) : Nat → Hp
  | 0 => h
  | i + 1 => put (fdY h l wv i) 15 (l + i) (byY wv i)
theorem appH_len {h : Hp} {l : Nat} {wv : Int64} (hl : h 4 1 = nI l) : ∀ i, appH h l wv i 4 1 = nI (l + i)
  | 0 => hl
  | i + 1 => by rw [appH, put_s]; rfl
theorem fdY_0 {h : Hp} {l : Nat} {wv : Int64} : ∀ i, fdY h l wv i 0 = h 0
  | 0 => rfl
  | i + 1 => by rw [fdY, put_n (by decide)]; exact fdY_0 i

set_option maxHeartbeats 4000000 in
set_option maxRecDepth 100000 in
theorem k_X6_append {d : Nat} {E : Ev} {n l : Nat} {wv : Int64} {h : Hp} (hd : 0 ≤ d) (hl : h 4 1 = nI l) (hn : l + n ≤ 80) : Cl d yX6_append cX6_append 5 none E (wdX E) [.ref (E.2.2.1 4), .long wv, .int (nI n)] h (Rt none (appH h l wv n)) := by
  refine Cl_of [some (.ref (E.2.2.1 4)), some (.long wv), none, some (.int (nI n)), none] (by decide) rfl (Nat.le_of_ble_eq_true rfl) (fun K A X hQ => ?_)
  have L : ∀ (m i : Nat) , i + m = n → GW K 5 E (wdX E) A 3 [some (.ref (E.2.2.1 4)), some (.long wv), none, some (.int (nI n)), some (.int (nI i))] [] (appH h l wv i) := by
    intro m
    induction m with
    | zero =>
      intro i  hm 
      refine P_iload4 X 5 dX6_append_3 rfl ?_
      refine P_iload3 X 6 dX6_append_5 rfl ?_
      refine P_icmp_ge X 46 9 dX6_append_6 rfl rfl (fun b6 => ?_) (fun b6 => ?_)
      · obtain rfl : i = n := by omega
        exact P_ret X hQ dX6_append_46 ⟨rfl, rfl⟩
      · exact (geN (rfl : nI n = nI n) b6 (by omega) (by omega)).elim
    | succ m ih =>
      intro i  hm 
      refine P_iload4 X 5 dX6_append_3 rfl ?_
      refine P_iload3 X 6 dX6_append_5 rfl ?_
      refine P_icmp_ge X 46 9 dX6_append_6 rfl rfl (fun b6 => ?_) (fun b6 => ?_)
      · exact (geY (rfl : nI n = nI n) b6 (by omega) (by omega)).elim
      · refine P_aload0 X 10 dX6_append_9 rfl ?_
        refine gX_4_0 X 13 dX6_append_10 rfl fl_X6_9 ?_
        refine P_aload0 X 14 dX6_append_13 rfl ?_
        refine gX_4_1 X 17 dX6_append_14 rfl fl_X6_13 ?_
        refine P_top (appH_len hl i) ?_
        refine P_lload1 X 18 dX6_append_17 rfl ?_
        refine P_bipush X (8) rfl 20 dX6_append_18 rfl ?_
        refine P_iload4 X 22 dX6_append_20 rfl ?_
        refine P_imul X 23 dX6_append_22 rfl ?_
        refine P_lushr X 24 dX6_append_23 rfl ?_
        refine P_l2i X 25 dX6_append_24 rfl ?_
        refine P_sipush X (255) rfl 28 dX6_append_25 rfl ?_
        refine P_iand X 29 dX6_append_28 rfl ?_
        refine sX_28 X 30 dX6_append_29 rfl rfl (by omega) ?_
        refine P_aload0 X 31 dX6_append_30 rfl ?_
        refine P_dup X rfl 32 dX6_append_31 rfl ?_
        refine gX_4_1 X 35 dX6_append_32 rfl fl_X6_13 ?_
        refine P_top (y := nI (l + i)) (by rw [put_n (by decide)]; exact appH_len hl i) ?_
        refine P_iconst X (1) rfl 36 dX6_append_35 rfl ?_
        refine P_iadd X 37 dX6_append_36 rfl ?_
        refine pX_4_1 X 40 dX6_append_37 rfl fw_X6_13 ?_
        refine P_iinc4 X (1) rfl 43 dX6_append_40 rfl (by decide) rfl ?_
        refine P_goto X 3 dX6_append_43 rfl ?_
        simp only [nI_1]
        exact ih (i + 1) (by omega)
  refine P_iconst X (0) rfl 1 dX6_append_0 rfl ?_
  refine P_istore4 X 3 dX6_append_1 rfl (by decide) rfl ?_
  exact L n 0 (by omega)
theorem inB_18 {v : Int32} (b : inB v 1 8 = true) : ∃ m, 1 ≤ m ∧ m ≤ 8 ∧ v = nI m := by
  obtain ⟨h1, h2⟩ := inB_iff.mp b
  have h0 : (0 : Int32) ≤ v := Int32.le_trans (by decide) h1
  obtain ⟨j9, hj, e9⟩ := nI_of (Int32.not_lt.mpr h0)
  subst e9
  exact ⟨j9, (nI_leI (a := 1) (by decide) hj).mp h1, (nI_leI (b := 8) hj (by decide)).mp h2, rfl⟩
set_option maxHeartbeats 4000000 in
set_option maxRecDepth 100000 in
theorem k_X8_feed {d : Nat} {E : Ev} {l : Nat} {wv : Int64} {nn : Int32} {h : Hp} (hd : 2 ≤ d) (hl : h 4 1 = nI l) (hl80 : l ≤ 80) : Cl d yX8_feed cX8_feed 4 (some .int) E (wdX E) [.ref (E.2.2.1 0), .long wv, .int nn] h (Rt (some (.int (if inB nn 1 8 then (if l + tn nn ≤ 80 then nI (l + tn nn) else -1000002) else -1000001))) (if inB nn 1 8 then (if l + tn nn ≤ 80 then appH h l wv (tn nn) else fiX h) else fiX h)) := by
  refine Cl_of [some (.ref (E.2.2.1 0)), some (.long wv), none, some (.int nn)] (by decide) rfl (Nat.le_of_ble_eq_true rfl) (fun K A X hQ => ?_)
  refine P_iload3 X 1 dX8_feed_0 rfl ?_
  refine P_iconst X (1) rfl 2 dX8_feed_1 rfl ?_
  refine P_bipush X (8) rfl 4 dX8_feed_2 rfl ?_
  refine S3r X 7 dX8_feed_4 rfl lk_X8_79 ms_X8_within rfl (by omega) (Nat.le_of_ble_eq_true rfl) (k_X8_within (by omega)) ?_
  refine P_bn X 17 10 dX8_feed_7 rfl rfl (fun b7 => ?_) (fun b7 => ?_)
  · obtain ⟨n9, hn1, hn8, rfl⟩ := inB_18 b7
    have ec : tn (nI n9) = n9 := nI_clamp (by omega)
    refine P_aload0 X 18 dX8_feed_17 rfl ?_
    refine gX_0_3 X 21 dX8_feed_18 rfl fl_X8_33 ?_
    refine gX_4_1 X 24 dX8_feed_21 rfl fl_X8_147 ?_
    refine P_top hl ?_
    refine P_iload3 X 25 dX8_feed_24 rfl ?_
    refine P_iadd X 26 dX8_feed_25 rfl ?_
    refine P_bipush X (80) rfl 28 dX8_feed_26 rfl ?_
    rw [nI_add]
    refine P_icmp_le X 38 31 dX8_feed_28 rfl rfl (fun b28 => ?_) (fun b28 => ?_)
    · have hz : l + n9 ≤ 80 := (nI_leI (b := 80) (by omega) (by decide)).mp b28
      refine P_aload0 X 39 dX8_feed_38 rfl ?_
      refine gX_0_3 X 42 dX8_feed_39 rfl fl_X8_33 ?_
      refine P_lload1 X 43 dX8_feed_42 rfl ?_
      refine P_iload3 X 44 dX8_feed_43 rfl ?_
      refine V2v X 4 47 dX8_feed_44 rfl lk_X8_150 mv_X6_append rfl (by omega) (Nat.le_of_ble_eq_true rfl) (Nat.le_of_ble_eq_true rfl) rfl rfl (k_X6_append (by omega) hl hz) ?_
      refine P_aload0 X 48 dX8_feed_47 rfl ?_
      refine gX_0_3 X 51 dX8_feed_48 rfl fl_X8_33 ?_
      refine gX_4_1 X 54 dX8_feed_51 rfl fl_X8_147 ?_
      refine P_top (appH_len hl n9) ?_
      exact P_iret X hQ dX8_feed_54 ⟨by rw [if_pos b7, if_pos (by rw [ec]; exact hz), ec], by rw [if_pos b7, if_pos (by rw [ec]; exact hz), ec]⟩
    · have hz : ¬ l + n9 ≤ 80 := fun z => b28 (nI_le (b := 80) z (by decide))
      refine P_aload0 X 32 dX8_feed_31 rfl ?_
      refine P_ldc X kc_X8_98 34 dX8_feed_32 rfl ?_
      refine V1r X 0 37 dX8_feed_34 rfl lk_X8_91 mv_X8_finding rfl (by omega) (Nat.le_of_ble_eq_true rfl) (Nat.le_of_ble_eq_true rfl) rfl rfl (k_X8_finding (by omega)) ?_
      exact P_iret X hQ dX8_feed_37 ⟨by rw [if_pos b7, if_neg (by rw [ec]; exact hz)], by rw [if_pos b7, if_neg (by rw [ec]; exact hz)]; rfl⟩
  · refine P_aload0 X 11 dX8_feed_10 rfl ?_
    refine P_ldc X kc_X8_90 13 dX8_feed_11 rfl ?_
    refine V1r X 0 16 dX8_feed_13 rfl lk_X8_91 mv_X8_finding rfl (by omega) (Nat.le_of_ble_eq_true rfl) (Nat.le_of_ble_eq_true rfl) rfl rfl (k_X8_finding (by omega)) ?_
    exact P_iret X hQ dX8_feed_16 ⟨by rw [if_neg (by simp [b7])], by rw [if_neg (by simp [b7])]; rfl⟩
set_option maxHeartbeats 4000000 in
set_option maxRecDepth 100000 in
theorem k_X9_feed {d : Nat} {E : Ev} {l : Nat} {wv : Int64} {nn : Int32} {h : Hp} (hd : 2 ≤ d) (hl : h 0 17 = nI l) (hl80 : l ≤ 80) : Cl d yX9_feed cX9_feed 5 (some .int) E (wdY E) [.ref (E.2.2.1 0), .long wv, .int nn] h (Rt (some (.int (if inB nn 1 8 then (if l + tn nn ≤ 80 then nI (l + tn nn) else -1000002) else -1000001))) (if inB nn 1 8 then (if l + tn nn ≤ 80 then put (fdY h l wv (tn nn)) 0 17 (nI (l + tn nn)) else fiY h) else fiY h)) := by
  refine Cl_of [some (.ref (E.2.2.1 0)), some (.long wv), none, some (.int nn), none] (by decide) rfl (Nat.le_of_ble_eq_true rfl) (fun K A X hQ => ?_)
  refine P_iload3 X 1 dX9_feed_0 rfl ?_
  refine P_iconst X (1) rfl 2 dX9_feed_1 rfl ?_
  refine P_bipush X (8) rfl 4 dX9_feed_2 rfl ?_
  refine S3r X 7 dX9_feed_4 rfl lk_X9_111 ms_X9_in rfl (by omega) (Nat.le_of_ble_eq_true rfl) (k_X9_in (by omega)) ?_
  refine P_bn X 17 10 dX9_feed_7 rfl rfl (fun b7 => ?_) (fun b7 => ?_)
  · obtain ⟨n9, hn1, hn8, rfl⟩ := inB_18 b7
    have ec : tn (nI n9) = n9 := nI_clamp (by omega)
    refine P_aload0 X 18 dX9_feed_17 rfl ?_
    refine gY_0_17 X 21 dX9_feed_18 rfl fl_X9_170 ?_
    refine P_top hl ?_
    refine P_iload3 X 22 dX9_feed_21 rfl ?_
    refine P_iadd X 23 dX9_feed_22 rfl ?_
    refine P_bipush X (80) rfl 25 dX9_feed_23 rfl ?_
    rw [nI_add]
    refine P_icmp_le X 35 28 dX9_feed_25 rfl rfl (fun b25 => ?_) (fun b25 => ?_)
    · have hz : l + n9 ≤ 80 := (nI_leI (b := 80) (by omega) (by decide)).mp b25
      have L : ∀ (m i : Nat) , i + m = n9 → GW K 5 E (wdY E) A 38 [some (.ref (E.2.2.1 0)), some (.long wv), none, some (.int (nI n9)), some (.int (nI i))] [] (fdY h l wv i) := by
        intro m
        induction m with
        | zero =>
          intro i  hm 
          refine P_iload4 X 40 dX9_feed_38 rfl ?_
          refine P_iload3 X 41 dX9_feed_40 rfl ?_
          refine P_icmp_ge X 74 44 dX9_feed_41 rfl rfl (fun b41 => ?_) (fun b41 => ?_)
          · obtain rfl : i = n9 := by omega
            refine P_aload0 X 75 dX9_feed_74 rfl ?_
            refine P_dup X rfl 76 dX9_feed_75 rfl ?_
            refine gY_0_17 X 79 dX9_feed_76 rfl fl_X9_170 ?_
            refine P_top (y := nI l) (by rw [fdY_0]; exact hl) ?_
            refine P_iload3 X 80 dX9_feed_79 rfl ?_
            refine P_iadd X 81 dX9_feed_80 rfl ?_
            rw [nI_add]
            refine pY_0_17 X 84 dX9_feed_81 rfl fw_X9_170 ?_
            refine P_aload0 X 85 dX9_feed_84 rfl ?_
            refine gY_0_17 X 88 dX9_feed_85 rfl fl_X9_170 ?_
            refine P_top put_s ?_
            exact P_iret X hQ dX9_feed_88 ⟨by rw [if_pos b7, if_pos (by rw [ec]; exact hz), ec], by rw [if_pos b7, if_pos (by rw [ec]; exact hz), ec]⟩
          · exact (geN (rfl : nI n9 = nI n9) b41 (by omega) (by omega)).elim
        | succ m ih =>
          intro i  hm 
          refine P_iload4 X 40 dX9_feed_38 rfl ?_
          refine P_iload3 X 41 dX9_feed_40 rfl ?_
          refine P_icmp_ge X 74 44 dX9_feed_41 rfl rfl (fun b41 => ?_) (fun b41 => ?_)
          · exact (geY (rfl : nI n9 = nI n9) b41 (by omega) (by omega)).elim
          · refine P_aload0 X 45 dX9_feed_44 rfl ?_
            refine gY_0_18 X 48 dX9_feed_45 rfl fl_X9_53 ?_
            refine P_aload0 X 49 dX9_feed_48 rfl ?_
            refine gY_0_17 X 52 dX9_feed_49 rfl fl_X9_170 ?_
            refine P_top (y := nI l) (by rw [fdY_0]; exact hl) ?_
            refine P_iload4 X 54 dX9_feed_52 rfl ?_
            refine P_iadd X 55 dX9_feed_54 rfl ?_
            refine P_lload1 X 56 dX9_feed_55 rfl ?_
            refine P_bipush X (8) rfl 58 dX9_feed_56 rfl ?_
            refine P_iload4 X 60 dX9_feed_58 rfl ?_
            refine P_imul X 61 dX9_feed_60 rfl ?_
            refine P_lshr X 62 dX9_feed_61 rfl ?_
            refine P_ldc2 X kc_X9_173 65 dX9_feed_62 rfl ?_
            refine P_land X 66 dX9_feed_65 rfl ?_
            refine P_l2i X 67 dX9_feed_66 rfl ?_
            refine sY_15 X 68 dX9_feed_67 rfl (nI_add _ _) (by omega) ?_
            refine P_iinc4 X (1) rfl 71 dX9_feed_68 rfl (by decide) rfl ?_
            refine P_goto X 38 dX9_feed_71 rfl ?_
            simp only [nI_1]
            exact ih (i + 1) (by omega)
      refine P_iconst X (0) rfl 36 dX9_feed_35 rfl ?_
      refine P_istore4 X 38 dX9_feed_36 rfl (by decide) rfl ?_
      exact L n9 0 (by omega)
    · have hz : ¬ l + n9 ≤ 80 := fun z => b25 (nI_le (b := 80) z (by decide))
      refine P_aload0 X 29 dX9_feed_28 rfl ?_
      refine P_ldc X kc_X9_148 31 dX9_feed_29 rfl ?_
      refine V1r X 0 34 dX9_feed_31 rfl lk_X9_145 mv_X9_finding rfl (by omega) (Nat.le_of_ble_eq_true rfl) (Nat.le_of_ble_eq_true rfl) rfl rfl (k_X9_finding (by omega)) ?_
      exact P_iret X hQ dX9_feed_34 ⟨by rw [if_pos b7, if_neg (by rw [ec]; exact hz)], by rw [if_pos b7, if_neg (by rw [ec]; exact hz)]; rfl⟩
  · refine P_aload0 X 11 dX9_feed_10 rfl ?_
    refine P_ldc X kc_X9_144 13 dX9_feed_11 rfl ?_
    refine V1r X 0 16 dX9_feed_13 rfl lk_X9_145 mv_X9_finding rfl (by omega) (Nat.le_of_ble_eq_true rfl) (Nat.le_of_ble_eq_true rfl) rfl rfl (k_X9_finding (by omega)) ?_
    exact P_iret X hQ dX9_feed_16 ⟨by rw [if_neg (by simp [b7])], by rw [if_neg (by simp [b7])]; rfl⟩
