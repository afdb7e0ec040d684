theorem nI_4e : nI 4 = 4 := rfl
def okEf (k x : Int32) : Bool := inB k 0 4 && inB x 1 40
set_option maxHeartbeats 4000000 in
set_option maxRecDepth 100000 in
theorem k_X8_effort {d : Nat} {E : Ev} {k x : Int32} {h : Hp} (hd : 2 ≤ d)  : Cl d yX8_effort cX8_effort 4 (some .int) E (wdX E) [.ref (E.2.2.1 0), .int k, .int x] h (Rt (some (.int (if okEf k x then h 7 (tn k) else -1000001))) (if okEf k x then put h 7 (tn k) x else fiX h)) := by
  refine Cl_of [some (.ref (E.2.2.1 0)), some (.int k), some (.int x), none] (by decide) rfl (Nat.le_of_ble_eq_true rfl) (fun K A X hQ => ?_)
  refine P_iload1 X 1 dX8_effort_0 rfl ?_
  refine S1r X 4 dX8_effort_1 rfl lk_X8_83 ms_X8_isKind rfl (by omega) (Nat.le_of_ble_eq_true rfl) (k_X8_isKind (by omega)) ?_
  refine P_bz X 17 7 dX8_effort_4 rfl rfl (fun b4 => ?_) (fun b4 => ?_)
  · refine P_aload0 X 18 dX8_effort_17 rfl ?_
    refine P_ldc X kc_X8_90 20 dX8_effort_18 rfl ?_
    refine V1r X 0 23 dX8_effort_20 rfl lk_X8_91 mv_X8_finding rfl (by omega) (Nat.le_of_ble_eq_true rfl) (Nat.le_of_ble_eq_true rfl) rfl rfl (k_X8_finding (by omega)) ?_
    exact P_iret X hQ dX8_effort_23 ⟨by simp [okEf, b4], by simp [okEf, b4, fiX]⟩
  · refine P_iload2 X 8 dX8_effort_7 rfl ?_
    refine P_iconst X (1) rfl 9 dX8_effort_8 rfl ?_
    refine P_bipush X (40) rfl 11 dX8_effort_9 rfl ?_
    refine S3r X 14 dX8_effort_11 rfl lk_X8_79 ms_X8_within rfl (by omega) (Nat.le_of_ble_eq_true rfl) (k_X8_within (by omega)) ?_
    refine P_bn X 24 17 dX8_effort_14 rfl rfl (fun b14 => ?_) (fun b14 => ?_)
    · obtain ⟨k, hk, rfl⟩ := inB_ex 4 b4
      have hk31 : k < 2 ^ 31 := by omega
      refine P_aload0 X 25 dX8_effort_24 rfl ?_
      refine gX_0_6 X 28 dX8_effort_25 rfl fl_X8_51 ?_
      refine P_iload1 X 29 dX8_effort_28 rfl ?_
      refine lX_7 X 30 dX8_effort_29 rfl rfl (by omega) ?_
      refine P_istore3 X 31 dX8_effort_30 rfl (by decide) rfl ?_
      refine P_aload0 X 32 dX8_effort_31 rfl ?_
      refine gX_0_6 X 35 dX8_effort_32 rfl fl_X8_51 ?_
      refine P_iload1 X 36 dX8_effort_35 rfl ?_
      refine P_iload2 X 37 dX8_effort_36 rfl ?_
      refine sX_7 X 38 dX8_effort_37 rfl rfl (by omega) ?_
      refine P_iload3 X 39 dX8_effort_38 rfl ?_
      exact P_iret X hQ dX8_effort_39 ⟨by simp [okEf, b4, b14, tn, nI_clamp hk31], by simp [okEf, b4, b14, tn, nI_clamp hk31]⟩
    · refine P_aload0 X 18 dX8_effort_17 rfl ?_
      refine P_ldc X kc_X8_90 20 dX8_effort_18 rfl ?_
      refine V1r X 0 23 dX8_effort_20 rfl lk_X8_91 mv_X8_finding rfl (by omega) (Nat.le_of_ble_eq_true rfl) (Nat.le_of_ble_eq_true rfl) rfl rfl (k_X8_finding (by omega)) ?_
      exact P_iret X hQ dX8_effort_23 ⟨by simp [okEf, b4, b14], by simp [okEf, b4, b14, fiX]⟩
set_option maxHeartbeats 4000000 in
set_option maxRecDepth 100000 in
theorem k_X9_effort {d : Nat} {E : Ev} {k x : Int32} {h : Hp} (hd : 2 ≤ d)  : Cl d yX9_effort cX9_effort 4 (some .int) E (wdY E) [.ref (E.2.2.1 0), .int k, .int x] h (Rt (some (.int (if okEf k x then h 17 (tn k) else -1000001))) (if okEf k x then put h 17 (tn k) x else fiY h)) := by
  refine Cl_of [some (.ref (E.2.2.1 0)), some (.int k), some (.int x), none] (by decide) rfl (Nat.le_of_ble_eq_true rfl) (fun K A X hQ => ?_)
  refine P_iload1 X 1 dX9_effort_0 rfl ?_
  refine S1r X 4 dX9_effort_1 rfl lk_X9_133 ms_X9_isKind rfl (by omega) (Nat.le_of_ble_eq_true rfl) (k_X9_isKind (by omega)) ?_
  refine P_bz X 17 7 dX9_effort_4 rfl rfl (fun b4 => ?_) (fun b4 => ?_)
  · refine P_aload0 X 18 dX9_effort_17 rfl ?_
    refine P_ldc X kc_X9_144 20 dX9_effort_18 rfl ?_
    refine V1r X 0 23 dX9_effort_20 rfl lk_X9_145 mv_X9_finding rfl (by omega) (Nat.le_of_ble_eq_true rfl) (Nat.le_of_ble_eq_true rfl) rfl rfl (k_X9_finding (by omega)) ?_
    exact P_iret X hQ dX9_effort_23 ⟨by simp [okEf, b4], by simp [okEf, b4, fiY]⟩
  · refine P_iload2 X 8 dX9_effort_7 rfl ?_
    refine P_iconst X (1) rfl 9 dX9_effort_8 rfl ?_
    refine P_bipush X (40) rfl 11 dX9_effort_9 rfl ?_
    refine S3r X 14 dX9_effort_11 rfl lk_X9_111 ms_X9_in rfl (by omega) (Nat.le_of_ble_eq_true rfl) (k_X9_in (by omega)) ?_
    refine P_bn X 24 17 dX9_effort_14 rfl rfl (fun b14 => ?_) (fun b14 => ?_)
    · obtain ⟨k, hk, rfl⟩ := inB_ex 4 b4
      have hk31 : k < 2 ^ 31 := by omega
      refine P_aload0 X 25 dX9_effort_24 rfl ?_
      refine gY_0_21 X 28 dX9_effort_25 rfl fl_X9_59 ?_
      refine P_iload1 X 29 dX9_effort_28 rfl ?_
      refine lY_17 X 30 dX9_effort_29 rfl rfl (by omega) ?_
      refine P_istore3 X 31 dX9_effort_30 rfl (by decide) rfl ?_
      refine P_aload0 X 32 dX9_effort_31 rfl ?_
      refine gY_0_21 X 35 dX9_effort_32 rfl fl_X9_59 ?_
      refine P_iload1 X 36 dX9_effort_35 rfl ?_
      refine P_iload2 X 37 dX9_effort_36 rfl ?_
      refine sY_17 X 38 dX9_effort_37 rfl rfl (by omega) ?_
      refine P_iload3 X 39 dX9_effort_38 rfl ?_
      exact P_iret X hQ dX9_effort_39 ⟨by simp [okEf, b4, b14, tn, nI_clamp hk31], by simp [okEf, b4, b14, tn, nI_clamp hk31]⟩
    · refine P_aload0 X 18 dX9_effort_17 rfl ?_
      refine P_ldc X kc_X9_144 20 dX9_effort_18 rfl ?_
      refine V1r X 0 23 dX9_effort_20 rfl lk_X9_145 mv_X9_finding rfl (by omega) (Nat.le_of_ble_eq_true rfl) (Nat.le_of_ble_eq_true rfl) rfl rfl (k_X9_finding (by omega)) ?_
      exact P_iret X hQ dX9_effort_23 ⟨by simp [okEf, b4, b14], by simp [okEf, b4, b14, fiY]⟩
def shH (h : Hp) (t : Nat) (dv ov : Int32) : Hp := put (put (put (put (put h 21 t 0) 22 t (h 22 t + 1)) 23 t dv) 24 t ov) 25 t 0
def clX (h : Hp) (t : Nat) (dv ov : Int32) : Hp := put (shH h t dv ov) 40 (tn ov) (h 40 (tn ov) + 1)
def clY (h : Hp) (t : Nat) (dv ov : Int32) : Hp := put (put (put (put (put (put h 10 t 0) 14 t 0) 11 t (h 11 t + 1)) 12 t dv) 13 t ov) 18 (tn ov) (h 18 (tn ov) + 1)
theorem ownP_cases {kd xs ys fa row d2 : Nat → Int32} {nx : Int32 → Int32 → Int32} {t rr : Nat} {gv sd : Nat → Bool} {d1 d3 : Nat → Int32} (hV : TV gv sd d1 d2 d3 rr) (hrow : ∀ k, row k = -1 ∨ ∃ r, row k = nI r ∧ r < rr ∧ gv r = true) (hr : rr ≤ 12) (hN : ∀ q, NX (nx q)) : (ownP kd xs ys fa row d2 nx t).1 < 0 ∨ ∃ j, j < 6 ∧ (ownP kd xs ys fa row d2 nx t).1 = nI j := by
  rw [ownP]
  rcases hrow (tn (kd (tn (fa t)))) with e | ⟨r, e, h1, h2⟩
  · rw [if_pos e]; exact Or.inl (by decide)
  · have hne : ¬ row (tn (kd (tn (fa t)))) = -1 := by rw [e]; exact nI_nm1 (by omega)
    rw [if_neg hne, e, show tn (nI r) = r from nI_clamp (by omega)]
    obtain ⟨k, hk, ek⟩ : ∃ k, k < 6 ∧ d2 r = nI k := by
      rcases hV r h1 with z | z
      · exact z.2.2.2.1
      · rw [z.1] at h2; cases h2
    rcases own_cases (hN (qtr (xs (tn (fa t))) (ys (tn (fa t))))) 7 0 (d2 r) (1 <<< (d2 r &&& 31)) ⟨k, hk, ek⟩ with z | z
    · exact Or.inl (by rw [own0, z]; decide)
    · exact Or.inr z
set_option maxHeartbeats 4000000 in
set_option maxRecDepth 100000 in
theorem k_X7_shut {d : Nat} {E : Ev} {t : Nat} {dv ov : Int32} {h : Hp} (hd : 0 ≤ d) (ht : t < 40) : Cl d yX7_shut cX7_shut 4 none E (wdX E) [.ref (E.2.2.1 2), .int (nI t), .int dv, .int ov] h (Rt none (shH h t dv ov)) := by
  refine Cl_of [some (.ref (E.2.2.1 2)), some (.int (nI t)), some (.int dv), some (.int ov)] (by decide) rfl (Nat.le_of_ble_eq_true rfl) (fun K A X hQ => ?_)
  refine P_aload0 X 1 dX7_shut_0 rfl ?_
  refine gX_2_1 X 4 dX7_shut_1 rfl fl_X7_15 ?_
  refine P_iload1 X 5 dX7_shut_4 rfl ?_
  refine P_iconst X (0) rfl 6 dX7_shut_5 rfl ?_
  refine sX_21 X 7 dX7_shut_6 rfl rfl (by omega) (Or.inl rfl) ?_
  refine P_aload0 X 8 dX7_shut_7 rfl ?_
  refine gX_2_2 X 11 dX7_shut_8 rfl fl_X7_19 ?_
  refine P_iload1 X 12 dX7_shut_11 rfl ?_
  refine P_dup2 X rfl rfl 13 dX7_shut_12 rfl ?_
  refine lX_22 X 14 dX7_shut_13 rfl rfl (by omega) ?_
  refine P_top (y := h 22 t) (by rw [put_n (by decide)]) ?_
  refine P_iconst X (1) rfl 15 dX7_shut_14 rfl ?_
  refine P_iadd X 16 dX7_shut_15 rfl ?_
  refine sX_22 X 17 dX7_shut_16 rfl rfl (by omega) ?_
  refine P_aload0 X 18 dX7_shut_17 rfl ?_
  refine gX_2_3 X 21 dX7_shut_18 rfl fl_X7_22 ?_
  refine P_iload1 X 22 dX7_shut_21 rfl ?_
  refine P_iload2 X 23 dX7_shut_22 rfl ?_
  refine sX_23 X 24 dX7_shut_23 rfl rfl (by omega) ?_
  refine P_aload0 X 25 dX7_shut_24 rfl ?_
  refine gX_2_4 X 28 dX7_shut_25 rfl fl_X7_25 ?_
  refine P_iload1 X 29 dX7_shut_28 rfl ?_
  refine P_iload3 X 30 dX7_shut_29 rfl ?_
  refine sX_24 X 31 dX7_shut_30 rfl rfl (by omega) ?_
  refine P_aload0 X 32 dX7_shut_31 rfl ?_
  refine gX_2_5 X 35 dX7_shut_32 rfl fl_X7_28 ?_
  refine P_iload1 X 36 dX7_shut_35 rfl ?_
  refine P_iconst X (0) rfl 37 dX7_shut_36 rfl ?_
  refine sX_25 X 38 dX7_shut_37 rfl rfl (by omega) (Or.inl rfl) ?_
  exact P_ret X hQ dX7_shut_38 ⟨rfl, rfl⟩
def okCl (x t dv : Int32) : Bool := inB t 0 (x - 1) && inB dv 0 999
def okC2 (op dy fa : Nat → Int32) (t : Nat) (dv : Int32) : Bool := !decide (op t = 0) && decide (dy (tn (fa t)) ≤ dv)
set_option maxHeartbeats 4000000 in
set_option maxRecDepth 100000 in
theorem k_X8_close {d : Nat} {E : Ev} {rr nT : Nat} {t dv : Int32} {h : Hp} (hd : 6 ≤ d) (hR : h 5 4 = nI rr) (hr12 : rr ≤ 12) (hV : TVX h rr) (hT : h 2 6 = nI nT) (hnT : nT ≤ 40) (hfa : Bd (h 20) 40) (hk5 : Bd (h 12) 5) : Cl d yX8_close cX8_close 4 (some .int) E (wdX E) [.ref (E.2.2.1 0), .int t, .int dv] h (Rt (some (.int (if okCl (h 2 6) t dv then (if okC2 (h 21) (h 16) (h 20) (tn t) dv then (owX h rr (tn t)).1 else -1000005) else -1000001))) (if okCl (h 2 6) t dv then (if okC2 (h 21) (h 16) (h 20) (tn t) dv then (if (owX h rr (tn t)).1 < 0 then fiX h else clX h (tn t) dv ((owX h rr (tn t)).1)) else fiX h) else fiX h)) := by
  refine Cl_of [some (.ref (E.2.2.1 0)), some (.int t), some (.int dv), none] (by decide) rfl (Nat.le_of_ble_eq_true rfl) (fun K A X hQ => ?_)
  refine P_aload0 X 1 dX8_close_0 rfl ?_
  refine P_iload1 X 2 dX8_close_1 rfl ?_
  refine V1r X 0 5 dX8_close_2 rfl lk_X8_135 mv_X8_isThing rfl (by omega) (Nat.le_of_ble_eq_true rfl) (Nat.le_of_ble_eq_true rfl) rfl rfl (k_X8_isThing (by omega)) ?_
  refine P_bz X 15 8 dX8_close_5 rfl rfl (fun b5 => ?_) (fun b5 => ?_)
  · have hok : ¬ okCl (h 2 6) t dv = true := by simp [okCl, b5]
    rw [if_neg hok, if_neg hok] at hQ
    refine P_aload0 X 16 dX8_close_15 rfl ?_
    refine P_ldc X kc_X8_90 18 dX8_close_16 rfl ?_
    refine V1r X 0 21 dX8_close_18 rfl lk_X8_91 mv_X8_finding rfl (by omega) (Nat.le_of_ble_eq_true rfl) (Nat.le_of_ble_eq_true rfl) rfl rfl (k_X8_finding (by omega)) ?_
    exact P_iret X hQ dX8_close_21 ⟨rfl, rfl⟩
  · refine P_iload2 X 9 dX8_close_8 rfl ?_
    refine S1r X 12 dX8_close_9 rfl lk_X8_191 ms_X8_isDay rfl (by omega) (Nat.le_of_ble_eq_true rfl) (k_X8_isDay (by omega)) ?_
    refine P_bn X 22 15 dX8_close_12 rfl rfl (fun b12 => ?_) (fun b12 => ?_)
    · obtain ⟨t, ht0, rfl⟩ := inB_ix hT b5 hnT
      have ht : t < 40 := by omega
      have ht31 : tn (nI t) = t := nI_clamp (by omega)
      rw [ht31] at hQ
      have hok : okCl (h 2 6) (nI t) dv = true := by simp [okCl, b5, b12]
      rw [if_pos hok, if_pos hok] at hQ
      refine P_aload0 X 23 dX8_close_22 rfl ?_
      refine gX_0_1 X 26 dX8_close_23 rfl fl_X8_19 ?_
      refine gX_2_1 X 29 dX8_close_26 rfl fl_X8_218 ?_
      refine P_iload1 X 30 dX8_close_29 rfl ?_
      refine lX_21 X 31 dX8_close_30 rfl rfl (by omega) ?_
      refine P_if_eq X 43 34 dX8_close_31 rfl rfl (fun b31 => ?_) (fun b31 => ?_)
      · have hok2 : ¬ okC2 (h 21) (h 16) (h 20) t dv = true := by simp [okC2, b31]
        rw [if_neg hok2, if_neg hok2] at hQ
        refine P_aload0 X 44 dX8_close_43 rfl ?_
        refine P_ldc X kc_X8_222 46 dX8_close_44 rfl ?_
        refine V1r X 0 49 dX8_close_46 rfl lk_X8_91 mv_X8_finding rfl (by omega) (Nat.le_of_ble_eq_true rfl) (Nat.le_of_ble_eq_true rfl) rfl rfl (k_X8_finding (by omega)) ?_
        exact P_iret X hQ dX8_close_49 ⟨rfl, rfl⟩
      · refine P_iload2 X 35 dX8_close_34 rfl ?_
        refine P_aload0 X 36 dX8_close_35 rfl ?_
        refine P_iload1 X 37 dX8_close_36 rfl ?_
        refine V1r X 0 40 dX8_close_37 rfl lk_X8_176 mv_X8_dayOf rfl (by omega) (Nat.le_of_ble_eq_true rfl) (Nat.le_of_ble_eq_true rfl) rfl rfl (k_X8_dayOf (by omega) ht hfa) ?_
        refine P_icmp_ge X 50 43 dX8_close_40 rfl rfl (fun b40 => ?_) (fun b40 => ?_)
        · have hok2 : okC2 (h 21) (h 16) (h 20) t dv = true := by
            simp only [okC2, Bool.and_eq_true, decide_eq_true_eq]
            exact ⟨by simp [b31], b40⟩
          rw [if_pos hok2, if_pos hok2] at hQ
          refine P_aload0 X 51 dX8_close_50 rfl ?_
          refine P_iload1 X 52 dX8_close_51 rfl ?_
          refine V1r X 0 55 dX8_close_52 rfl lk_X8_166 mv_X8_ownerOf rfl (by omega) (Nat.le_of_ble_eq_true rfl) (Nat.le_of_ble_eq_true rfl) rfl rfl (k_X8_ownerOf (by omega) hR hr12 hV ht hfa hk5) ?_
          refine P_istore3 X 56 dX8_close_55 rfl (by decide) rfl ?_
          refine P_iload3 X 57 dX8_close_56 rfl ?_
          refine P_if_ge X 66 60 dX8_close_57 rfl rfl (fun b57 => ?_) (fun b57 => ?_)
          · rw [if_neg (fun z => absurd b57 (Int32.not_le.mpr z))] at hQ
            obtain ⟨j9, hj9, ej9⟩ : ∃ j, j < 6 ∧ (owX h rr t).1 = nI j := (ownP_cases (nx := fun q => nxX h rr q) hV (fun k => rowF_cases) hr12 (fun q k => nxt_cases hV q k)).resolve_left (fun z => absurd b57 (Int32.not_le.mpr z))
            have ej : tn (nI j9) = j9 := nI_clamp (by omega)
            rw [ej9] at hQ ⊢
            refine P_aload0 X 67 dX8_close_66 rfl ?_
            refine gX_0_1 X 70 dX8_close_67 rfl fl_X8_19 ?_
            refine P_iload1 X 71 dX8_close_70 rfl ?_
            refine P_iload2 X 72 dX8_close_71 rfl ?_
            refine P_iload3 X 73 dX8_close_72 rfl ?_
            refine V3v X 2 76 dX8_close_73 rfl lk_X8_223 mv_X7_shut rfl (by omega) (Nat.le_of_ble_eq_true rfl) (Nat.le_of_ble_eq_true rfl) rfl rfl (k_X7_shut (by omega) ht) ?_
            refine P_aload0 X 77 dX8_close_76 rfl ?_
            refine gX_0_7 X 80 dX8_close_77 rfl fl_X8_58 ?_
            refine gX_8_0 X 83 dX8_close_80 rfl fl_X8_227 ?_
            refine P_iload3 X 84 dX8_close_83 rfl ?_
            refine P_dup2 X rfl rfl 85 dX8_close_84 rfl ?_
            refine lX_40 X 86 dX8_close_85 rfl rfl (by omega) ?_
            refine P_top (y := h 40 j9) (by simp [shH, put, up2]) ?_
            refine P_iconst X (1) rfl 87 dX8_close_86 rfl ?_
            refine P_iadd X 88 dX8_close_87 rfl ?_
            refine sX_40 X 89 dX8_close_88 rfl rfl (by omega) ?_
            refine P_iload3 X 90 dX8_close_89 rfl ?_
            exact P_iret X hQ dX8_close_90 ⟨rfl, by rw [clX, ej]⟩
          · rw [if_pos (Int32.not_le.mp b57)] at hQ
            refine P_aload0 X 61 dX8_close_60 rfl ?_
            refine P_iload3 X 62 dX8_close_61 rfl ?_
            refine V1r X 0 65 dX8_close_62 rfl lk_X8_91 mv_X8_finding rfl (by omega) (Nat.le_of_ble_eq_true rfl) (Nat.le_of_ble_eq_true rfl) rfl rfl (k_X8_finding (by omega)) ?_
            exact P_iret X hQ dX8_close_65 ⟨rfl, rfl⟩
        · have hok2 : ¬ okC2 (h 21) (h 16) (h 20) t dv = true := by
            simp only [okC2, Bool.and_eq_true, decide_eq_true_eq]
            exact fun z => b40 z.2
          rw [if_neg hok2, if_neg hok2] at hQ
          refine P_aload0 X 44 dX8_close_43 rfl ?_
          refine P_ldc X kc_X8_222 46 dX8_close_44 rfl ?_
          refine V1r X 0 49 dX8_close_46 rfl lk_X8_91 mv_X8_finding rfl (by omega) (Nat.le_of_ble_eq_true rfl) (Nat.le_of_ble_eq_true rfl) rfl rfl (k_X8_finding (by omega)) ?_
          exact P_iret X hQ dX8_close_49 ⟨rfl, rfl⟩
    · have hok : ¬ okCl (h 2 6) t dv = true := by simp [okCl, b5, b12]
      rw [if_neg hok, if_neg hok] at hQ
      refine P_aload0 X 16 dX8_close_15 rfl ?_
      refine P_ldc X kc_X8_90 18 dX8_close_16 rfl ?_
      refine V1r X 0 21 dX8_close_18 rfl lk_X8_91 mv_X8_finding rfl (by omega) (Nat.le_of_ble_eq_true rfl) (Nat.le_of_ble_eq_true rfl) rfl rfl (k_X8_finding (by omega)) ?_
      exact P_iret X hQ dX8_close_21 ⟨rfl, rfl⟩
set_option maxHeartbeats 4000000 in
set_option maxRecDepth 100000 in
theorem k_X9_close {d : Nat} {E : Ev} {rr nT : Nat} {t dv : Int32} {h : Hp} (hd : 4 ≤ d) (hR : h 0 19 = nI rr) (hr12 : rr ≤ 12) (hV : TVY (h 16) rr) (hT : h 0 10 = nI nT) (hnT : nT ≤ 40) (hfa : Bd (h 9) 40) (hk5 : Bd (h 1) 5) : Cl d yX9_close cX9_close 4 (some .int) E (wdY E) [.ref (E.2.2.1 0), .int t, .int dv] h (Rt (some (.int (if okCl (h 0 10) t dv then (if okC2 (h 10) (h 5) (h 9) (tn t) dv then (owY h rr (tn t)).1 else -1000005) else -1000001))) (if okCl (h 0 10) t dv then (if okC2 (h 10) (h 5) (h 9) (tn t) dv then (if (owY h rr (tn t)).1 < 0 then fiY (put h 0 33 (nI (owY h rr (tn t)).2)) else clY (put h 0 33 (nI (owY h rr (tn t)).2)) (tn t) dv ((owY h rr (tn t)).1)) else fiY h) else fiY h)) := by
  refine Cl_of [some (.ref (E.2.2.1 0)), some (.int t), some (.int dv), none] (by decide) rfl (Nat.le_of_ble_eq_true rfl) (fun K A X hQ => ?_)
  refine P_aload0 X 1 dX9_close_0 rfl ?_
  refine P_iload1 X 2 dX9_close_1 rfl ?_
  refine V1r X 0 5 dX9_close_2 rfl lk_X9_164 mv_X9_isThing rfl (by omega) (Nat.le_of_ble_eq_true rfl) (Nat.le_of_ble_eq_true rfl) rfl rfl (k_X9_isThing (by omega)) ?_
  refine P_bz X 15 8 dX9_close_5 rfl rfl (fun b5 => ?_) (fun b5 => ?_)
  · have hok : ¬ okCl (h 0 10) t dv = true := by simp [okCl, b5]
    rw [if_neg hok, if_neg hok] at hQ
    refine P_aload0 X 16 dX9_close_15 rfl ?_
    refine P_ldc X kc_X9_144 18 dX9_close_16 rfl ?_
    refine V1r X 0 21 dX9_close_18 rfl lk_X9_145 mv_X9_finding rfl (by omega) (Nat.le_of_ble_eq_true rfl) (Nat.le_of_ble_eq_true rfl) rfl rfl (k_X9_finding (by omega)) ?_
    exact P_iret X hQ dX9_close_21 ⟨rfl, rfl⟩
  · refine P_iload2 X 9 dX9_close_8 rfl ?_
    refine S1r X 12 dX9_close_9 rfl lk_X9_137 ms_X9_isDay rfl (by omega) (Nat.le_of_ble_eq_true rfl) (k_X9_isDay (by omega)) ?_
    refine P_bn X 22 15 dX9_close_12 rfl rfl (fun b12 => ?_) (fun b12 => ?_)
    · obtain ⟨t, ht0, rfl⟩ := inB_ix hT b5 hnT
      have ht : t < 40 := by omega
      have ht31 : tn (nI t) = t := nI_clamp (by omega)
      rw [ht31] at hQ
      have hok : okCl (h 0 10) (nI t) dv = true := by simp [okCl, b5, b12]
      rw [if_pos hok, if_pos hok] at hQ
      obtain ⟨a9, ha9, ea⟩ := hfa t
      have et : tn (h 9 t) = a9 := by rw [ea]; exact nI_clamp (by omega)
      refine P_aload0 X 23 dX9_close_22 rfl ?_
      refine gY_0_12 X 26 dX9_close_23 rfl fl_X9_37 ?_
      refine P_iload1 X 27 dX9_close_26 rfl ?_
      refine lY_10 X 28 dX9_close_27 rfl rfl (by omega) ?_
      refine P_if_eq X 46 31 dX9_close_28 rfl rfl (fun b28 => ?_) (fun b28 => ?_)
      · have hok2 : ¬ okC2 (h 10) (h 5) (h 9) t dv = true := by simp [okC2, b28]
        rw [if_neg hok2, if_neg hok2] at hQ
        refine P_aload0 X 47 dX9_close_46 rfl ?_
        refine P_ldc X kc_X9_218 49 dX9_close_47 rfl ?_
        refine V1r X 0 52 dX9_close_49 rfl lk_X9_145 mv_X9_finding rfl (by omega) (Nat.le_of_ble_eq_true rfl) (Nat.le_of_ble_eq_true rfl) rfl rfl (k_X9_finding (by omega)) ?_
        exact P_iret X hQ dX9_close_52 ⟨rfl, rfl⟩
      · refine P_iload2 X 32 dX9_close_31 rfl ?_
        refine P_aload0 X 33 dX9_close_32 rfl ?_
        refine gY_0_6 X 36 dX9_close_33 rfl fl_X9_22 ?_
        refine P_aload0 X 37 dX9_close_36 rfl ?_
        refine gY_0_11 X 40 dX9_close_37 rfl fl_X9_34 ?_
        refine P_iload1 X 41 dX9_close_40 rfl ?_
        refine lY_9 X 42 dX9_close_41 rfl rfl (by omega) ?_
        refine lY_5 X 43 dX9_close_42 rfl ea ha9 ?_
        refine P_icmp_ge X 53 46 dX9_close_43 rfl rfl (fun b43 => ?_) (fun b43 => ?_)
        · have hok2 : okC2 (h 10) (h 5) (h 9) t dv = true := by
            simp only [okC2, Bool.and_eq_true, decide_eq_true_eq, et]
            exact ⟨by simp [b28], b43⟩
          rw [if_pos hok2, if_pos hok2] at hQ
          refine P_aload0 X 54 dX9_close_53 rfl ?_
          refine P_iload1 X 55 dX9_close_54 rfl ?_
          refine V1r X 0 58 dX9_close_55 rfl lk_X9_193 mv_X9_owner rfl (by omega) (Nat.le_of_ble_eq_true rfl) (Nat.le_of_ble_eq_true rfl) rfl rfl (k_X9_owner (by omega) hR hr12 hV ht hfa hk5) ?_
          refine P_istore3 X 59 dX9_close_58 rfl (by decide) rfl ?_
          refine P_iload3 X 60 dX9_close_59 rfl ?_
          refine P_if_ge X 69 63 dX9_close_60 rfl rfl (fun b60 => ?_) (fun b60 => ?_)
          · rw [if_neg (fun z => absurd b60 (Int32.not_le.mpr z))] at hQ
            obtain ⟨j9, hj9, ej9⟩ : ∃ j, j < 6 ∧ (owY h rr t).1 = nI j := (ownP_cases (nx := fun q => nxF (h 16) rr q) hV (fun k => rowF_cases) hr12 (fun q k => nxt_cases hV q k)).resolve_left (fun z => absurd b60 (Int32.not_le.mpr z))
            have ej : tn (nI j9) = j9 := nI_clamp (by omega)
            rw [ej9] at hQ ⊢
            generalize put h 0 33 (nI (owY h rr t).2) = hw at hQ ⊢
            refine P_aload0 X 70 dX9_close_69 rfl ?_
            refine gY_0_12 X 73 dX9_close_70 rfl fl_X9_37 ?_
            refine P_iload1 X 74 dX9_close_73 rfl ?_
            refine P_iconst X (0) rfl 75 dX9_close_74 rfl ?_
            refine sY_10 X 76 dX9_close_75 rfl rfl (by omega) (Or.inl rfl) ?_
            refine P_aload0 X 77 dX9_close_76 rfl ?_
            refine gY_0_16 X 80 dX9_close_77 rfl fl_X9_50 ?_
            refine P_iload1 X 81 dX9_close_80 rfl ?_
            refine P_iconst X (0) rfl 82 dX9_close_81 rfl ?_
            refine sY_14 X 83 dX9_close_82 rfl rfl (by omega) (Or.inl rfl) ?_
            refine P_aload0 X 84 dX9_close_83 rfl ?_
            refine gY_0_13 X 87 dX9_close_84 rfl fl_X9_41 ?_
            refine P_iload1 X 88 dX9_close_87 rfl ?_
            refine P_dup2 X rfl rfl 89 dX9_close_88 rfl ?_
            refine lY_11 X 90 dX9_close_89 rfl rfl (by omega) ?_
            refine P_top (y := hw 11 t) (by simp [put, up2]) ?_
            refine P_iconst X (1) rfl 91 dX9_close_90 rfl ?_
            refine P_iadd X 92 dX9_close_91 rfl ?_
            refine sY_11 X 93 dX9_close_92 rfl rfl (by omega) ?_
            refine P_aload0 X 94 dX9_close_93 rfl ?_
            refine gY_0_14 X 97 dX9_close_94 rfl fl_X9_44 ?_
            refine P_iload1 X 98 dX9_close_97 rfl ?_
            refine P_iload2 X 99 dX9_close_98 rfl ?_
            refine sY_12 X 100 dX9_close_99 rfl rfl (by omega) ?_
            refine P_aload0 X 101 dX9_close_100 rfl ?_
            refine gY_0_15 X 104 dX9_close_101 rfl fl_X9_47 ?_
            refine P_iload1 X 105 dX9_close_104 rfl ?_
            refine P_iload3 X 106 dX9_close_105 rfl ?_
            refine sY_13 X 107 dX9_close_106 rfl rfl (by omega) ?_
            refine P_aload0 X 108 dX9_close_107 rfl ?_
            refine gY_0_22 X 111 dX9_close_108 rfl fl_X9_62 ?_
            refine P_iload3 X 112 dX9_close_111 rfl ?_
            refine P_dup2 X rfl rfl 113 dX9_close_112 rfl ?_
            refine lY_18 X 114 dX9_close_113 rfl rfl (by omega) ?_
            refine P_top (y := hw 18 j9) (by simp [put, up2]) ?_
            refine P_iconst X (1) rfl 115 dX9_close_114 rfl ?_
            refine P_iadd X 116 dX9_close_115 rfl ?_
            refine sY_18 X 117 dX9_close_116 rfl rfl (by omega) ?_
            refine P_iload3 X 118 dX9_close_117 rfl ?_
            exact P_iret X hQ dX9_close_118 ⟨rfl, by rw [clY, ej]⟩
          · rw [if_pos (Int32.not_le.mp b60)] at hQ
            refine P_aload0 X 64 dX9_close_63 rfl ?_
            refine P_iload3 X 65 dX9_close_64 rfl ?_
            refine V1r X 0 68 dX9_close_65 rfl lk_X9_145 mv_X9_finding rfl (by omega) (Nat.le_of_ble_eq_true rfl) (Nat.le_of_ble_eq_true rfl) rfl rfl (k_X9_finding (by omega)) ?_
            exact P_iret X hQ dX9_close_68 ⟨rfl, rfl⟩
        · have hok2 : ¬ okC2 (h 10) (h 5) (h 9) t dv = true := by
            simp only [okC2, Bool.and_eq_true, decide_eq_true_eq, et]
            exact fun z => b43 z.2
          rw [if_neg hok2, if_neg hok2] at hQ
          refine P_aload0 X 47 dX9_close_46 rfl ?_
          refine P_ldc X kc_X9_218 49 dX9_close_47 rfl ?_
          refine V1r X 0 52 dX9_close_49 rfl lk_X9_145 mv_X9_finding rfl (by omega) (Nat.le_of_ble_eq_true rfl) (Nat.le_of_ble_eq_true rfl) rfl rfl (k_X9_finding (by omega)) ?_
          exact P_iret X hQ dX9_close_52 ⟨rfl, rfl⟩
    · have hok : ¬ okCl (h 0 10) t dv = true := by simp [okCl, b5, b12]
      rw [if_neg hok, if_neg hok] at hQ
      refine P_aload0 X 16 dX9_close_15 rfl ?_
      refine P_ldc X kc_X9_144 18 dX9_close_16 rfl ?_
      refine V1r X 0 21 dX9_close_18 rfl lk_X9_145 mv_X9_finding rfl (by omega) (Nat.le_of_ble_eq_true rfl) (Nat.le_of_ble_eq_true rfl) rfl rfl (k_X9_finding (by omega)) ?_
      exact P_iret X hQ dX9_close_21 ⟨rfl, rfl⟩
def okL2 (op lk : Nat → Int32) (t : Nat) : Bool := decide (op t = 0) && decide (lk t = 0)
def lkC (h : Hp) (c : Nat) (bb : Bool) : Hp := if bb then put h 41 c (h 41 c + 1) else put (put h 41 c (h 41 c + 1)) 42 c (h 42 c + 1)
def lkX (h : Hp) (t : Nat) (bb : Bool) : Hp := if bb then put (lkC h (tn (h 24 t)) bb) 25 t 1 else put (lkC h (tn (h 24 t)) bb) 21 t 1
def lkY (h : Hp) (t : Nat) (bb : Bool) : Hp := if bb then put (put h 19 (tn (h 13 t)) (h 19 (tn (h 13 t)) + 1)) 14 t 1 else put (put (put (put h 19 (tn (h 13 t)) (h 19 (tn (h 13 t)) + 1)) 14 t 1) 20 (tn (h 13 t)) (h 20 (tn (h 13 t)) + 1)) 10 t 1
set_option maxHeartbeats 4000000 in
set_option maxRecDepth 100000 in
theorem k_X5_countLook {d : Nat} {E : Ev} {c : Nat} {bb : Bool} {h : Hp} (hd : 0 ≤ d) (hc : c < 6) : Cl d yX5_countLook cX5_countLook 3 none E (wdX E) [.ref (E.2.2.1 8), .int (nI c), .int (bI bb)] h (Rt none (lkC h c bb)) := by
  refine Cl_of [some (.ref (E.2.2.1 8)), some (.int (nI c)), some (.int (bI bb))] (by decide) rfl (Nat.le_of_ble_eq_true rfl) (fun K A X hQ => ?_)
  refine P_aload0 X 1 dX5_countLook_0 rfl ?_
  refine gX_8_1 X 4 dX5_countLook_1 rfl fl_X5_15 ?_
  refine P_iload1 X 5 dX5_countLook_4 rfl ?_
  refine P_dup2 X rfl rfl 6 dX5_countLook_5 rfl ?_
  refine lX_41 X 7 dX5_countLook_6 rfl rfl (by omega) ?_
  refine P_iconst X (1) rfl 8 dX5_countLook_7 rfl ?_
  refine P_iadd X 9 dX5_countLook_8 rfl ?_
  refine sX_41 X 10 dX5_countLook_9 rfl rfl (by omega) ?_
  refine P_iload2 X 11 dX5_countLook_10 rfl ?_
  refine P_bn X 24 14 dX5_countLook_11 rfl rfl (fun b11 => ?_) (fun b11 => ?_)
  · exact P_ret X hQ dX5_countLook_24 ⟨rfl, by simp [lkC, b11]⟩
  · refine P_aload0 X 15 dX5_countLook_14 rfl ?_
    refine gX_8_2 X 18 dX5_countLook_15 rfl fl_X5_18 ?_
    refine P_iload1 X 19 dX5_countLook_18 rfl ?_
    refine P_dup2 X rfl rfl 20 dX5_countLook_19 rfl ?_
    refine lX_42 X 21 dX5_countLook_20 rfl rfl (by omega) ?_
    refine P_top (y := h 42 c) (by rw [put_n (by decide)]) ?_
    refine P_iconst X (1) rfl 22 dX5_countLook_21 rfl ?_
    refine P_iadd X 23 dX5_countLook_22 rfl ?_
    refine sX_42 X 24 dX5_countLook_23 rfl rfl (by omega) ?_
    exact P_ret X hQ dX5_countLook_24 ⟨rfl, by simp [lkC, b11]⟩
set_option maxHeartbeats 4000000 in
set_option maxRecDepth 100000 in
theorem k_X8_look {d : Nat} {E : Ev} {nT : Nat} {t : Int32} {bb : Bool} {h : Hp} (hd : 2 ≤ d) (hT : h 2 6 = nI nT) (hnT : nT ≤ 40) (hcl : Bd (h 24) 6) : Cl d yX8_look cX8_look 3 (some .int) E (wdX E) [.ref (E.2.2.1 0), .int t, .int (bI bb)] h (Rt (some (.int (if okT1 (h 2 6) t then (if okL2 (h 21) (h 25) (tn t) then 1 else -1000005) else -1000001))) (if okT1 (h 2 6) t then (if okL2 (h 21) (h 25) (tn t) then lkX h (tn t) bb else fiX h) else fiX h)) := by
  refine Cl_of [some (.ref (E.2.2.1 0)), some (.int t), some (.int (bI bb))] (by decide) rfl (Nat.le_of_ble_eq_true rfl) (fun K A X hQ => ?_)
  refine P_aload0 X 1 dX8_look_0 rfl ?_
  refine P_iload1 X 2 dX8_look_1 rfl ?_
  refine V1r X 0 5 dX8_look_2 rfl lk_X8_135 mv_X8_isThing rfl (by omega) (Nat.le_of_ble_eq_true rfl) (Nat.le_of_ble_eq_true rfl) rfl rfl (k_X8_isThing (by omega)) ?_
  refine P_bn X 15 8 dX8_look_5 rfl rfl (fun b5 => ?_) (fun b5 => ?_)
  · obtain ⟨t, ht0, rfl⟩ := inB_ix hT b5 hnT
    have ht : t < 40 := by omega
    have ht31 : tn (nI t) = t := nI_clamp (by omega)
    rw [ht31] at hQ
    have hok : okT1 (h 2 6) (nI t) = true := b5
    rw [if_pos hok, if_pos hok] at hQ
    refine P_aload0 X 16 dX8_look_15 rfl ?_
    refine gX_0_1 X 19 dX8_look_16 rfl fl_X8_19 ?_
    refine gX_2_1 X 22 dX8_look_19 rfl fl_X8_218 ?_
    refine P_iload1 X 23 dX8_look_22 rfl ?_
    refine lX_21 X 24 dX8_look_23 rfl rfl (by omega) ?_
    refine P_if_ne X 39 27 dX8_look_24 rfl rfl (fun b24 => ?_) (fun b24 => ?_)
    · have hok2 : ¬ okL2 (h 21) (h 25) t = true := by simp [okL2, b24]
      rw [if_neg hok2, if_neg hok2] at hQ
      refine P_aload0 X 40 dX8_look_39 rfl ?_
      refine P_ldc X kc_X8_222 42 dX8_look_40 rfl ?_
      refine V1r X 0 45 dX8_look_42 rfl lk_X8_91 mv_X8_finding rfl (by omega) (Nat.le_of_ble_eq_true rfl) (Nat.le_of_ble_eq_true rfl) rfl rfl (k_X8_finding (by omega)) ?_
      exact P_iret X hQ dX8_look_45 ⟨rfl, rfl⟩
    · refine P_aload0 X 28 dX8_look_27 rfl ?_
      refine gX_0_1 X 31 dX8_look_28 rfl fl_X8_19 ?_
      refine gX_2_5 X 34 dX8_look_31 rfl fl_X8_230 ?_
      refine P_iload1 X 35 dX8_look_34 rfl ?_
      refine lX_25 X 36 dX8_look_35 rfl rfl (by omega) ?_
      refine P_if_eq X 46 39 dX8_look_36 rfl rfl (fun b36 => ?_) (fun b36 => ?_)
      · have hok2 : okL2 (h 21) (h 25) t = true := by simp [okL2, b24, b36]
        rw [if_pos hok2, if_pos hok2] at hQ
        obtain ⟨c9, hc9, ec9⟩ := hcl t
        have ec : tn (h 24 t) = c9 := by rw [ec9]; exact nI_clamp (by omega)
        refine P_aload0 X 47 dX8_look_46 rfl ?_
        refine gX_0_7 X 50 dX8_look_47 rfl fl_X8_58 ?_
        refine P_aload0 X 51 dX8_look_50 rfl ?_
        refine gX_0_1 X 54 dX8_look_51 rfl fl_X8_19 ?_
        refine gX_2_4 X 57 dX8_look_54 rfl fl_X8_233 ?_
        refine P_iload1 X 58 dX8_look_57 rfl ?_
        refine lX_24 X 59 dX8_look_58 rfl rfl (by omega) ?_
        refine P_top ec9 ?_
        refine P_iload2 X 60 dX8_look_59 rfl ?_
        refine V2v X 8 63 dX8_look_60 rfl lk_X8_236 mv_X5_countLook rfl (by omega) (Nat.le_of_ble_eq_true rfl) (Nat.le_of_ble_eq_true rfl) rfl rfl (k_X5_countLook (by omega) hc9) ?_
        refine P_iload2 X 64 dX8_look_63 rfl ?_
        refine P_bz X 80 67 dX8_look_64 rfl rfl (fun b64 => ?_) (fun b64 => ?_)
        · refine P_aload0 X 81 dX8_look_80 rfl ?_
          refine gX_0_1 X 84 dX8_look_81 rfl fl_X8_19 ?_
          refine gX_2_1 X 87 dX8_look_84 rfl fl_X8_218 ?_
          refine P_iload1 X 88 dX8_look_87 rfl ?_
          refine P_iconst X (1) rfl 89 dX8_look_88 rfl ?_
          refine sX_21 X 90 dX8_look_89 rfl rfl (by omega) (Or.inr rfl) ?_
          refine P_iconst X (1) rfl 91 dX8_look_90 rfl ?_
          exact P_iret X hQ dX8_look_91 ⟨rfl, by simp [lkX, ec, b64]⟩
        · refine P_aload0 X 68 dX8_look_67 rfl ?_
          refine gX_0_1 X 71 dX8_look_68 rfl fl_X8_19 ?_
          refine gX_2_5 X 74 dX8_look_71 rfl fl_X8_230 ?_
          refine P_iload1 X 75 dX8_look_74 rfl ?_
          refine P_iconst X (1) rfl 76 dX8_look_75 rfl ?_
          refine sX_25 X 77 dX8_look_76 rfl rfl (by omega) (Or.inr rfl) ?_
          refine P_goto X 90 dX8_look_77 rfl ?_
          refine P_iconst X (1) rfl 91 dX8_look_90 rfl ?_
          exact P_iret X hQ dX8_look_91 ⟨rfl, by simp [lkX, ec, b64]⟩
      · have hok2 : ¬ okL2 (h 21) (h 25) t = true := by simp [okL2, b36]
        rw [if_neg hok2, if_neg hok2] at hQ
        refine P_aload0 X 40 dX8_look_39 rfl ?_
        refine P_ldc X kc_X8_222 42 dX8_look_40 rfl ?_
        refine V1r X 0 45 dX8_look_42 rfl lk_X8_91 mv_X8_finding rfl (by omega) (Nat.le_of_ble_eq_true rfl) (Nat.le_of_ble_eq_true rfl) rfl rfl (k_X8_finding (by omega)) ?_
        exact P_iret X hQ dX8_look_45 ⟨rfl, rfl⟩
  · have hok : ¬ okT1 (h 2 6) t = true := by rw [okT1, b5]; simp
    rw [if_neg hok, if_neg hok] at hQ
    refine P_aload0 X 9 dX8_look_8 rfl ?_
    refine P_ldc X kc_X8_90 11 dX8_look_9 rfl ?_
    refine V1r X 0 14 dX8_look_11 rfl lk_X8_91 mv_X8_finding rfl (by omega) (Nat.le_of_ble_eq_true rfl) (Nat.le_of_ble_eq_true rfl) rfl rfl (k_X8_finding (by omega)) ?_
    exact P_iret X hQ dX8_look_14 ⟨rfl, rfl⟩
set_option maxHeartbeats 4000000 in
set_option maxRecDepth 100000 in
theorem k_X9_look {d : Nat} {E : Ev} {nT : Nat} {t : Int32} {bb : Bool} {h : Hp} (hd : 2 ≤ d) (hT : h 0 10 = nI nT) (hnT : nT ≤ 40) (hcl : Bd (h 13) 6) : Cl d yX9_look cX9_look 3 (some .int) E (wdY E) [.ref (E.2.2.1 0), .int t, .int (bI bb)] h (Rt (some (.int (if okT1 (h 0 10) t then (if okL2 (h 10) (h 14) (tn t) then 1 else -1000005) else -1000001))) (if okT1 (h 0 10) t then (if okL2 (h 10) (h 14) (tn t) then lkY h (tn t) bb else fiY h) else fiY h)) := by
  refine Cl_of [some (.ref (E.2.2.1 0)), some (.int t), some (.int (bI bb))] (by decide) rfl (Nat.le_of_ble_eq_true rfl) (fun K A X hQ => ?_)
  refine P_aload0 X 1 dX9_look_0 rfl ?_
  refine P_iload1 X 2 dX9_look_1 rfl ?_
  refine V1r X 0 5 dX9_look_2 rfl lk_X9_164 mv_X9_isThing rfl (by omega) (Nat.le_of_ble_eq_true rfl) (Nat.le_of_ble_eq_true rfl) rfl rfl (k_X9_isThing (by omega)) ?_
  refine P_bn X 15 8 dX9_look_5 rfl rfl (fun b5 => ?_) (fun b5 => ?_)
  · obtain ⟨t, ht0, rfl⟩ := inB_ix hT b5 hnT
    have ht : t < 40 := by omega
    have ht31 : tn (nI t) = t := nI_clamp (by omega)
    rw [ht31] at hQ
    have hok : okT1 (h 0 10) (nI t) = true := b5
    rw [if_pos hok, if_pos hok] at hQ
    refine P_aload0 X 16 dX9_look_15 rfl ?_
    refine gY_0_12 X 19 dX9_look_16 rfl fl_X9_37 ?_
    refine P_iload1 X 20 dX9_look_19 rfl ?_
    refine lY_10 X 21 dX9_look_20 rfl rfl (by omega) ?_
    refine P_if_ne X 33 24 dX9_look_21 rfl rfl (fun b21 => ?_) (fun b21 => ?_)
    · have hok2 : ¬ okL2 (h 10) (h 14) t = true := by simp [okL2, b21]
      rw [if_neg hok2, if_neg hok2] at hQ
      refine P_aload0 X 34 dX9_look_33 rfl ?_
      refine P_ldc X kc_X9_218 36 dX9_look_34 rfl ?_
      refine V1r X 0 39 dX9_look_36 rfl lk_X9_145 mv_X9_finding rfl (by omega) (Nat.le_of_ble_eq_true rfl) (Nat.le_of_ble_eq_true rfl) rfl rfl (k_X9_finding (by omega)) ?_
      exact P_iret X hQ dX9_look_39 ⟨rfl, rfl⟩
    · refine P_aload0 X 25 dX9_look_24 rfl ?_
      refine gY_0_16 X 28 dX9_look_25 rfl fl_X9_50 ?_
      refine P_iload1 X 29 dX9_look_28 rfl ?_
      refine lY_14 X 30 dX9_look_29 rfl rfl (by omega) ?_
      refine P_if_eq X 40 33 dX9_look_30 rfl rfl (fun b30 => ?_) (fun b30 => ?_)
      · have hok2 : okL2 (h 10) (h 14) t = true := by simp [okL2, b21, b30]
        rw [if_pos hok2, if_pos hok2] at hQ
        obtain ⟨c9, hc9, ec9⟩ := hcl t
        have ec : tn (h 13 t) = c9 := by rw [ec9]; exact nI_clamp (by omega)
        refine P_aload0 X 41 dX9_look_40 rfl ?_
        refine gY_0_23 X 44 dX9_look_41 rfl fl_X9_65 ?_
        refine P_aload0 X 45 dX9_look_44 rfl ?_
        refine gY_0_15 X 48 dX9_look_45 rfl fl_X9_47 ?_
        refine P_iload1 X 49 dX9_look_48 rfl ?_
        refine lY_13 X 50 dX9_look_49 rfl rfl (by omega) ?_
        refine P_top ec9 ?_
        refine P_dup2 X rfl rfl 51 dX9_look_50 rfl ?_
        refine lY_19 X 52 dX9_look_51 rfl rfl (by omega) ?_
        refine P_iconst X (1) rfl 53 dX9_look_52 rfl ?_
        refine P_iadd X 54 dX9_look_53 rfl ?_
        refine sY_19 X 55 dX9_look_54 rfl rfl (by omega) ?_
        refine P_aload0 X 56 dX9_look_55 rfl ?_
        refine gY_0_16 X 59 dX9_look_56 rfl fl_X9_50 ?_
        refine P_iload1 X 60 dX9_look_59 rfl ?_
        refine P_iconst X (1) rfl 61 dX9_look_60 rfl ?_
        refine sY_14 X 62 dX9_look_61 rfl rfl (by omega) (Or.inr rfl) ?_
        refine P_iload2 X 63 dX9_look_62 rfl ?_
        refine P_bn X 88 66 dX9_look_63 rfl rfl (fun b63 => ?_) (fun b63 => ?_)
        · refine P_iconst X (1) rfl 89 dX9_look_88 rfl ?_
          exact P_iret X hQ dX9_look_89 ⟨rfl, by simp [lkY, ec, b63]⟩
        · refine P_aload0 X 67 dX9_look_66 rfl ?_
          refine gY_0_24 X 70 dX9_look_67 rfl fl_X9_68 ?_
          refine P_aload0 X 71 dX9_look_70 rfl ?_
          refine gY_0_15 X 74 dX9_look_71 rfl fl_X9_47 ?_
          refine P_iload1 X 75 dX9_look_74 rfl ?_
          refine lY_13 X 76 dX9_look_75 rfl rfl (by omega) ?_
          refine P_top (y := nI c9) (by simp [put, up2, ec9]) ?_
          refine P_dup2 X rfl rfl 77 dX9_look_76 rfl ?_
          refine lY_20 X 78 dX9_look_77 rfl rfl (by omega) ?_
          refine P_top (y := h 20 c9) (by simp [put, up2]) ?_
          refine P_iconst X (1) rfl 79 dX9_look_78 rfl ?_
          refine P_iadd X 80 dX9_look_79 rfl ?_
          refine sY_20 X 81 dX9_look_80 rfl rfl (by omega) ?_
          refine P_aload0 X 82 dX9_look_81 rfl ?_
          refine gY_0_12 X 85 dX9_look_82 rfl fl_X9_37 ?_
          refine P_iload1 X 86 dX9_look_85 rfl ?_
          refine P_iconst X (1) rfl 87 dX9_look_86 rfl ?_
          refine sY_10 X 88 dX9_look_87 rfl rfl (by omega) (Or.inr rfl) ?_
          refine P_iconst X (1) rfl 89 dX9_look_88 rfl ?_
          exact P_iret X hQ dX9_look_89 ⟨rfl, by simp [lkY, ec, b63]⟩
      · have hok2 : ¬ okL2 (h 10) (h 14) t = true := by simp [okL2, b30]
        rw [if_neg hok2, if_neg hok2] at hQ
        refine P_aload0 X 34 dX9_look_33 rfl ?_
        refine P_ldc X kc_X9_218 36 dX9_look_34 rfl ?_
        refine V1r X 0 39 dX9_look_36 rfl lk_X9_145 mv_X9_finding rfl (by omega) (Nat.le_of_ble_eq_true rfl) (Nat.le_of_ble_eq_true rfl) rfl rfl (k_X9_finding (by omega)) ?_
        exact P_iret X hQ dX9_look_39 ⟨rfl, rfl⟩
  · have hok : ¬ okT1 (h 0 10) t = true := by rw [okT1, b5]; simp
    rw [if_neg hok, if_neg hok] at hQ
    refine P_aload0 X 9 dX9_look_8 rfl ?_
    refine P_ldc X kc_X9_144 11 dX9_look_9 rfl ?_
    refine V1r X 0 14 dX9_look_11 rfl lk_X9_145 mv_X9_finding rfl (by omega) (Nat.le_of_ble_eq_true rfl) (Nat.le_of_ble_eq_true rfl) rfl rfl (k_X9_finding (by omega)) ?_
    exact P_iret X hQ dX9_look_14 ⟨rfl, rfl⟩
def dt3 (cl lk fl : Nat → Int32) (a : Nat) (w : Int32) : Int32 := if w = 0 then cl a else if w = 1 then lk a else if w = 2 then fl a else fl a + cl a - lk a
def okCg (a w : Int32) : Bool := inB a 0 5 && inB w 0 3
set_option maxHeartbeats 4000000 in
set_option maxRecDepth 100000 in
theorem k_X5_detail {d : Nat} {E : Ev} {a j9 : Nat} {h : Hp} (hd : 0 ≤ d) (ha : a < 6) (hj9 : j9 < 4) : Cl d yX5_detail cX5_detail 3 (some .int) E (wdX E) [.ref (E.2.2.1 8), .int (nI a), .int (nI j9)] h (Rt (some (.int (dt3 (h 40) (h 41) (h 42) a (nI j9)))) h) := by
  refine Cl_of [some (.ref (E.2.2.1 8)), some (.int (nI a)), some (.int (nI j9))] (by decide) rfl (Nat.le_of_ble_eq_true rfl) (fun K A X hQ => ?_)
  refine P_iload2 X 1 dX5_detail_0 rfl ?_
  rcases (show j9 = 0 ∨ j9 = 1 ∨ j9 = 2 ∨ j9 = 3 by omega) with rfl | rfl | rfl | rfl
  · refine P_tblIn X 28 dX5_detail_1 (by decide) (by decide) rfl rfl ?_
    refine P_aload0 X 29 dX5_detail_28 rfl ?_
    refine gX_8_0 X 32 dX5_detail_29 rfl fl_X5_9 ?_
    refine P_iload1 X 33 dX5_detail_32 rfl ?_
    refine lX_40 X 34 dX5_detail_33 rfl rfl (by omega) ?_
    exact P_iret X hQ dX5_detail_34 (rti rfl)
  · refine P_tblIn X 35 dX5_detail_1 (by decide) (by decide) rfl rfl ?_
    refine P_aload0 X 36 dX5_detail_35 rfl ?_
    refine gX_8_1 X 39 dX5_detail_36 rfl fl_X5_15 ?_
    refine P_iload1 X 40 dX5_detail_39 rfl ?_
    refine lX_41 X 41 dX5_detail_40 rfl rfl (by omega) ?_
    exact P_iret X hQ dX5_detail_41 (rti rfl)
  · refine P_tblIn X 42 dX5_detail_1 (by decide) (by decide) rfl rfl ?_
    refine P_aload0 X 43 dX5_detail_42 rfl ?_
    refine gX_8_2 X 46 dX5_detail_43 rfl fl_X5_18 ?_
    refine P_iload1 X 47 dX5_detail_46 rfl ?_
    refine lX_42 X 48 dX5_detail_47 rfl rfl (by omega) ?_
    exact P_iret X hQ dX5_detail_48 (rti rfl)
  · refine P_tblOut X 49 dX5_detail_1 (Or.inr (by decide)) rfl ?_
    refine P_aload0 X 50 dX5_detail_49 rfl ?_
    refine gX_8_2 X 53 dX5_detail_50 rfl fl_X5_18 ?_
    refine P_iload1 X 54 dX5_detail_53 rfl ?_
    refine lX_42 X 55 dX5_detail_54 rfl rfl (by omega) ?_
    refine P_aload0 X 56 dX5_detail_55 rfl ?_
    refine gX_8_0 X 59 dX5_detail_56 rfl fl_X5_9 ?_
    refine P_iload1 X 60 dX5_detail_59 rfl ?_
    refine lX_40 X 61 dX5_detail_60 rfl rfl (by omega) ?_
    refine P_iadd X 62 dX5_detail_61 rfl ?_
    refine P_aload0 X 63 dX5_detail_62 rfl ?_
    refine gX_8_1 X 66 dX5_detail_63 rfl fl_X5_15 ?_
    refine P_iload1 X 67 dX5_detail_66 rfl ?_
    refine lX_41 X 68 dX5_detail_67 rfl rfl (by omega) ?_
    refine P_isub X 69 dX5_detail_68 rfl ?_
    exact P_iret X hQ dX5_detail_69 (rti rfl)
set_option maxHeartbeats 4000000 in
set_option maxRecDepth 100000 in
theorem k_X8_closings {d : Nat} {E : Ev} {a w : Int32} {h : Hp} (hd : 2 ≤ d)  : Cl d yX8_closings cX8_closings 3 (some .int) E (wdX E) [.ref (E.2.2.1 0), .int a, .int w] h (Rt (some (.int (if okCg a w then dt3 (h 40) (h 41) (h 42) (tn a) w else -1000001))) (if okCg a w then h else fiX h)) := by
  refine Cl_of [some (.ref (E.2.2.1 0)), some (.int a), some (.int w)] (by decide) rfl (Nat.le_of_ble_eq_true rfl) (fun K A X hQ => ?_)
  refine P_iload1 X 1 dX8_closings_0 rfl ?_
  refine P_iconst X (0) rfl 2 dX8_closings_1 rfl ?_
  refine P_iconst X (5) rfl 3 dX8_closings_2 rfl ?_
  refine S3r X 6 dX8_closings_3 rfl lk_X8_79 ms_X8_within rfl (by omega) (Nat.le_of_ble_eq_true rfl) (k_X8_within (by omega)) ?_
  refine P_bz X 18 9 dX8_closings_6 rfl rfl (fun b6 => ?_) (fun b6 => ?_)
  · refine P_aload0 X 19 dX8_closings_18 rfl ?_
    refine P_ldc X kc_X8_90 21 dX8_closings_19 rfl ?_
    refine V1r X 0 24 dX8_closings_21 rfl lk_X8_91 mv_X8_finding rfl (by omega) (Nat.le_of_ble_eq_true rfl) (Nat.le_of_ble_eq_true rfl) rfl rfl (k_X8_finding (by omega)) ?_
    exact P_iret X hQ dX8_closings_24 ⟨by simp [okCg, b6], by simp [okCg, b6, fiX]⟩
  · refine P_iload2 X 10 dX8_closings_9 rfl ?_
    refine P_iconst X (0) rfl 11 dX8_closings_10 rfl ?_
    refine P_iconst X (3) rfl 12 dX8_closings_11 rfl ?_
    refine S3r X 15 dX8_closings_12 rfl lk_X8_79 ms_X8_within rfl (by omega) (Nat.le_of_ble_eq_true rfl) (k_X8_within (by omega)) ?_
    refine P_bn X 25 18 dX8_closings_15 rfl rfl (fun b15 => ?_) (fun b15 => ?_)
    · obtain ⟨a, ha, rfl⟩ := inB_ex 5 b6
      have ha31 : tn (nI a) = a := nI_clamp (by omega)
      obtain ⟨j9, hj9, rfl⟩ := inB_ex 3 b15
      refine P_aload0 X 26 dX8_closings_25 rfl ?_
      refine gX_0_7 X 29 dX8_closings_26 rfl fl_X8_58 ?_
      refine P_iload1 X 30 dX8_closings_29 rfl ?_
      refine P_iload2 X 31 dX8_closings_30 rfl ?_
      refine V2r X 8 34 dX8_closings_31 rfl lk_X8_240 mv_X5_detail rfl (by omega) (Nat.le_of_ble_eq_true rfl) (Nat.le_of_ble_eq_true rfl) rfl rfl (k_X5_detail (by omega) ha hj9) ?_
      exact P_iret X hQ dX8_closings_34 ⟨by rw [if_pos (by simp [okCg, b6, b15]), ha31], by rw [if_pos (by simp [okCg, b6, b15])]⟩
    · refine P_aload0 X 19 dX8_closings_18 rfl ?_
      refine P_ldc X kc_X8_90 21 dX8_closings_19 rfl ?_
      refine V1r X 0 24 dX8_closings_21 rfl lk_X8_91 mv_X8_finding rfl (by omega) (Nat.le_of_ble_eq_true rfl) (Nat.le_of_ble_eq_true rfl) rfl rfl (k_X8_finding (by omega)) ?_
      exact P_iret X hQ dX8_closings_24 ⟨by simp [okCg, b6, b15], by simp [okCg, b6, b15, fiX]⟩
set_option maxHeartbeats 4000000 in
set_option maxRecDepth 100000 in
theorem k_X9_closings {d : Nat} {E : Ev} {a w : Int32} {h : Hp} (hd : 2 ≤ d)  : Cl d yX9_closings cX9_closings 3 (some .int) E (wdY E) [.ref (E.2.2.1 0), .int a, .int w] h (Rt (some (.int (if okCg a w then dt3 (h 18) (h 19) (h 20) (tn a) w else -1000001))) (if okCg a w then h else fiY h)) := by
  refine Cl_of [some (.ref (E.2.2.1 0)), some (.int a), some (.int w)] (by decide) rfl (Nat.le_of_ble_eq_true rfl) (fun K A X hQ => ?_)
  refine P_iload1 X 1 dX9_closings_0 rfl ?_
  refine P_iconst X (0) rfl 2 dX9_closings_1 rfl ?_
  refine P_iconst X (5) rfl 3 dX9_closings_2 rfl ?_
  refine S3r X 6 dX9_closings_3 rfl lk_X9_111 ms_X9_in rfl (by omega) (Nat.le_of_ble_eq_true rfl) (k_X9_in (by omega)) ?_
  refine P_bz X 18 9 dX9_closings_6 rfl rfl (fun b6 => ?_) (fun b6 => ?_)
  · refine P_aload0 X 19 dX9_closings_18 rfl ?_
    refine P_ldc X kc_X9_144 21 dX9_closings_19 rfl ?_
    refine V1r X 0 24 dX9_closings_21 rfl lk_X9_145 mv_X9_finding rfl (by omega) (Nat.le_of_ble_eq_true rfl) (Nat.le_of_ble_eq_true rfl) rfl rfl (k_X9_finding (by omega)) ?_
    exact P_iret X hQ dX9_closings_24 ⟨by simp [okCg, b6], by simp [okCg, b6, fiY]⟩
  · refine P_iload2 X 10 dX9_closings_9 rfl ?_
    refine P_iconst X (0) rfl 11 dX9_closings_10 rfl ?_
    refine P_iconst X (3) rfl 12 dX9_closings_11 rfl ?_
    refine S3r X 15 dX9_closings_12 rfl lk_X9_111 ms_X9_in rfl (by omega) (Nat.le_of_ble_eq_true rfl) (k_X9_in (by omega)) ?_
    refine P_bn X 25 18 dX9_closings_15 rfl rfl (fun b15 => ?_) (fun b15 => ?_)
    · obtain ⟨a, ha, rfl⟩ := inB_ex 5 b6
      have ha31 : tn (nI a) = a := nI_clamp (by omega)
      obtain ⟨j9, hj9, rfl⟩ := inB_ex 3 b15
      refine P_iload2 X 26 dX9_closings_25 rfl ?_
      refine P_if_ne X 38 29 dX9_closings_26 rfl rfl (fun b26 => ?_) (fun b26 => ?_)
      · refine P_iload2 X 39 dX9_closings_38 rfl ?_
        refine P_iconst X (1) rfl 40 dX9_closings_39 rfl ?_
        refine P_icmp_ne X 52 43 dX9_closings_40 rfl rfl (fun b40 => ?_) (fun b40 => ?_)
        · refine P_iload2 X 53 dX9_closings_52 rfl ?_
          refine P_iconst X (2) rfl 54 dX9_closings_53 rfl ?_
          refine P_icmp_ne X 66 57 dX9_closings_54 rfl rfl (fun b54 => ?_) (fun b54 => ?_)
          · refine P_aload0 X 67 dX9_closings_66 rfl ?_
            refine gY_0_24 X 70 dX9_closings_67 rfl fl_X9_68 ?_
            refine P_iload1 X 71 dX9_closings_70 rfl ?_
            refine lY_20 X 72 dX9_closings_71 rfl rfl (by omega) ?_
            refine P_aload0 X 73 dX9_closings_72 rfl ?_
            refine gY_0_22 X 76 dX9_closings_73 rfl fl_X9_62 ?_
            refine P_iload1 X 77 dX9_closings_76 rfl ?_
            refine lY_18 X 78 dX9_closings_77 rfl rfl (by omega) ?_
            refine P_iadd X 79 dX9_closings_78 rfl ?_
            refine P_aload0 X 80 dX9_closings_79 rfl ?_
            refine gY_0_23 X 83 dX9_closings_80 rfl fl_X9_65 ?_
            refine P_iload1 X 84 dX9_closings_83 rfl ?_
            refine lY_19 X 85 dX9_closings_84 rfl rfl (by omega) ?_
            refine P_isub X 86 dX9_closings_85 rfl ?_
            exact P_iret X hQ dX9_closings_86 ⟨by rw [if_pos (by simp [okCg, b6, b15]), ha31]; simp [dt3, b26, b40, b54], by rw [if_pos (by simp [okCg, b6, b15])]⟩
          · refine P_aload0 X 58 dX9_closings_57 rfl ?_
            refine gY_0_24 X 61 dX9_closings_58 rfl fl_X9_68 ?_
            refine P_iload1 X 62 dX9_closings_61 rfl ?_
            refine lY_20 X 63 dX9_closings_62 rfl rfl (by omega) ?_
            refine P_goto X 86 dX9_closings_63 rfl ?_
            exact P_iret X hQ dX9_closings_86 ⟨by rw [if_pos (by simp [okCg, b6, b15]), ha31]; simp [dt3, b26, b40, b54], by rw [if_pos (by simp [okCg, b6, b15])]⟩
        · refine P_aload0 X 44 dX9_closings_43 rfl ?_
          refine gY_0_23 X 47 dX9_closings_44 rfl fl_X9_65 ?_
          refine P_iload1 X 48 dX9_closings_47 rfl ?_
          refine lY_19 X 49 dX9_closings_48 rfl rfl (by omega) ?_
          refine P_goto X 86 dX9_closings_49 rfl ?_
          exact P_iret X hQ dX9_closings_86 ⟨by rw [if_pos (by simp [okCg, b6, b15]), ha31]; simp [dt3, b26, b40], by rw [if_pos (by simp [okCg, b6, b15])]⟩
      · refine P_aload0 X 30 dX9_closings_29 rfl ?_
        refine gY_0_22 X 33 dX9_closings_30 rfl fl_X9_62 ?_
        refine P_iload1 X 34 dX9_closings_33 rfl ?_
        refine lY_18 X 35 dX9_closings_34 rfl rfl (by omega) ?_
        refine P_goto X 86 dX9_closings_35 rfl ?_
        exact P_iret X hQ dX9_closings_86 ⟨by rw [if_pos (by simp [okCg, b6, b15]), ha31]; simp [dt3, b26], by rw [if_pos (by simp [okCg, b6, b15])]⟩
    · refine P_aload0 X 19 dX9_closings_18 rfl ?_
      refine P_ldc X kc_X9_144 21 dX9_closings_19 rfl ?_
      refine V1r X 0 24 dX9_closings_21 rfl lk_X9_145 mv_X9_finding rfl (by omega) (Nat.le_of_ble_eq_true rfl) (Nat.le_of_ble_eq_true rfl) rfl rfl (k_X9_finding (by omega)) ?_
      exact P_iret X hQ dX9_closings_24 ⟨by simp [okCg, b6, b15], by simp [okCg, b6, b15, fiY]⟩
def okWk (a x y : Int32) : Bool := inB a 0 3 && inB x 0 1000 && inB y 0 x
set_option maxHeartbeats 4000000 in
set_option maxRecDepth 100000 in
theorem k_X8_walk {d : Nat} {E : Ev} {a x y : Int32} {h : Hp} (hd : 2 ≤ d)  : Cl d yX8_walk cX8_walk 4 (some .int) E (wdX E) [.ref (E.2.2.1 0), .int a, .int x, .int y] h (Rt (some (.int (if okWk a x y then 1 else -1000001))) (if okWk a x y then put (put h 9 (tn a) x) 10 (tn a) y else fiX h)) := by
  refine Cl_of [some (.ref (E.2.2.1 0)), some (.int a), some (.int x), some (.int y)] (by decide) rfl (Nat.le_of_ble_eq_true rfl) (fun K A X hQ => ?_)
  refine P_iload1 X 1 dX8_walk_0 rfl ?_
  refine S1r X 4 dX8_walk_1 rfl lk_X8_241 ms_X8_isQuarter rfl (by omega) (Nat.le_of_ble_eq_true rfl) (k_X8_isQuarter (by omega)) ?_
  refine P_bz X 27 7 dX8_walk_4 rfl rfl (fun b4 => ?_) (fun b4 => ?_)
  · refine P_aload0 X 28 dX8_walk_27 rfl ?_
    refine P_ldc X kc_X8_90 30 dX8_walk_28 rfl ?_
    refine V1r X 0 33 dX8_walk_30 rfl lk_X8_91 mv_X8_finding rfl (by omega) (Nat.le_of_ble_eq_true rfl) (Nat.le_of_ble_eq_true rfl) rfl rfl (k_X8_finding (by omega)) ?_
    exact P_iret X hQ dX8_walk_33 ⟨by simp [okWk, b4], by simp [okWk, b4, fiX]⟩
  · refine P_iload2 X 8 dX8_walk_7 rfl ?_
    refine P_iconst X (0) rfl 9 dX8_walk_8 rfl ?_
    refine P_sipush X (1000) rfl 12 dX8_walk_9 rfl ?_
    refine S3r X 15 dX8_walk_12 rfl lk_X8_79 ms_X8_within rfl (by omega) (Nat.le_of_ble_eq_true rfl) (k_X8_within (by omega)) ?_
    refine P_bz X 27 18 dX8_walk_15 rfl rfl (fun b15 => ?_) (fun b15 => ?_)
    · refine P_aload0 X 28 dX8_walk_27 rfl ?_
      refine P_ldc X kc_X8_90 30 dX8_walk_28 rfl ?_
      refine V1r X 0 33 dX8_walk_30 rfl lk_X8_91 mv_X8_finding rfl (by omega) (Nat.le_of_ble_eq_true rfl) (Nat.le_of_ble_eq_true rfl) rfl rfl (k_X8_finding (by omega)) ?_
      exact P_iret X hQ dX8_walk_33 ⟨by simp [okWk, b4, b15], by simp [okWk, b4, b15, fiX]⟩
    · refine P_iload3 X 19 dX8_walk_18 rfl ?_
      refine P_iconst X (0) rfl 20 dX8_walk_19 rfl ?_
      refine P_iload2 X 21 dX8_walk_20 rfl ?_
      refine S3r X 24 dX8_walk_21 rfl lk_X8_79 ms_X8_within rfl (by omega) (Nat.le_of_ble_eq_true rfl) (k_X8_within (by omega)) ?_
      refine P_bn X 34 27 dX8_walk_24 rfl rfl (fun b24 => ?_) (fun b24 => ?_)
      · obtain ⟨a, ha, rfl⟩ := inB_ex 3 b4
        have ha31 : tn (nI a) = a := nI_clamp (by omega)
        refine P_aload0 X 35 dX8_walk_34 rfl ?_
        refine gX_0_8 X 38 dX8_walk_35 rfl fl_X8_62 ?_
        refine P_iload1 X 39 dX8_walk_38 rfl ?_
        refine P_iload2 X 40 dX8_walk_39 rfl ?_
        refine sX_9 X 41 dX8_walk_40 rfl rfl (by omega) ?_
        refine P_aload0 X 42 dX8_walk_41 rfl ?_
        refine gX_0_9 X 45 dX8_walk_42 rfl fl_X8_65 ?_
        refine P_iload1 X 46 dX8_walk_45 rfl ?_
        refine P_iload3 X 47 dX8_walk_46 rfl ?_
        refine sX_10 X 48 dX8_walk_47 rfl rfl (by omega) ?_
        refine P_iconst X (1) rfl 49 dX8_walk_48 rfl ?_
        exact P_iret X hQ dX8_walk_49 ⟨by simp [okWk, b4, b15, b24], by rw [if_pos (by simp [okWk, b4, b15, b24]), ha31]⟩
      · refine P_aload0 X 28 dX8_walk_27 rfl ?_
        refine P_ldc X kc_X8_90 30 dX8_walk_28 rfl ?_
        refine V1r X 0 33 dX8_walk_30 rfl lk_X8_91 mv_X8_finding rfl (by omega) (Nat.le_of_ble_eq_true rfl) (Nat.le_of_ble_eq_true rfl) rfl rfl (k_X8_finding (by omega)) ?_
        exact P_iret X hQ dX8_walk_33 ⟨by simp [okWk, b4, b15, b24], by simp [okWk, b4, b15, b24, fiX]⟩
set_option maxHeartbeats 4000000 in
set_option maxRecDepth 100000 in
theorem k_X9_walk {d : Nat} {E : Ev} {a x y : Int32} {h : Hp} (hd : 2 ≤ d)  : Cl d yX9_walk cX9_walk 4 (some .int) E (wdY E) [.ref (E.2.2.1 0), .int a, .int x, .int y] h (Rt (some (.int (if okWk a x y then 1 else -1000001))) (if okWk a x y then put (put h 21 (tn a) x) 22 (tn a) y else fiY h)) := by
  refine Cl_of [some (.ref (E.2.2.1 0)), some (.int a), some (.int x), some (.int y)] (by decide) rfl (Nat.le_of_ble_eq_true rfl) (fun K A X hQ => ?_)
  refine P_iload1 X 1 dX9_walk_0 rfl ?_
  refine P_iconst X (0) rfl 2 dX9_walk_1 rfl ?_
  refine P_iconst X (3) rfl 3 dX9_walk_2 rfl ?_
  refine S3r X 6 dX9_walk_3 rfl lk_X9_111 ms_X9_in rfl (by omega) (Nat.le_of_ble_eq_true rfl) (k_X9_in (by omega)) ?_
  refine P_bz X 29 9 dX9_walk_6 rfl rfl (fun b6 => ?_) (fun b6 => ?_)
  · refine P_aload0 X 30 dX9_walk_29 rfl ?_
    refine P_ldc X kc_X9_144 32 dX9_walk_30 rfl ?_
    refine V1r X 0 35 dX9_walk_32 rfl lk_X9_145 mv_X9_finding rfl (by omega) (Nat.le_of_ble_eq_true rfl) (Nat.le_of_ble_eq_true rfl) rfl rfl (k_X9_finding (by omega)) ?_
    exact P_iret X hQ dX9_walk_35 ⟨by simp [okWk, b6], by simp [okWk, b6, fiY]⟩
  · refine P_iload2 X 10 dX9_walk_9 rfl ?_
    refine P_iconst X (0) rfl 11 dX9_walk_10 rfl ?_
    refine P_sipush X (1000) rfl 14 dX9_walk_11 rfl ?_
    refine S3r X 17 dX9_walk_14 rfl lk_X9_111 ms_X9_in rfl (by omega) (Nat.le_of_ble_eq_true rfl) (k_X9_in (by omega)) ?_
    refine P_bz X 29 20 dX9_walk_17 rfl rfl (fun b17 => ?_) (fun b17 => ?_)
    · refine P_aload0 X 30 dX9_walk_29 rfl ?_
      refine P_ldc X kc_X9_144 32 dX9_walk_30 rfl ?_
      refine V1r X 0 35 dX9_walk_32 rfl lk_X9_145 mv_X9_finding rfl (by omega) (Nat.le_of_ble_eq_true rfl) (Nat.le_of_ble_eq_true rfl) rfl rfl (k_X9_finding (by omega)) ?_
      exact P_iret X hQ dX9_walk_35 ⟨by simp [okWk, b6, b17], by simp [okWk, b6, b17, fiY]⟩
    · refine P_iload3 X 21 dX9_walk_20 rfl ?_
      refine P_iconst X (0) rfl 22 dX9_walk_21 rfl ?_
      refine P_iload2 X 23 dX9_walk_22 rfl ?_
      refine S3r X 26 dX9_walk_23 rfl lk_X9_111 ms_X9_in rfl (by omega) (Nat.le_of_ble_eq_true rfl) (k_X9_in (by omega)) ?_
      refine P_bn X 36 29 dX9_walk_26 rfl rfl (fun b26 => ?_) (fun b26 => ?_)
      · obtain ⟨a, ha, rfl⟩ := inB_ex 3 b6
        have ha31 : tn (nI a) = a := nI_clamp (by omega)
        refine P_aload0 X 37 dX9_walk_36 rfl ?_
        refine gY_0_25 X 40 dX9_walk_37 rfl fl_X9_71 ?_
        refine P_iload1 X 41 dX9_walk_40 rfl ?_
        refine P_iload2 X 42 dX9_walk_41 rfl ?_
        refine sY_21 X 43 dX9_walk_42 rfl rfl (by omega) ?_
        refine P_aload0 X 44 dX9_walk_43 rfl ?_
        refine gY_0_26 X 47 dX9_walk_44 rfl fl_X9_74 ?_
        refine P_iload1 X 48 dX9_walk_47 rfl ?_
        refine P_iload3 X 49 dX9_walk_48 rfl ?_
        refine sY_22 X 50 dX9_walk_49 rfl rfl (by omega) ?_
        refine P_iconst X (1) rfl 51 dX9_walk_50 rfl ?_
        exact P_iret X hQ dX9_walk_51 ⟨by simp [okWk, b6, b17, b26], by rw [if_pos (by simp [okWk, b6, b17, b26]), ha31]⟩
      · refine P_aload0 X 30 dX9_walk_29 rfl ?_
        refine P_ldc X kc_X9_144 32 dX9_walk_30 rfl ?_
        refine V1r X 0 35 dX9_walk_32 rfl lk_X9_145 mv_X9_finding rfl (by omega) (Nat.le_of_ble_eq_true rfl) (Nat.le_of_ble_eq_true rfl) rfl rfl (k_X9_finding (by omega)) ?_
        exact P_iret X hQ dX9_walk_35 ⟨by simp [okWk, b6, b17, b26], by simp [okWk, b6, b17, b26, fiY]⟩
def inQ (fa xs ys : Nat → Int32) (q : Int32) (t : Nat) : Bool := decide (qtr (xs (tn (fa t))) (ys (tn (fa t))) = q)
def pA (fa xs ys op : Nat → Int32) (q : Int32) (ca : Bool) : Nat → Bool := fun t => inQ fa xs ys q t && !(ca && !decide (op t = 0))
def ahF (sn ak : Nat → Int32) (q : Nat) : Int32 := if sn q = 0 then 100 else ak q * 100 / sn q
def dt4 (fa xs ys op sn ak : Nat → Int32) (nT nA q : Nat) (w : Int32) : Int32 := if w = 0 then nI (cnt (pA fa xs ys op (nI q) false) nT) else if w = 1 then nI (cnt (fun o => decide (qtr (xs o) (ys o) = nI q)) nA) else if w = 2 then nI (cnt (pA fa xs ys op (nI q) true) nT) else if w = 3 then ahF sn ak q else if ahF sn ak q = 0 then -1000004 else nI (cnt (pA fa xs ys op (nI q) false) nT) * 100 / ahF sn ak q
def okQu (a w : Int32) : Bool := inB a 0 3 && inB w 0 4
set_option maxHeartbeats 4000000 in
set_option maxRecDepth 100000 in
theorem k_X8_thingsIn {d : Nat} {E : Ev} {n : Nat} {qv : Int32} {ca : Bool} {h : Hp} (hd : 3 ≤ d) (hc : h 2 6 = nI n) (hn : n ≤ 40) (hfa : Bd (h 20) 40) : Cl d yX8_thingsIn cX8_thingsIn 5 (some .int) E (wdX E) [.ref (E.2.2.1 0), .int qv, .int (bI ca)] h (Rt (some (.int (nI (cnt (pA (h 20) (h 13) (h 14) (h 21) qv ca) n)))) h) := by
  refine Cl_of [some (.ref (E.2.2.1 0)), some (.int qv), some (.int (bI ca)), none, none] (by decide) rfl (Nat.le_of_ble_eq_true rfl) (fun K A X hQ => ?_)
  have L : ∀ (m i : Nat) , i + m = n → GW K 5 E (wdX E) A 5 [some (.ref (E.2.2.1 0)), some (.int qv), some (.int (bI ca)), some (.int (nI (cnt (pA (h 20) (h 13) (h 14) (h 21) qv ca) i))), some (.int (nI i))] [] h := by
    intro m
    induction m with
    | zero =>
      intro i  hm 
      refine P_iload4 X 7 dX8_thingsIn_5 rfl ?_
      refine P_aload0 X 8 dX8_thingsIn_7 rfl ?_
      refine gX_0_1 X 11 dX8_thingsIn_8 rfl fl_X8_19 ?_
      refine gX_2_6 X 14 dX8_thingsIn_11 rfl fl_X8_292 ?_
      refine P_icmp_ge X 53 17 dX8_thingsIn_14 rfl rfl (fun b14 => ?_) (fun b14 => ?_)
      · obtain rfl : i = n := by omega
        refine P_iload3 X 54 dX8_thingsIn_53 rfl ?_
        exact P_iret X hQ dX8_thingsIn_54 ⟨rfl, rfl⟩
      · exact (geN hc b14 (by omega) (by omega)).elim
    | succ m ih =>
      intro i  hm 
      refine P_iload4 X 7 dX8_thingsIn_5 rfl ?_
      refine P_aload0 X 8 dX8_thingsIn_7 rfl ?_
      refine gX_0_1 X 11 dX8_thingsIn_8 rfl fl_X8_19 ?_
      refine gX_2_6 X 14 dX8_thingsIn_11 rfl fl_X8_292 ?_
      refine P_icmp_ge X 53 17 dX8_thingsIn_14 rfl rfl (fun b14 => ?_) (fun b14 => ?_)
      · exact (geY hc b14 (by omega) (by omega)).elim
      · refine P_aload0 X 18 dX8_thingsIn_17 rfl ?_
        refine P_iload4 X 20 dX8_thingsIn_18 rfl ?_
        refine V1r X 0 23 dX8_thingsIn_20 rfl lk_X8_182 mv_X8_quarterOfThing rfl (by omega) (Nat.le_of_ble_eq_true rfl) (Nat.le_of_ble_eq_true rfl) rfl rfl (k_X8_quarterOfThing (by omega) (by omega) hfa) ?_
        refine P_iload1 X 24 dX8_thingsIn_23 rfl ?_
        refine P_icmp_ne X 47 27 dX8_thingsIn_24 rfl rfl (fun b24 => ?_) (fun b24 => ?_)
        · refine P_iinc4 X (1) rfl 50 dX8_thingsIn_47 rfl (by decide) rfl ?_
          refine P_goto X 5 dX8_thingsIn_50 rfl ?_
          have ec := cnt_n (p := (pA (h 20) (h 13) (h 14) (h 21) qv ca)) (n := i) (by simp [pA, inQ, b24])
          rw [ec, nI_1]
          exact ih (i + 1) (by omega)
        · refine P_iload2 X 28 dX8_thingsIn_27 rfl ?_
          refine P_bz X 44 31 dX8_thingsIn_28 rfl rfl (fun b28 => ?_) (fun b28 => ?_)
          · refine P_iinc3 X (1) rfl 47 dX8_thingsIn_44 rfl (by decide) rfl ?_
            refine P_iinc4 X (1) rfl 50 dX8_thingsIn_47 rfl (by decide) rfl ?_
            refine P_goto X 5 dX8_thingsIn_50 rfl ?_
            have ec := cnt_y (p := (pA (h 20) (h 13) (h 14) (h 21) qv ca)) (n := i) (by simp [pA, inQ, b24, b28])
            rw [ec, nI_1]
            exact ih (i + 1) (by omega)
          · refine P_aload0 X 32 dX8_thingsIn_31 rfl ?_
            refine gX_0_1 X 35 dX8_thingsIn_32 rfl fl_X8_19 ?_
            refine gX_2_1 X 38 dX8_thingsIn_35 rfl fl_X8_218 ?_
            refine P_iload4 X 40 dX8_thingsIn_38 rfl ?_
            refine lX_21 X 41 dX8_thingsIn_40 rfl rfl (by omega) ?_
            refine P_if_ne X 47 44 dX8_thingsIn_41 rfl rfl (fun b41 => ?_) (fun b41 => ?_)
            · refine P_iinc4 X (1) rfl 50 dX8_thingsIn_47 rfl (by decide) rfl ?_
              refine P_goto X 5 dX8_thingsIn_50 rfl ?_
              have ec := cnt_n (p := (pA (h 20) (h 13) (h 14) (h 21) qv ca)) (n := i) (by simp [pA, inQ, b24, b28, b41])
              rw [ec, nI_1]
              exact ih (i + 1) (by omega)
            · refine P_iinc3 X (1) rfl 47 dX8_thingsIn_44 rfl (by decide) rfl ?_
              refine P_iinc4 X (1) rfl 50 dX8_thingsIn_47 rfl (by decide) rfl ?_
              refine P_goto X 5 dX8_thingsIn_50 rfl ?_
              have ec := cnt_y (p := (pA (h 20) (h 13) (h 14) (h 21) qv ca)) (n := i) (by simp [pA, inQ, b24, b28, b41])
              rw [ec, nI_1]
              exact ih (i + 1) (by omega)
  refine P_iconst X (0) rfl 1 dX8_thingsIn_0 rfl ?_
  refine P_istore3 X 2 dX8_thingsIn_1 rfl (by decide) rfl ?_
  refine P_iconst X (0) rfl 3 dX8_thingsIn_2 rfl ?_
  refine P_istore4 X 5 dX8_thingsIn_3 rfl (by decide) rfl ?_
  exact L n 0 (by omega)
set_option maxHeartbeats 4000000 in
set_option maxRecDepth 100000 in
theorem k_X8_askedOfHundred {d : Nat} {E : Ev} {q : Nat} {h : Hp} (hd : 0 ≤ d) (hq : q < 4) : Cl d yX8_askedOfHundred cX8_askedOfHundred 3 (some .int) E (wdX E) [.ref (E.2.2.1 0), .int (nI q)] h (Rt (some (.int (ahF (h 9) (h 10) q))) h) := by
  refine Cl_of [some (.ref (E.2.2.1 0)), some (.int (nI q)), none] (by decide) rfl (Nat.le_of_ble_eq_true rfl) (fun K A X hQ => ?_)
  refine P_aload0 X 1 dX8_askedOfHundred_0 rfl ?_
  refine gX_0_8 X 4 dX8_askedOfHundred_1 rfl fl_X8_62 ?_
  refine P_iload1 X 5 dX8_askedOfHundred_4 rfl ?_
  refine lX_9 X 6 dX8_askedOfHundred_5 rfl rfl (by omega) ?_
  refine P_istore2 X 7 dX8_askedOfHundred_6 rfl (by decide) rfl ?_
  refine P_iload2 X 8 dX8_askedOfHundred_7 rfl ?_
  refine P_if_ne X 16 11 dX8_askedOfHundred_8 rfl rfl (fun b8 => ?_) (fun b8 => ?_)
  · refine P_aload0 X 17 dX8_askedOfHundred_16 rfl ?_
    refine gX_0_9 X 20 dX8_askedOfHundred_17 rfl fl_X8_65 ?_
    refine P_iload1 X 21 dX8_askedOfHundred_20 rfl ?_
    refine lX_10 X 22 dX8_askedOfHundred_21 rfl rfl (by omega) ?_
    refine P_bipush X (100) rfl 24 dX8_askedOfHundred_22 rfl ?_
    refine P_imul X 25 dX8_askedOfHundred_24 rfl ?_
    refine P_iload2 X 26 dX8_askedOfHundred_25 rfl ?_
    refine P_idiv X b8 27 dX8_askedOfHundred_26 rfl ?_
    exact P_iret X hQ dX8_askedOfHundred_27 (rti (if_neg b8).symm)
  · refine P_bipush X (100) rfl 13 dX8_askedOfHundred_11 rfl ?_
    refine P_goto X 27 dX8_askedOfHundred_13 rfl ?_
    exact P_iret X hQ dX8_askedOfHundred_27 (rti (if_pos b8).symm)
set_option maxHeartbeats 4000000 in
set_option maxRecDepth 100000 in
theorem k_X8_thingsReckoned {d : Nat} {E : Ev} {n q : Nat} {h : Hp} (hd : 4 ≤ d) (hc : h 2 6 = nI n) (hn : n ≤ 40) (hfa : Bd (h 20) 40) (hq : q < 4) : Cl d yX8_thingsReckoned cX8_thingsReckoned 3 (some .int) E (wdX E) [.ref (E.2.2.1 0), .int (nI q)] h (Rt (some (.int (if ahF (h 9) (h 10) q = 0 then -1000004 else nI (cnt (pA (h 20) (h 13) (h 14) (h 21) (nI q) false) n) * 100 / ahF (h 9) (h 10) q))) (if ahF (h 9) (h 10) q = 0 then fiX h else h)) := by
  refine Cl_of [some (.ref (E.2.2.1 0)), some (.int (nI q)), none] (by decide) rfl (Nat.le_of_ble_eq_true rfl) (fun K A X hQ => ?_)
  refine P_aload0 X 1 dX8_thingsReckoned_0 rfl ?_
  refine P_iload1 X 2 dX8_thingsReckoned_1 rfl ?_
  refine V1r X 0 5 dX8_thingsReckoned_2 rfl lk_X8_251 mv_X8_askedOfHundred rfl (by omega) (Nat.le_of_ble_eq_true rfl) (Nat.le_of_ble_eq_true rfl) rfl rfl (k_X8_askedOfHundred (by omega) hq) ?_
  refine P_istore2 X 6 dX8_thingsReckoned_5 rfl (by decide) rfl ?_
  refine P_iload2 X 7 dX8_thingsReckoned_6 rfl ?_
  refine P_if_ne X 19 10 dX8_thingsReckoned_7 rfl rfl (fun b7 => ?_) (fun b7 => ?_)
  · refine P_aload0 X 20 dX8_thingsReckoned_19 rfl ?_
    refine P_iload1 X 21 dX8_thingsReckoned_20 rfl ?_
    refine P_iconst X (0) rfl 22 dX8_thingsReckoned_21 rfl ?_
    refine V2r X 0 25 dX8_thingsReckoned_22 rfl lk_X8_244 mv_X8_thingsIn rfl (by omega) (Nat.le_of_ble_eq_true rfl) (Nat.le_of_ble_eq_true rfl) rfl rfl (k_X8_thingsIn (ca := false) (by omega) hc hn hfa) ?_
    refine P_bipush X (100) rfl 27 dX8_thingsReckoned_25 rfl ?_
    refine P_imul X 28 dX8_thingsReckoned_27 rfl ?_
    refine P_iload2 X 29 dX8_thingsReckoned_28 rfl ?_
    refine P_idiv X b7 30 dX8_thingsReckoned_29 rfl ?_
    exact P_iret X hQ dX8_thingsReckoned_30 ⟨by rw [if_neg b7], by rw [if_neg b7]⟩
  · refine P_aload0 X 11 dX8_thingsReckoned_10 rfl ?_
    refine P_ldc X kc_X8_175 13 dX8_thingsReckoned_11 rfl ?_
    refine V1r X 0 16 dX8_thingsReckoned_13 rfl lk_X8_91 mv_X8_finding rfl (by omega) (Nat.le_of_ble_eq_true rfl) (Nat.le_of_ble_eq_true rfl) rfl rfl (k_X8_finding (by omega)) ?_
    refine P_goto X 30 dX8_thingsReckoned_16 rfl ?_
    exact P_iret X hQ dX8_thingsReckoned_30 ⟨by rw [if_pos b7], by rw [if_pos b7]; rfl⟩
set_option maxHeartbeats 4000000 in
set_option maxRecDepth 100000 in
theorem k_X8_quarter {d : Nat} {E : Ev} {n nT : Nat} {q w : Int32} {h : Hp} (hd : 5 ≤ d) (hc : h 1 8 = nI n) (hn : n ≤ 40) (hT : h 2 6 = nI nT) (hnT : nT ≤ 40) (hfa : Bd (h 20) 40) : Cl d yX8_quarter cX8_quarter 3 (some .int) E (wdX E) [.ref (E.2.2.1 0), .int q, .int w] h (Rt (some (.int (if okQu q w then dt4 (h 20) (h 13) (h 14) (h 21) (h 9) (h 10) nT n (tn q) w else -1000001))) (if okQu q w then (if w = 4 ∧ ahF (h 9) (h 10) (tn q) = 0 then fiX h else h) else fiX h)) := by
  refine Cl_of [some (.ref (E.2.2.1 0)), some (.int q), some (.int w)] (by decide) rfl (Nat.le_of_ble_eq_true rfl) (fun K A X hQ => ?_)
  refine P_iload1 X 1 dX8_quarter_0 rfl ?_
  refine S1r X 4 dX8_quarter_1 rfl lk_X8_241 ms_X8_isQuarter rfl (by omega) (Nat.le_of_ble_eq_true rfl) (k_X8_isQuarter (by omega)) ?_
  refine P_bz X 16 7 dX8_quarter_4 rfl rfl (fun b4 => ?_) (fun b4 => ?_)
  · refine P_aload0 X 17 dX8_quarter_16 rfl ?_
    refine P_ldc X kc_X8_90 19 dX8_quarter_17 rfl ?_
    refine V1r X 0 22 dX8_quarter_19 rfl lk_X8_91 mv_X8_finding rfl (by omega) (Nat.le_of_ble_eq_true rfl) (Nat.le_of_ble_eq_true rfl) rfl rfl (k_X8_finding (by omega)) ?_
    exact P_iret X hQ dX8_quarter_22 ⟨by simp [okQu, b4], by simp [okQu, b4, fiX]⟩
  · refine P_iload2 X 8 dX8_quarter_7 rfl ?_
    refine P_iconst X (0) rfl 9 dX8_quarter_8 rfl ?_
    refine P_iconst X (4) rfl 10 dX8_quarter_9 rfl ?_
    refine S3r X 13 dX8_quarter_10 rfl lk_X8_79 ms_X8_within rfl (by omega) (Nat.le_of_ble_eq_true rfl) (k_X8_within (by omega)) ?_
    refine P_bn X 23 16 dX8_quarter_13 rfl rfl (fun b13 => ?_) (fun b13 => ?_)
    · obtain ⟨q, hq, rfl⟩ := inB_ex 3 b4
      have hq31 : tn (nI q) = q := nI_clamp (by omega)
      have hok : okQu (nI q) w = true := by simp [okQu, b4, b13]
      rw [if_pos hok, if_pos hok, hq31] at hQ
      obtain ⟨j9, hj9, rfl⟩ := inB_ex 4 b13
      refine P_iload2 X 24 dX8_quarter_23 rfl ?_
      rcases (show j9 = 0 ∨ j9 = 1 ∨ j9 = 2 ∨ j9 = 3 ∨ j9 = 4 by omega) with rfl | rfl | rfl | rfl | rfl
      · refine P_tblIn X 56 dX8_quarter_24 (by decide) (by decide) rfl rfl ?_
        refine P_aload0 X 57 dX8_quarter_56 rfl ?_
        refine P_iload1 X 58 dX8_quarter_57 rfl ?_
        refine P_iconst X (0) rfl 59 dX8_quarter_58 rfl ?_
        refine V2r X 0 62 dX8_quarter_59 rfl lk_X8_244 mv_X8_thingsIn rfl (by omega) (Nat.le_of_ble_eq_true rfl) (Nat.le_of_ble_eq_true rfl) rfl rfl (k_X8_thingsIn (ca := false) (by omega) hT hnT hfa) ?_
        rw [if_neg (fun z => absurd z.1 (by decide))] at hQ
        exact P_iret X hQ dX8_quarter_62 ⟨rfl, rfl⟩
      · refine P_tblIn X 63 dX8_quarter_24 (by decide) (by decide) rfl rfl ?_
        refine P_aload0 X 64 dX8_quarter_63 rfl ?_
        refine gX_0_0 X 67 dX8_quarter_64 rfl fl_X8_10 ?_
        refine P_iload1 X 68 dX8_quarter_67 rfl ?_
        refine V1r X 1 71 dX8_quarter_68 rfl lk_X8_248 mv_X0_countIn rfl (by omega) (Nat.le_of_ble_eq_true rfl) (Nat.le_of_ble_eq_true rfl) rfl rfl (k_X0_countIn (by omega) hc hn) ?_
        rw [if_neg (fun z => absurd z.1 (by decide))] at hQ
        exact P_iret X hQ dX8_quarter_71 ⟨rfl, rfl⟩
      · refine P_tblIn X 72 dX8_quarter_24 (by decide) (by decide) rfl rfl ?_
        refine P_aload0 X 73 dX8_quarter_72 rfl ?_
        refine P_iload1 X 74 dX8_quarter_73 rfl ?_
        refine P_iconst X (1) rfl 75 dX8_quarter_74 rfl ?_
        refine V2r X 0 78 dX8_quarter_75 rfl lk_X8_244 mv_X8_thingsIn rfl (by omega) (Nat.le_of_ble_eq_true rfl) (Nat.le_of_ble_eq_true rfl) rfl rfl (k_X8_thingsIn (ca := true) (by omega) hT hnT hfa) ?_
        rw [if_neg (fun z => absurd z.1 (by decide))] at hQ
        exact P_iret X hQ dX8_quarter_78 ⟨rfl, rfl⟩
      · refine P_tblIn X 79 dX8_quarter_24 (by decide) (by decide) rfl rfl ?_
        refine P_aload0 X 80 dX8_quarter_79 rfl ?_
        refine P_iload1 X 81 dX8_quarter_80 rfl ?_
        refine V1r X 0 84 dX8_quarter_81 rfl lk_X8_251 mv_X8_askedOfHundred rfl (by omega) (Nat.le_of_ble_eq_true rfl) (Nat.le_of_ble_eq_true rfl) rfl rfl (k_X8_askedOfHundred (by omega) (by omega)) ?_
        rw [if_neg (fun z => absurd z.1 (by decide))] at hQ
        exact P_iret X hQ dX8_quarter_84 ⟨rfl, rfl⟩
      · refine P_tblOut X 85 dX8_quarter_24 (Or.inr (by decide)) rfl ?_
        refine P_aload0 X 86 dX8_quarter_85 rfl ?_
        refine P_iload1 X 87 dX8_quarter_86 rfl ?_
        refine V1r X 0 90 dX8_quarter_87 rfl lk_X8_254 mv_X8_thingsReckoned rfl (by omega) (Nat.le_of_ble_eq_true rfl) (Nat.le_of_ble_eq_true rfl) rfl rfl (k_X8_thingsReckoned (by omega) hT hnT hfa (by omega)) ?_
        exact P_iret X hQ dX8_quarter_90 ⟨rfl, by by_cases z : ahF (h 9) (h 10) q = 0 <;> simp [z, nI_4e]⟩
    · refine P_aload0 X 17 dX8_quarter_16 rfl ?_
      refine P_ldc X kc_X8_90 19 dX8_quarter_17 rfl ?_
      refine V1r X 0 22 dX8_quarter_19 rfl lk_X8_91 mv_X8_finding rfl (by omega) (Nat.le_of_ble_eq_true rfl) (Nat.le_of_ble_eq_true rfl) rfl rfl (k_X8_finding (by omega)) ?_
      exact P_iret X hQ dX8_quarter_22 ⟨by simp [okQu, b4, b13], by simp [okQu, b4, b13, fiX]⟩
set_option maxHeartbeats 4000000 in
set_option maxRecDepth 100000 in
theorem k_X9_quarter {d : Nat} {E : Ev} {n nT : Nat} {q w : Int32} {h : Hp} (hd : 2 ≤ d) (hc : h 0 1 = nI n) (hn : n ≤ 40) (hT : h 0 10 = nI nT) (hnT : nT ≤ 40) (hfa : Bd (h 9) 40) : Cl d yX9_quarter cX9_quarter 7 (some .int) E (wdY E) [.ref (E.2.2.1 0), .int q, .int w] h (Rt (some (.int (if okQu q w then dt4 (h 9) (h 2) (h 3) (h 10) (h 21) (h 22) nT n (tn q) w else -1000001))) (if okQu q w then (if w = 4 ∧ ahF (h 21) (h 22) (tn q) = 0 then fiY h else h) else fiY h)) := by
  refine Cl_of [some (.ref (E.2.2.1 0)), some (.int q), some (.int w), none, none, none, none] (by decide) rfl (Nat.le_of_ble_eq_true rfl) (fun K A X hQ => ?_)
  refine P_iload1 X 1 dX9_quarter_0 rfl ?_
  refine P_iconst X (0) rfl 2 dX9_quarter_1 rfl ?_
  refine P_iconst X (3) rfl 3 dX9_quarter_2 rfl ?_
  refine S3r X 6 dX9_quarter_3 rfl lk_X9_111 ms_X9_in rfl (by omega) (Nat.le_of_ble_eq_true rfl) (k_X9_in (by omega)) ?_
  refine P_bz X 18 9 dX9_quarter_6 rfl rfl (fun b6 => ?_) (fun b6 => ?_)
  · refine P_aload0 X 19 dX9_quarter_18 rfl ?_
    refine P_ldc X kc_X9_144 21 dX9_quarter_19 rfl ?_
    refine V1r X 0 24 dX9_quarter_21 rfl lk_X9_145 mv_X9_finding rfl (by omega) (Nat.le_of_ble_eq_true rfl) (Nat.le_of_ble_eq_true rfl) rfl rfl (k_X9_finding (by omega)) ?_
    exact P_iret X hQ dX9_quarter_24 ⟨by simp [okQu, b6], by simp [okQu, b6, fiY]⟩
  · refine P_iload2 X 10 dX9_quarter_9 rfl ?_
    refine P_iconst X (0) rfl 11 dX9_quarter_10 rfl ?_
    refine P_iconst X (4) rfl 12 dX9_quarter_11 rfl ?_
    refine S3r X 15 dX9_quarter_12 rfl lk_X9_111 ms_X9_in rfl (by omega) (Nat.le_of_ble_eq_true rfl) (k_X9_in (by omega)) ?_
    refine P_bn X 25 18 dX9_quarter_15 rfl rfl (fun b15 => ?_) (fun b15 => ?_)
    · obtain ⟨q, hq, rfl⟩ := inB_ex 3 b6
      have hq31 : tn (nI q) = q := nI_clamp (by omega)
      have hok : okQu (nI q) w = true := by simp [okQu, b6, b15]
      rw [if_pos hok, if_pos hok, hq31] at hQ
      obtain ⟨j9, hj9, rfl⟩ := inB_ex 4 b15
      have E208 : ∀ pv : Int32, pv = ahF (h 21) (h 22) q → GW K 7 E (wdY E) A 208 [some (.ref (E.2.2.1 0)), some (.int (nI q)), some (.int (nI j9)), some (.int (nI (cnt (pA (h 9) (h 2) (h 3) (h 10) (nI q) false) nT))), some (.int (nI (cnt (pA (h 9) (h 2) (h 3) (h 10) (nI q) true) nT))), some (.int (nI (cnt (fun o => decide (qtr (h 2 o) (h 3 o) = nI q)) n))), some (.int pv)] [] h := by
        intro pv hpv
        refine P_iload2 X 209 dX9_quarter_208 rfl ?_
        rcases (show j9 = 0 ∨ j9 = 1 ∨ j9 = 2 ∨ j9 = 3 ∨ j9 = 4 by omega) with rfl | rfl | rfl | rfl | rfl
        · refine P_tblIn X 240 dX9_quarter_209 (by decide) (by decide) rfl rfl ?_
          refine P_iload3 X 241 dX9_quarter_240 rfl ?_
          rw [if_neg (fun z => absurd z.1 (by decide))] at hQ
          exact P_iret X hQ dX9_quarter_241 ⟨rfl, rfl⟩
        · refine P_tblIn X 242 dX9_quarter_209 (by decide) (by decide) rfl rfl ?_
          refine P_iload5 X 244 dX9_quarter_242 rfl ?_
          rw [if_neg (fun z => absurd z.1 (by decide))] at hQ
          exact P_iret X hQ dX9_quarter_244 ⟨rfl, rfl⟩
        · refine P_tblIn X 245 dX9_quarter_209 (by decide) (by decide) rfl rfl ?_
          refine P_iload4 X 247 dX9_quarter_245 rfl ?_
          rw [if_neg (fun z => absurd z.1 (by decide))] at hQ
          exact P_iret X hQ dX9_quarter_247 ⟨rfl, rfl⟩
        · refine P_tblIn X 248 dX9_quarter_209 (by decide) (by decide) rfl rfl ?_
          refine P_iload6 X 250 dX9_quarter_248 rfl ?_
          rw [if_neg (fun z => absurd z.1 (by decide))] at hQ
          exact P_iret X hQ dX9_quarter_250 ⟨by rw [hpv]; rfl, rfl⟩
        · refine P_tblOut X 251 dX9_quarter_209 (Or.inr (by decide)) rfl ?_
          refine P_iload6 X 253 dX9_quarter_251 rfl ?_
          refine P_if_ne X 265 256 dX9_quarter_253 rfl rfl (fun b253 => ?_) (fun b253 => ?_)
          · refine P_bipush X (100) rfl 267 dX9_quarter_265 rfl ?_
            refine P_iload3 X 268 dX9_quarter_267 rfl ?_
            refine P_imul X 269 dX9_quarter_268 rfl ?_
            refine P_iload6 X 271 dX9_quarter_269 rfl ?_
            refine P_idiv X b253 272 dX9_quarter_271 rfl ?_
            have z0 : ¬ ahF (h 21) (h 22) q = 0 := by rw [← hpv]; exact b253
            exact P_iret X hQ dX9_quarter_272 ⟨by rw [hpv, Int32.mul_comm]; show _ = some (Value.int (dt4 _ _ _ _ _ _ _ _ _ (nI 4))); simp [dt4, nI_4e, z0], by simp [z0, nI_4e]⟩
          · refine P_aload0 X 257 dX9_quarter_256 rfl ?_
            refine P_ldc X kc_X9_188 259 dX9_quarter_257 rfl ?_
            refine V1r X 0 262 dX9_quarter_259 rfl lk_X9_145 mv_X9_finding rfl (by omega) (Nat.le_of_ble_eq_true rfl) (Nat.le_of_ble_eq_true rfl) rfl rfl (k_X9_finding (by omega)) ?_
            refine P_goto X 272 dX9_quarter_262 rfl ?_
            have z0 : ahF (h 21) (h 22) q = 0 := by rw [← hpv]; exact b253
            exact P_iret X hQ dX9_quarter_272 ⟨by show _ = some (Value.int (dt4 _ _ _ _ _ _ _ _ _ (nI 4))); simp [dt4, nI_4e, z0], by simp [z0, nI_4e, fiY]⟩
      have L2 : ∀ (m i : Nat) , i + m = n → GW K 7 E (wdY E) A 130 [some (.ref (E.2.2.1 0)), some (.int (nI q)), some (.int (nI j9)), some (.int (nI (cnt (pA (h 9) (h 2) (h 3) (h 10) (nI q) false) nT))), some (.int (nI (cnt (pA (h 9) (h 2) (h 3) (h 10) (nI q) true) nT))), some (.int (nI (cnt (fun o => decide (qtr (h 2 o) (h 3 o) = nI q)) i))), some (.int (nI i))] [] h := by
        intro m
        induction m with
        | zero =>
          intro i  hm 
          refine P_iload6 X 132 dX9_quarter_130 rfl ?_
          refine P_aload0 X 133 dX9_quarter_132 rfl ?_
          refine gY_0_1 X 136 dX9_quarter_133 rfl fl_X9_115 ?_
          refine P_icmp_ge X 176 139 dX9_quarter_136 rfl rfl (fun b136 => ?_) (fun b136 => ?_)
          · obtain rfl : i = n := by omega
            refine P_aload0 X 177 dX9_quarter_176 rfl ?_
            refine gY_0_25 X 180 dX9_quarter_177 rfl fl_X9_71 ?_
            refine P_iload1 X 181 dX9_quarter_180 rfl ?_
            refine lY_21 X 182 dX9_quarter_181 rfl rfl (by omega) ?_
            refine P_if_ne X 190 185 dX9_quarter_182 rfl rfl (fun b182 => ?_) (fun b182 => ?_)
            · refine P_bipush X (100) rfl 192 dX9_quarter_190 rfl ?_
              refine P_aload0 X 193 dX9_quarter_192 rfl ?_
              refine gY_0_26 X 196 dX9_quarter_193 rfl fl_X9_74 ?_
              refine P_iload1 X 197 dX9_quarter_196 rfl ?_
              refine lY_22 X 198 dX9_quarter_197 rfl rfl (by omega) ?_
              refine P_imul X 199 dX9_quarter_198 rfl ?_
              refine P_aload0 X 200 dX9_quarter_199 rfl ?_
              refine gY_0_25 X 203 dX9_quarter_200 rfl fl_X9_71 ?_
              refine P_iload1 X 204 dX9_quarter_203 rfl ?_
              refine lY_21 X 205 dX9_quarter_204 rfl rfl (by omega) ?_
              refine P_idiv X b182 206 dX9_quarter_205 rfl ?_
              refine P_istore6 X 208 dX9_quarter_206 rfl (by decide) rfl ?_
              exact E208 _ (by rw [ahF, if_neg b182, Int32.mul_comm])
            · refine P_bipush X (100) rfl 187 dX9_quarter_185 rfl ?_
              refine P_goto X 206 dX9_quarter_187 rfl ?_
              refine P_istore6 X 208 dX9_quarter_206 rfl (by decide) rfl ?_
              exact E208 _ (by rw [ahF, if_pos b182])
          · exact (geN hc b136 (by omega) (by omega)).elim
        | succ m ih =>
          intro i  hm 
          refine P_iload6 X 132 dX9_quarter_130 rfl ?_
          refine P_aload0 X 133 dX9_quarter_132 rfl ?_
          refine gY_0_1 X 136 dX9_quarter_133 rfl fl_X9_115 ?_
          refine P_icmp_ge X 176 139 dX9_quarter_136 rfl rfl (fun b136 => ?_) (fun b136 => ?_)
          · exact (geY hc b136 (by omega) (by omega)).elim
          · refine P_iload5 X 141 dX9_quarter_139 rfl ?_
            refine P_aload0 X 142 dX9_quarter_141 rfl ?_
            refine gY_0_3 X 145 dX9_quarter_142 rfl fl_X9_13 ?_
            refine P_iload6 X 147 dX9_quarter_145 rfl ?_
            refine lY_2 X 148 dX9_quarter_147 rfl rfl (by omega) ?_
            refine P_aload0 X 149 dX9_quarter_148 rfl ?_
            refine gY_0_4 X 152 dX9_quarter_149 rfl fl_X9_16 ?_
            refine P_iload6 X 154 dX9_quarter_152 rfl ?_
            refine lY_3 X 155 dX9_quarter_154 rfl rfl (by omega) ?_
            refine S2r X 158 dX9_quarter_155 rfl lk_X9_156 ms_X9_quarterOf rfl (by omega) (Nat.le_of_ble_eq_true rfl) (k_X9_quarterOf (by omega)) ?_
            refine P_iload1 X 159 dX9_quarter_158 rfl ?_
            refine P_icmp_ne X 166 162 dX9_quarter_159 rfl rfl (fun b159 => ?_) (fun b159 => ?_)
            · refine P_iconst X (0) rfl 167 dX9_quarter_166 rfl ?_
              refine P_iadd X 168 dX9_quarter_167 rfl ?_
              refine P_istore5 X 170 dX9_quarter_168 rfl (by decide) rfl ?_
              refine P_iinc6 X (1) rfl 173 dX9_quarter_170 rfl (by decide) rfl ?_
              refine P_goto X 130 dX9_quarter_173 rfl ?_
              have ec := cnt_n0 (p := (fun o => decide (qtr (h 2 o) (h 3 o) = nI q))) (n := i) (by simpa using b159)
              rw [ec, nI_1]
              exact ih (i + 1) (by omega)
            · refine P_iconst X (1) rfl 163 dX9_quarter_162 rfl ?_
              refine P_goto X 167 dX9_quarter_163 rfl ?_
              refine P_iadd X 168 dX9_quarter_167 rfl ?_
              refine P_istore5 X 170 dX9_quarter_168 rfl (by decide) rfl ?_
              refine P_iinc6 X (1) rfl 173 dX9_quarter_170 rfl (by decide) rfl ?_
              refine P_goto X 130 dX9_quarter_173 rfl ?_
              have ec := cnt_y (p := (fun o => decide (qtr (h 2 o) (h 3 o) = nI q))) (n := i) (by simpa using b159)
              rw [ec, nI_1]
              exact ih (i + 1) (by omega)
      have L1 : ∀ (m i : Nat) (o6 : Option Value), i + m = nT → GW K 7 E (wdY E) A 33 [some (.ref (E.2.2.1 0)), some (.int (nI q)), some (.int (nI j9)), some (.int (nI (cnt (pA (h 9) (h 2) (h 3) (h 10) (nI q) false) i))), some (.int (nI (cnt (pA (h 9) (h 2) (h 3) (h 10) (nI q) true) i))), some (.int (nI i)), o6] [] h := by
        intro m
        induction m with
        | zero =>
          intro i o6 hm 
          refine P_iload5 X 35 dX9_quarter_33 rfl ?_
          refine P_aload0 X 36 dX9_quarter_35 rfl ?_
          refine gY_0_10 X 39 dX9_quarter_36 rfl fl_X9_118 ?_
          refine P_icmp_ge X 124 42 dX9_quarter_39 rfl rfl (fun b39 => ?_) (fun b39 => ?_)
          · obtain rfl : i = nT := by omega
            refine P_iconst X (0) rfl 125 dX9_quarter_124 rfl ?_
            refine P_istore5 X 127 dX9_quarter_125 rfl (by decide) rfl ?_
            refine P_iconst X (0) rfl 128 dX9_quarter_127 rfl ?_
            refine P_istore6 X 130 dX9_quarter_128 rfl (by decide) rfl ?_
            exact L2 n 0 (by omega)
          · exact (geN hT b39 (by omega) (by omega)).elim
        | succ m ih =>
          intro i o6 hm 
          refine P_iload5 X 35 dX9_quarter_33 rfl ?_
          refine P_aload0 X 36 dX9_quarter_35 rfl ?_
          refine gY_0_10 X 39 dX9_quarter_36 rfl fl_X9_118 ?_
          refine P_icmp_ge X 124 42 dX9_quarter_39 rfl rfl (fun b39 => ?_) (fun b39 => ?_)
          · exact (geY hT b39 (by omega) (by omega)).elim
          · obtain ⟨a9, ha9, ea⟩ := hfa i
            have et : tn (h 9 i) = a9 := by rw [ea]; exact nI_clamp (by omega)
            refine P_aload0 X 43 dX9_quarter_42 rfl ?_
            refine gY_0_3 X 46 dX9_quarter_43 rfl fl_X9_13 ?_
            refine P_aload0 X 47 dX9_quarter_46 rfl ?_
            refine gY_0_11 X 50 dX9_quarter_47 rfl fl_X9_34 ?_
            refine P_iload5 X 52 dX9_quarter_50 rfl ?_
            refine lY_9 X 53 dX9_quarter_52 rfl rfl (by omega) ?_
            refine lY_2 X 54 dX9_quarter_53 rfl ea ha9 ?_
            refine P_aload0 X 55 dX9_quarter_54 rfl ?_
            refine gY_0_4 X 58 dX9_quarter_55 rfl fl_X9_16 ?_
            refine P_aload0 X 59 dX9_quarter_58 rfl ?_
            refine gY_0_11 X 62 dX9_quarter_59 rfl fl_X9_34 ?_
            refine P_iload5 X 64 dX9_quarter_62 rfl ?_
            refine lY_9 X 65 dX9_quarter_64 rfl rfl (by omega) ?_
            refine lY_3 X 66 dX9_quarter_65 rfl ea ha9 ?_
            refine S2r X 69 dX9_quarter_66 rfl lk_X9_156 ms_X9_quarterOf rfl (by omega) (Nat.le_of_ble_eq_true rfl) (k_X9_quarterOf (by omega)) ?_
            refine P_iload1 X 70 dX9_quarter_69 rfl ?_
            refine P_icmp_ne X 77 73 dX9_quarter_70 rfl rfl (fun b70 => ?_) (fun b70 => ?_)
            · refine P_iconst X (0) rfl 78 dX9_quarter_77 rfl ?_
              refine P_istore6 X 80 dX9_quarter_78 rfl (by decide) rfl ?_
              refine P_iload3 X 81 dX9_quarter_80 rfl ?_
              refine P_iload6 X 83 dX9_quarter_81 rfl ?_
              refine P_if_eq X 90 86 dX9_quarter_83 rfl rfl (fun b83 => ?_) (fun b83 => absurd b83 (by decide))
              refine P_iconst X (0) rfl 91 dX9_quarter_90 rfl ?_
              refine P_iadd X 92 dX9_quarter_91 rfl ?_
              refine P_istore3 X 93 dX9_quarter_92 rfl (by decide) rfl ?_
              refine P_iload4 X 95 dX9_quarter_93 rfl ?_
              refine P_iload6 X 97 dX9_quarter_95 rfl ?_
              refine P_if_eq X 114 100 dX9_quarter_97 rfl rfl (fun b97 => ?_) (fun b97 => absurd b97 (by decide))
              refine P_iconst X (0) rfl 115 dX9_quarter_114 rfl ?_
              refine P_iadd X 116 dX9_quarter_115 rfl ?_
              refine P_istore4 X 118 dX9_quarter_116 rfl (by decide) rfl ?_
              refine P_iinc5 X (1) rfl 121 dX9_quarter_118 rfl (by decide) rfl ?_
              refine P_goto X 33 dX9_quarter_121 rfl ?_
              have e3 := cnt_n0 (p := (pA (h 9) (h 2) (h 3) (h 10) (nI q) false)) (n := i) (by simp [pA, inQ, et, b70])
              have e4 := cnt_n0 (p := (pA (h 9) (h 2) (h 3) (h 10) (nI q) true)) (n := i) (by simp [pA, inQ, et, b70])
              rw [e3, e4, nI_1]
              exact ih (i + 1) _ (by omega)
            · refine P_iconst X (1) rfl 74 dX9_quarter_73 rfl ?_
              refine P_goto X 78 dX9_quarter_74 rfl ?_
              refine P_istore6 X 80 dX9_quarter_78 rfl (by decide) rfl ?_
              refine P_iload3 X 81 dX9_quarter_80 rfl ?_
              refine P_iload6 X 83 dX9_quarter_81 rfl ?_
              refine P_if_eq X 90 86 dX9_quarter_83 rfl rfl (fun b83 => absurd b83 (by decide)) (fun b83 => ?_)
              refine P_iconst X (1) rfl 87 dX9_quarter_86 rfl ?_
              refine P_goto X 91 dX9_quarter_87 rfl ?_
              refine P_iadd X 92 dX9_quarter_91 rfl ?_
              refine P_istore3 X 93 dX9_quarter_92 rfl (by decide) rfl ?_
              refine P_iload4 X 95 dX9_quarter_93 rfl ?_
              refine P_iload6 X 97 dX9_quarter_95 rfl ?_
              refine P_if_eq X 114 100 dX9_quarter_97 rfl rfl (fun b97 => absurd b97 (by decide)) (fun b97 => ?_)
              refine P_aload0 X 101 dX9_quarter_100 rfl ?_
              refine gY_0_12 X 104 dX9_quarter_101 rfl fl_X9_37 ?_
              refine P_iload5 X 106 dX9_quarter_104 rfl ?_
              refine lY_10 X 107 dX9_quarter_106 rfl rfl (by omega) ?_
              refine P_if_ne X 114 110 dX9_quarter_107 rfl rfl (fun b107 => ?_) (fun b107 => ?_)
              · refine P_iconst X (0) rfl 115 dX9_quarter_114 rfl ?_
                refine P_iadd X 116 dX9_quarter_115 rfl ?_
                refine P_istore4 X 118 dX9_quarter_116 rfl (by decide) rfl ?_
                refine P_iinc5 X (1) rfl 121 dX9_quarter_118 rfl (by decide) rfl ?_
                refine P_goto X 33 dX9_quarter_121 rfl ?_
                have e3 := cnt_y (p := (pA (h 9) (h 2) (h 3) (h 10) (nI q) false)) (n := i) (by simp [pA, inQ, et, b70])
                have e4 := cnt_n0 (p := (pA (h 9) (h 2) (h 3) (h 10) (nI q) true)) (n := i) (by simp [pA, inQ, et, b70, b107])
                rw [e3, e4, nI_1]
                exact ih (i + 1) _ (by omega)
              · refine P_iconst X (1) rfl 111 dX9_quarter_110 rfl ?_
                refine P_goto X 115 dX9_quarter_111 rfl ?_
                refine P_iadd X 116 dX9_quarter_115 rfl ?_
                refine P_istore4 X 118 dX9_quarter_116 rfl (by decide) rfl ?_
                refine P_iinc5 X (1) rfl 121 dX9_quarter_118 rfl (by decide) rfl ?_
                refine P_goto X 33 dX9_quarter_121 rfl ?_
                have e3 := cnt_y (p := (pA (h 9) (h 2) (h 3) (h 10) (nI q) false)) (n := i) (by simp [pA, inQ, et, b70])
                have e4 := cnt_y (p := (pA (h 9) (h 2) (h 3) (h 10) (nI q) true)) (n := i) (by simp [pA, inQ, et, b70, b107])
                rw [e3, e4, nI_1]
                exact ih (i + 1) _ (by omega)
      refine P_iconst X (0) rfl 26 dX9_quarter_25 rfl ?_
      refine P_istore3 X 27 dX9_quarter_26 rfl (by decide) rfl ?_
      refine P_iconst X (0) rfl 28 dX9_quarter_27 rfl ?_
      refine P_istore4 X 30 dX9_quarter_28 rfl (by decide) rfl ?_
      refine P_iconst X (0) rfl 31 dX9_quarter_30 rfl ?_
      refine P_istore5 X 33 dX9_quarter_31 rfl (by decide) rfl ?_
      exact L1 nT 0 none (by omega)
    · refine P_aload0 X 19 dX9_quarter_18 rfl ?_
      refine P_ldc X kc_X9_144 21 dX9_quarter_19 rfl ?_
      refine V1r X 0 24 dX9_quarter_21 rfl lk_X9_145 mv_X9_finding rfl (by omega) (Nat.le_of_ble_eq_true rfl) (Nat.le_of_ble_eq_true rfl) rfl rfl (k_X9_finding (by omega)) ?_
      exact P_iret X hQ dX9_quarter_24 ⟨by simp [okQu, b6, b15], by simp [okQu, b6, b15, fiY]⟩
