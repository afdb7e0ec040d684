theorem fb_rng (x : Int32) : -2147483648 ≤ x.toInt ∧ x.toInt < 2147483648 := by
  have h1 := Int32.le_toInt x
  have h2 := Int32.toInt_lt x
  omega
theorem fb_bmod {z : Int} (h1 : -2147483648 ≤ z) (h2 : z < 2147483648) : z.bmod (2 ^ 32) = z := by
  rw [Int.bmod_eq_of_le (by omega) (by omega)]
theorem fb_subI {x y : Int32} (h1 : -2147483648 ≤ x.toInt - y.toInt) (h2 : x.toInt - y.toInt < 2147483648) : (x - y).toInt = x.toInt - y.toInt := by
  rw [Int32.toInt_sub, fb_bmod h1 h2]
theorem hrB_n {m a c : Nat} (hm : m ≤ 12) (ha : a < 2 ^ 31) (hc : c < 2 ^ 31) : hrB (nI m) (nI a) (nI c) = decide (a + c ≤ m) := by
  have e1 : (nI m - nI a).toInt = (m : Int) - a := by
    rw [fb_subI (by rw [nI_toInt (by omega), nI_toInt ha]; omega) (by rw [nI_toInt (by omega), nI_toInt ha]; omega), nI_toInt (by omega), nI_toInt ha]
  have e2 : decide (nI c ≤ nI m - nI a) = decide (a + c ≤ m) := by
    apply decide_eq_decide.mpr
    rw [Int32.le_iff_toInt_le, e1, nI_toInt hc]
    omega
  rw [hrB, decide_eq_true (nI_pos' ha), decide_eq_true (nI_pos' hc), e2]
  rfl
theorem hrB_f1 {sz f n : Int32} (b : f < 0) : hrB sz f n = false := by rw [hrB, dlt b]; rfl
theorem hrB_f2 {sz f n : Int32} (b : n < 0) : hrB sz f n = false := by rw [hrB, dlt b]; simp
theorem hrB_ex {sz f n : Int32} {m : Nat} (hs : sz = nI m) (hm : m ≤ 12) (b : hrB sz f n = true) : ∃ a c, a + c ≤ m ∧ f = nI a ∧ n = nI c := by
  subst hs
  have h1 : ¬ f < 0 := fun z => by rw [hrB_f1 z] at b; cases b
  have h2 : ¬ n < 0 := fun z => by rw [hrB_f2 z] at b; cases b
  obtain ⟨a, ha, rfl⟩ := nI_of h1
  obtain ⟨c, hc, rfl⟩ := nI_of h2
  rw [hrB_n hm ha hc] at b
  exact ⟨a, c, of_decide_eq_true b, rfl, rfl⟩
def okCp (s t : Int32) : Bool := inB s 0 3 && inB t 0 3
def okC3 (bs bt : Int32) : Bool := !decide (bs = 0) && !decide (bt = 0)
theorem ixm3 (p j a i : Nat) : nI p * nI j + nI a + nI i = nI (p * j + a + i) := by rw [ixm, nI_add]
def cp1 (h : Hp) (b : Nat) : Nat → Hp
  | 0 => h
  | k + 1 => put (cp1 h b k) 32 k (h 25 (b + k))
def cp2 (h : Hp) (b : Nat) : Nat → Hp
  | 0 => h
  | k + 1 => put (cp2 h b k) 25 (b + k) (h 32 k)
theorem cp1_n {h : Hp} {b j : Nat} (hj : j ≠ 32) : ∀ k, cp1 h b k j = h j
  | 0 => rfl
  | k + 1 => by rw [cp1, put_n hj]; exact cp1_n hj k
theorem cp2_n {h : Hp} {b j : Nat} (hj : j ≠ 25) : ∀ k, cp2 h b k j = h j
  | 0 => rfl
  | k + 1 => by rw [cp2, put_n hj]; exact cp2_n hj k

set_option maxHeartbeats 4000000 in
set_option maxRecDepth 100000 in
theorem k_X8_copy {d : Nat} {E : Ev} {s f t g n : Int32} {h : Hp} (hd : 2 ≤ d) (hsz : ∀ j, j < 4 → ∃ n, n ≤ 12 ∧ h (43 + j) 2 = nI n) : Cl d yX8_copy cX8_copy 8 (some .int) E (wdX E) [.ref (E.2.2.1 0), .int s, .int f, .int t, .int g, .int n] h (Rt (some (.int (if okCp s t then (if okC3 (h (43 + tn s) 1) (h (43 + tn t) 1) then (if h (43 + tn s) 1 = h (43 + tn t) 1 then (if (hrB (h (43 + tn s) 2) f n && hrB (h (43 + tn t) 2) g n) then n else -1000001) else -1000003) else -1000008) else -1000001))) (if okCp s t then (if okC3 (h (43 + tn s) 1) (h (43 + tn t) 1) then (if h (43 + tn s) 1 = h (43 + tn t) 1 then (if (hrB (h (43 + tn s) 2) f n && hrB (h (43 + tn t) 2) g n) then up2 h (47 + tn t) (va_cpy (h (47 + tn s)) (h (47 + tn t)) (tn f) (tn g) (tn n)) else fiX h) else fiX h) else fiX h) else fiX h)) := by
  refine Cl_of [some (.ref (E.2.2.1 0)), some (.int s), some (.int f), some (.int t), some (.int g), some (.int n), none, none] (by decide) rfl (Nat.le_of_ble_eq_true rfl) (fun K A X hQ => ?_)
  refine P_iload1 X 1 dX8_copy_0 rfl ?_
  refine S1r X 4 dX8_copy_1 rfl lk_X8_257 ms_X8_isSheet rfl (by omega) (Nat.le_of_ble_eq_true rfl) (k_X8_isSheet (by omega)) ?_
  refine P_bz X 14 7 dX8_copy_4 rfl rfl (fun b4 => ?_) (fun b4 => ?_)
  · have hok : ¬ okCp s t = true := by simp [okCp, b4]
    rw [if_neg hok, if_neg hok] at hQ
    refine P_aload0 X 15 dX8_copy_14 rfl ?_
    refine P_ldc X kc_X8_90 17 dX8_copy_15 rfl ?_
    refine V1r X 0 20 dX8_copy_17 rfl lk_X8_91 mv_X8_finding rfl (by omega) (Nat.le_of_ble_eq_true rfl) (Nat.le_of_ble_eq_true rfl) rfl rfl (k_X8_finding (by omega)) ?_
    exact P_iret X hQ dX8_copy_20 ⟨rfl, rfl⟩
  · refine P_iload3 X 8 dX8_copy_7 rfl ?_
    refine S1r X 11 dX8_copy_8 rfl lk_X8_257 ms_X8_isSheet rfl (by omega) (Nat.le_of_ble_eq_true rfl) (k_X8_isSheet (by omega)) ?_
    refine P_bn X 21 14 dX8_copy_11 rfl rfl (fun b11 => ?_) (fun b11 => ?_)
    · obtain ⟨js, hjs, rfl⟩ := inB_ex 3 b4
      obtain ⟨jt, hjt, rfl⟩ := inB_ex 3 b11
      have ejs : tn (nI js) = js := nI_clamp (by omega)
      have ejt : tn (nI jt) = jt := nI_clamp (by omega)
      have hok : okCp (nI js) (nI jt) = true := by rw [okCp, b4, b11]; rfl
      rw [if_pos hok, if_pos hok, ejs, ejt] at hQ
      obtain ⟨ns, hns, ens⟩ := hsz js hjs
      obtain ⟨nt, hnt, ent⟩ := hsz jt hjt
      refine P_aload0 X 22 dX8_copy_21 rfl ?_
      refine gX_0_10 X 25 dX8_copy_22 rfl fl_X8_70 ?_
      refine P_iload1 X 26 dX8_copy_25 rfl ?_
      refine qX_11 X 27 dX8_copy_26 rfl rfl hjs ?_
      refine P_astore6 X 29 dX8_copy_27 rfl (by decide) rfl ?_
      refine P_aload0 X 30 dX8_copy_29 rfl ?_
      refine gX_0_10 X 33 dX8_copy_30 rfl fl_X8_70 ?_
      refine P_iload3 X 34 dX8_copy_33 rfl ?_
      refine qX_11 X 35 dX8_copy_34 rfl rfl hjt ?_
      refine P_astore7 X 37 dX8_copy_35 rfl (by decide) rfl ?_
      refine P_aload6 X 39 dX8_copy_37 rfl ?_
      refine V0r X (43 + js) 42 dX8_copy_39 rfl lk_X8_266 mv_X4_isMissing rfl (by omega) (Nat.le_of_ble_eq_true rfl) (by show 43 + js < 51; omega) (cfX_S E hjs _) rfl (k_X4_isMissing (by omega) hjs) ?_
      refine P_bn X 53 45 dX8_copy_42 rfl rfl (fun b42 => ?_) (fun b42 => ?_)
      · have hok3 : ¬ okC3 (h (43 + js) 1) (h (43 + jt) 1) = true := by simp only [okC3, Bool.and_eq_true, Bool.not_eq_true', decide_eq_false_iff_not]; intro zz; simp_all
        rw [if_neg hok3, if_neg hok3] at hQ
        refine P_aload0 X 54 dX8_copy_53 rfl ?_
        refine P_ldcw X kc_X8_270 57 dX8_copy_54 rfl ?_
        refine V1r X 0 60 dX8_copy_57 rfl lk_X8_91 mv_X8_finding rfl (by omega) (Nat.le_of_ble_eq_true rfl) (Nat.le_of_ble_eq_true rfl) rfl rfl (k_X8_finding (by omega)) ?_
        exact P_iret X hQ dX8_copy_60 ⟨rfl, rfl⟩
      · refine P_aload7 X 47 dX8_copy_45 rfl ?_
        refine V0r X (43 + jt) 50 dX8_copy_47 rfl lk_X8_266 mv_X4_isMissing rfl (by omega) (Nat.le_of_ble_eq_true rfl) (by show 43 + jt < 51; omega) (cfX_S E hjt _) rfl (k_X4_isMissing (by omega) hjt) ?_
        refine P_bz X 61 53 dX8_copy_50 rfl rfl (fun b50 => ?_) (fun b50 => ?_)
        · have hok3 : okC3 (h (43 + js) 1) (h (43 + jt) 1) = true := by rw [okC3, b42, b50]; rfl
          rw [if_pos hok3, if_pos hok3] at hQ
          refine P_aload6 X 63 dX8_copy_61 rfl ?_
          refine gX_S_1 X hjs 66 dX8_copy_63 rfl fl_X8_274 ?_
          refine P_aload7 X 68 dX8_copy_66 rfl ?_
          refine gX_S_1 X hjt 71 dX8_copy_68 rfl fl_X8_274 ?_
          refine P_icmp_eq X 81 74 dX8_copy_71 rfl rfl (fun b71 => ?_) (fun b71 => ?_)
          · rw [if_pos b71, if_pos b71] at hQ
            refine P_aload6 X 83 dX8_copy_81 rfl ?_
            refine P_iload2 X 84 dX8_copy_83 rfl ?_
            refine P_iload5 X 86 dX8_copy_84 rfl ?_
            refine V2r X (43 + js) 89 dX8_copy_86 rfl lk_X8_277 mv_X4_hasRange rfl (by omega) (Nat.le_of_ble_eq_true rfl) (by show 43 + js < 51; omega) (cfX_S E hjs _) rfl (k_X4_hasRange (by omega) hjs) ?_
            refine P_bz X 104 92 dX8_copy_89 rfl rfl (fun b89 => ?_) (fun b89 => ?_)
            · have hr : ¬ (hrB (h (43 + js) 2) f n && hrB (h (43 + jt) 2) g n) = true := by rw [b89]; simp
              rw [if_neg hr, if_neg hr] at hQ
              refine P_aload0 X 105 dX8_copy_104 rfl ?_
              refine P_ldc X kc_X8_90 107 dX8_copy_105 rfl ?_
              refine V1r X 0 110 dX8_copy_107 rfl lk_X8_91 mv_X8_finding rfl (by omega) (Nat.le_of_ble_eq_true rfl) (Nat.le_of_ble_eq_true rfl) rfl rfl (k_X8_finding (by omega)) ?_
              exact P_iret X hQ dX8_copy_110 ⟨rfl, rfl⟩
            · refine P_aload7 X 94 dX8_copy_92 rfl ?_
              refine P_iload4 X 96 dX8_copy_94 rfl ?_
              refine P_iload5 X 98 dX8_copy_96 rfl ?_
              refine V2r X (43 + jt) 101 dX8_copy_98 rfl lk_X8_277 mv_X4_hasRange rfl (by omega) (Nat.le_of_ble_eq_true rfl) (by show 43 + jt < 51; omega) (cfX_S E hjt _) rfl (k_X4_hasRange (by omega) hjt) ?_
              refine P_bn X 111 104 dX8_copy_101 rfl rfl (fun b101 => ?_) (fun b101 => ?_)
              · have hr : (hrB (h (43 + js) 2) f n && hrB (h (43 + jt) 2) g n) = true := by rw [b89, b101]; rfl
                rw [if_pos hr, if_pos hr] at hQ
                obtain ⟨fa, nc, hfn, rfl, rfl⟩ := hrB_ex ens hns b89
                obtain ⟨gb, nc2, hgn, rfl, en2⟩ := hrB_ex ent hnt b101
                obtain rfl : nc = nc2 := (nI_eq (by omega) (by omega)).mp en2
                rw [show tn (nI fa) = fa from nI_clamp (by omega), show tn (nI gb) = gb from nI_clamp (by omega), show tn (nI nc) = nc from nI_clamp (by omega)] at hQ
                refine P_aload6 X 113 dX8_copy_111 rfl ?_
                refine gX_S_0 X hjs 116 dX8_copy_113 rfl fl_X8_280 ?_
                refine P_iload2 X 117 dX8_copy_116 rfl ?_
                refine P_aload7 X 119 dX8_copy_117 rfl ?_
                refine gX_S_0 X hjt 122 dX8_copy_119 rfl fl_X8_280 ?_
                refine P_iload4 X 124 dX8_copy_122 rfl ?_
                refine P_iload5 X 126 dX8_copy_124 rfl ?_
                refine P_cpy X (wd := wdX E) (k0 := 47 + js) (k1 := 47 + jt) (n0 := 12) (n1 := 12) (js := fa) (jd := gb) (jn := nc) 129 dX8_copy_126 rfl lk_X8_283 jc_nat jc_st jc_ini (by omega) (by show 47 + js < 51; omega) (by show 47 + jt < 51; omega) (fun f9 => cfX_N E hjs f9) (fun f9 => cfX_N E hjt f9) rfl rfl rfl (by omega) (by omega) (by decide) (by decide) (Nat.le_of_ble_eq_true rfl) ?_
                refine P_iload5 X 131 dX8_copy_129 rfl ?_
                exact P_iret X hQ dX8_copy_131 ⟨rfl, rfl⟩
              · have hr : ¬ (hrB (h (43 + js) 2) f n && hrB (h (43 + jt) 2) g n) = true := by rw [b101]; simp
                rw [if_neg hr, if_neg hr] at hQ
                refine P_aload0 X 105 dX8_copy_104 rfl ?_
                refine P_ldc X kc_X8_90 107 dX8_copy_105 rfl ?_
                refine V1r X 0 110 dX8_copy_107 rfl lk_X8_91 mv_X8_finding rfl (by omega) (Nat.le_of_ble_eq_true rfl) (Nat.le_of_ble_eq_true rfl) rfl rfl (k_X8_finding (by omega)) ?_
                exact P_iret X hQ dX8_copy_110 ⟨rfl, rfl⟩
          · rw [if_neg b71, if_neg b71] at hQ
            refine P_aload0 X 75 dX8_copy_74 rfl ?_
            refine P_ldc X kc_X8_126 77 dX8_copy_75 rfl ?_
            refine V1r X 0 80 dX8_copy_77 rfl lk_X8_91 mv_X8_finding rfl (by omega) (Nat.le_of_ble_eq_true rfl) (Nat.le_of_ble_eq_true rfl) rfl rfl (k_X8_finding (by omega)) ?_
            exact P_iret X hQ dX8_copy_80 ⟨rfl, rfl⟩
        · have hok3 : ¬ okC3 (h (43 + js) 1) (h (43 + jt) 1) = true := by simp only [okC3, Bool.and_eq_true, Bool.not_eq_true', decide_eq_false_iff_not]; intro zz; simp_all
          rw [if_neg hok3, if_neg hok3] at hQ
          refine P_aload0 X 54 dX8_copy_53 rfl ?_
          refine P_ldcw X kc_X8_270 57 dX8_copy_54 rfl ?_
          refine V1r X 0 60 dX8_copy_57 rfl lk_X8_91 mv_X8_finding rfl (by omega) (Nat.le_of_ble_eq_true rfl) (Nat.le_of_ble_eq_true rfl) rfl rfl (k_X8_finding (by omega)) ?_
          exact P_iret X hQ dX8_copy_60 ⟨rfl, rfl⟩
    · have hok : ¬ okCp s t = true := by simp [okCp, b11]
      rw [if_neg hok, if_neg hok] at hQ
      refine P_aload0 X 15 dX8_copy_14 rfl ?_
      refine P_ldc X kc_X8_90 17 dX8_copy_15 rfl ?_
      refine V1r X 0 20 dX8_copy_17 rfl lk_X8_91 mv_X8_finding rfl (by omega) (Nat.le_of_ble_eq_true rfl) (Nat.le_of_ble_eq_true rfl) rfl rfl (k_X8_finding (by omega)) ?_
      exact P_iret X hQ dX8_copy_20 ⟨rfl, rfl⟩
set_option maxHeartbeats 4000000 in
set_option maxRecDepth 100000 in
theorem k_X9_copy {d : Nat} {E : Ev} {s f t g n : Int32} {h : Hp} (hd : 2 ≤ d) (hsz : ∀ j, j < 4 → ∃ n, n ≤ 12 ∧ h 24 j = nI n) : Cl d yX9_copy cX9_copy 7 (some .int) E (wdY E) [.ref (E.2.2.1 0), .int s, .int f, .int t, .int g, .int n] h (Rt (some (.int (if okCp s t then (if okC3 (h 23 (tn s)) (h 23 (tn t)) then (if h 23 (tn s) = h 23 (tn t) then (if (hrB (h 24 (tn s)) f n && hrB (h 24 (tn t)) g n) then n else -1000001) else -1000003) else -1000008) else -1000001))) (if okCp s t then (if okC3 (h 23 (tn s)) (h 23 (tn t)) then (if h 23 (tn s) = h 23 (tn t) then (if (hrB (h 24 (tn s)) f n && hrB (h 24 (tn t)) g n) then cp2 (cp1 h (12 * tn s + tn f) (tn n)) (12 * tn t + tn g) (tn n) else fiY h) else fiY h) else fiY h) else fiY h)) := by
  refine Cl_of [some (.ref (E.2.2.1 0)), some (.int s), some (.int f), some (.int t), some (.int g), some (.int n), none] (by decide) rfl (Nat.le_of_ble_eq_true rfl) (fun K A X hQ => ?_)
  refine P_iload1 X 1 dX9_copy_0 rfl ?_
  refine S1r X 4 dX9_copy_1 rfl lk_X9_219 ms_X9_isSheet rfl (by omega) (Nat.le_of_ble_eq_true rfl) (k_X9_isSheet (by omega)) ?_
  refine P_bz X 14 7 dX9_copy_4 rfl rfl (fun b4 => ?_) (fun b4 => ?_)
  · have hok : ¬ okCp s t = true := by simp [okCp, b4]
    rw [if_neg hok, if_neg hok] at hQ
    refine P_aload0 X 15 dX9_copy_14 rfl ?_
    refine P_ldc X kc_X9_144 17 dX9_copy_15 rfl ?_
    refine V1r X 0 20 dX9_copy_17 rfl lk_X9_145 mv_X9_finding rfl (by omega) (Nat.le_of_ble_eq_true rfl) (Nat.le_of_ble_eq_true rfl) rfl rfl (k_X9_finding (by omega)) ?_
    exact P_iret X hQ dX9_copy_20 ⟨rfl, rfl⟩
  · refine P_iload3 X 8 dX9_copy_7 rfl ?_
    refine S1r X 11 dX9_copy_8 rfl lk_X9_219 ms_X9_isSheet rfl (by omega) (Nat.le_of_ble_eq_true rfl) (k_X9_isSheet (by omega)) ?_
    refine P_bn X 21 14 dX9_copy_11 rfl rfl (fun b11 => ?_) (fun b11 => ?_)
    · obtain ⟨js, hjs, rfl⟩ := inB_ex 3 b4
      obtain ⟨jt, hjt, rfl⟩ := inB_ex 3 b11
      have ejs : tn (nI js) = js := nI_clamp (by omega)
      have ejt : tn (nI jt) = jt := nI_clamp (by omega)
      have hok : okCp (nI js) (nI jt) = true := by rw [okCp, b4, b11]; rfl
      rw [if_pos hok, if_pos hok, ejs, ejt] at hQ
      obtain ⟨ns, hns, ens⟩ := hsz js hjs
      obtain ⟨nt, hnt, ent⟩ := hsz jt hjt
      refine P_aload0 X 22 dX9_copy_21 rfl ?_
      refine gY_0_27 X 25 dX9_copy_22 rfl fl_X9_77 ?_
      refine P_iload1 X 26 dX9_copy_25 rfl ?_
      refine lY_23 X 27 dX9_copy_26 rfl rfl (by omega) ?_
      refine P_if_eq X 39 30 dX9_copy_27 rfl rfl (fun b27 => ?_) (fun b27 => ?_)
      · have hok3 : ¬ okC3 (h 23 js) (h 23 jt) = true := by simp only [okC3, Bool.and_eq_true, Bool.not_eq_true', decide_eq_false_iff_not]; intro zz; simp_all
        rw [if_neg hok3, if_neg hok3] at hQ
        refine P_aload0 X 40 dX9_copy_39 rfl ?_
        refine P_ldc X kc_X9_223 42 dX9_copy_40 rfl ?_
        refine V1r X 0 45 dX9_copy_42 rfl lk_X9_145 mv_X9_finding rfl (by omega) (Nat.le_of_ble_eq_true rfl) (Nat.le_of_ble_eq_true rfl) rfl rfl (k_X9_finding (by omega)) ?_
        exact P_iret X hQ dX9_copy_45 ⟨rfl, rfl⟩
      · refine P_aload0 X 31 dX9_copy_30 rfl ?_
        refine gY_0_27 X 34 dX9_copy_31 rfl fl_X9_77 ?_
        refine P_iload3 X 35 dX9_copy_34 rfl ?_
        refine lY_23 X 36 dX9_copy_35 rfl rfl (by omega) ?_
        refine P_if_ne X 46 39 dX9_copy_36 rfl rfl (fun b36 => ?_) (fun b36 => ?_)
        · have hok3 : okC3 (h 23 js) (h 23 jt) = true := by simp [okC3, b27, b36]
          rw [if_pos hok3, if_pos hok3] at hQ
          refine P_aload0 X 47 dX9_copy_46 rfl ?_
          refine gY_0_27 X 50 dX9_copy_47 rfl fl_X9_77 ?_
          refine P_iload1 X 51 dX9_copy_50 rfl ?_
          refine lY_23 X 52 dX9_copy_51 rfl rfl (by omega) ?_
          refine P_aload0 X 53 dX9_copy_52 rfl ?_
          refine gY_0_27 X 56 dX9_copy_53 rfl fl_X9_77 ?_
          refine P_iload3 X 57 dX9_copy_56 rfl ?_
          refine lY_23 X 58 dX9_copy_57 rfl rfl (by omega) ?_
          refine P_icmp_eq X 68 61 dX9_copy_58 rfl rfl (fun b58 => ?_) (fun b58 => ?_)
          · rw [if_pos b58, if_pos b58] at hQ
            refine P_iload2 X 69 dX9_copy_68 rfl ?_
            refine P_if_lt X 131 72 dX9_copy_69 rfl rfl (fun b69 => ?_) (fun b69 => ?_)
            · have hr : ¬ (hrB (h 24 js) f n && hrB (h 24 jt) g n) = true := by rw [hrB_f1 b69]; simp
              rw [if_neg hr, if_neg hr] at hQ
              refine P_aload0 X 132 dX9_copy_131 rfl ?_
              refine P_ldc X kc_X9_144 134 dX9_copy_132 rfl ?_
              refine V1r X 0 137 dX9_copy_134 rfl lk_X9_145 mv_X9_finding rfl (by omega) (Nat.le_of_ble_eq_true rfl) (Nat.le_of_ble_eq_true rfl) rfl rfl (k_X9_finding (by omega)) ?_
              exact P_iret X hQ dX9_copy_137 ⟨rfl, rfl⟩
            · refine P_iload4 X 74 dX9_copy_72 rfl ?_
              refine P_if_lt X 131 77 dX9_copy_74 rfl rfl (fun b74 => ?_) (fun b74 => ?_)
              · have hr : ¬ (hrB (h 24 js) f n && hrB (h 24 jt) g n) = true := by rw [hrB_f1 (f := g) b74]; simp
                rw [if_neg hr, if_neg hr] at hQ
                refine P_aload0 X 132 dX9_copy_131 rfl ?_
                refine P_ldc X kc_X9_144 134 dX9_copy_132 rfl ?_
                refine V1r X 0 137 dX9_copy_134 rfl lk_X9_145 mv_X9_finding rfl (by omega) (Nat.le_of_ble_eq_true rfl) (Nat.le_of_ble_eq_true rfl) rfl rfl (k_X9_finding (by omega)) ?_
                exact P_iret X hQ dX9_copy_137 ⟨rfl, rfl⟩
              · refine P_iload5 X 79 dX9_copy_77 rfl ?_
                refine P_if_lt X 131 82 dX9_copy_79 rfl rfl (fun b79 => ?_) (fun b79 => ?_)
                · have hr : ¬ (hrB (h 24 js) f n && hrB (h 24 jt) g n) = true := by rw [hrB_f2 b79]; simp
                  rw [if_neg hr, if_neg hr] at hQ
                  refine P_aload0 X 132 dX9_copy_131 rfl ?_
                  refine P_ldc X kc_X9_144 134 dX9_copy_132 rfl ?_
                  refine V1r X 0 137 dX9_copy_134 rfl lk_X9_145 mv_X9_finding rfl (by omega) (Nat.le_of_ble_eq_true rfl) (Nat.le_of_ble_eq_true rfl) rfl rfl (k_X9_finding (by omega)) ?_
                  exact P_iret X hQ dX9_copy_137 ⟨rfl, rfl⟩
                · obtain ⟨fa, hfa, rfl⟩ := nI_of b69
                  obtain ⟨gb, hgb, rfl⟩ := nI_of b74
                  obtain ⟨nc, hnc, rfl⟩ := nI_of b79
                  refine P_iload5 X 84 dX9_copy_82 rfl ?_
                  refine P_aload0 X 85 dX9_copy_84 rfl ?_
                  refine gY_0_28 X 88 dX9_copy_85 rfl fl_X9_80 ?_
                  refine P_iload1 X 89 dX9_copy_88 rfl ?_
                  refine lY_24 X 90 dX9_copy_89 rfl rfl (by omega) ?_
                  refine P_icmp_gt X 131 93 dX9_copy_90 rfl rfl (fun b90 => ?_) (fun b90 => ?_)
                  · have q9 : ¬ nc ≤ ns := fun z => absurd (by rw [ens]; exact nI_le z (by omega)) (Int32.not_le.mpr b90)
                    have hr : ¬ (hrB (h 24 js) (nI fa) (nI nc) && hrB (h 24 jt) (nI gb) (nI nc)) = true := by
                      rw [ens, ent, hrB_n hns hfa hnc, hrB_n hnt hgb hnc]
                      simp only [Bool.and_eq_true, decide_eq_true_eq]
                      omega
                    rw [if_neg hr, if_neg hr] at hQ
                    refine P_aload0 X 132 dX9_copy_131 rfl ?_
                    refine P_ldc X kc_X9_144 134 dX9_copy_132 rfl ?_
                    refine V1r X 0 137 dX9_copy_134 rfl lk_X9_145 mv_X9_finding rfl (by omega) (Nat.le_of_ble_eq_true rfl) (Nat.le_of_ble_eq_true rfl) rfl rfl (k_X9_finding (by omega)) ?_
                    exact P_iret X hQ dX9_copy_137 ⟨rfl, rfl⟩
                  · have q90 : nc ≤ ns := (nI_leI hnc (by omega)).mp (by rw [← ens]; exact Int32.not_lt.mp b90)
                    refine P_iload2 X 94 dX9_copy_93 rfl ?_
                    refine P_aload0 X 95 dX9_copy_94 rfl ?_
                    refine gY_0_28 X 98 dX9_copy_95 rfl fl_X9_80 ?_
                    refine P_iload1 X 99 dX9_copy_98 rfl ?_
                    refine lY_24 X 100 dX9_copy_99 rfl rfl (by omega) ?_
                    refine P_iload5 X 102 dX9_copy_100 rfl ?_
                    refine P_isub X 103 dX9_copy_102 rfl ?_
                    refine P_icmp_gt X 131 106 dX9_copy_103 rfl rfl (fun b103 => ?_) (fun b103 => ?_)
                    · have q9 : ¬ fa ≤ ns - nc := fun z => absurd (by rw [ens, pk_sub (by omega)]; exact nI_le z (by omega)) (Int32.not_le.mpr b103)
                      have hr : ¬ (hrB (h 24 js) (nI fa) (nI nc) && hrB (h 24 jt) (nI gb) (nI nc)) = true := by
                        rw [ens, ent, hrB_n hns hfa hnc, hrB_n hnt hgb hnc]
                        simp only [Bool.and_eq_true, decide_eq_true_eq]
                        omega
                      rw [if_neg hr, if_neg hr] at hQ
                      refine P_aload0 X 132 dX9_copy_131 rfl ?_
                      refine P_ldc X kc_X9_144 134 dX9_copy_132 rfl ?_
                      refine V1r X 0 137 dX9_copy_134 rfl lk_X9_145 mv_X9_finding rfl (by omega) (Nat.le_of_ble_eq_true rfl) (Nat.le_of_ble_eq_true rfl) rfl rfl (k_X9_finding (by omega)) ?_
                      exact P_iret X hQ dX9_copy_137 ⟨rfl, rfl⟩
                    · have q103 : fa ≤ ns - nc := (nI_leI hfa (by omega)).mp (by rw [← pk_sub q90, ← ens]; exact Int32.not_lt.mp b103)
                      refine P_iload5 X 108 dX9_copy_106 rfl ?_
                      refine P_aload0 X 109 dX9_copy_108 rfl ?_
                      refine gY_0_28 X 112 dX9_copy_109 rfl fl_X9_80 ?_
                      refine P_iload3 X 113 dX9_copy_112 rfl ?_
                      refine lY_24 X 114 dX9_copy_113 rfl rfl (by omega) ?_
                      refine P_icmp_gt X 131 117 dX9_copy_114 rfl rfl (fun b114 => ?_) (fun b114 => ?_)
                      · have q9 : ¬ nc ≤ nt := fun z => absurd (by rw [ent]; exact nI_le z (by omega)) (Int32.not_le.mpr b114)
                        have hr : ¬ (hrB (h 24 js) (nI fa) (nI nc) && hrB (h 24 jt) (nI gb) (nI nc)) = true := by
                          rw [ens, ent, hrB_n hns hfa hnc, hrB_n hnt hgb hnc]
                          simp only [Bool.and_eq_true, decide_eq_true_eq]
                          omega
                        rw [if_neg hr, if_neg hr] at hQ
                        refine P_aload0 X 132 dX9_copy_131 rfl ?_
                        refine P_ldc X kc_X9_144 134 dX9_copy_132 rfl ?_
                        refine V1r X 0 137 dX9_copy_134 rfl lk_X9_145 mv_X9_finding rfl (by omega) (Nat.le_of_ble_eq_true rfl) (Nat.le_of_ble_eq_true rfl) rfl rfl (k_X9_finding (by omega)) ?_
                        exact P_iret X hQ dX9_copy_137 ⟨rfl, rfl⟩
                      · have q114 : nc ≤ nt := (nI_leI hnc (by omega)).mp (by rw [← ent]; exact Int32.not_lt.mp b114)
                        refine P_iload4 X 119 dX9_copy_117 rfl ?_
                        refine P_aload0 X 120 dX9_copy_119 rfl ?_
                        refine gY_0_28 X 123 dX9_copy_120 rfl fl_X9_80 ?_
                        refine P_iload3 X 124 dX9_copy_123 rfl ?_
                        refine lY_24 X 125 dX9_copy_124 rfl rfl (by omega) ?_
                        refine P_iload5 X 127 dX9_copy_125 rfl ?_
                        refine P_isub X 128 dX9_copy_127 rfl ?_
                        refine P_icmp_le X 138 131 dX9_copy_128 rfl rfl (fun b128 => ?_) (fun b128 => ?_)
                        · have q128 : gb ≤ nt - nc := (nI_leI hgb (by omega)).mp (by rw [← pk_sub q114, ← ent]; exact b128)
                          have hr : (hrB (h 24 js) (nI fa) (nI nc) && hrB (h 24 jt) (nI gb) (nI nc)) = true := by
                            rw [ens, ent, hrB_n hns hfa hnc, hrB_n hnt hgb hnc]
                            simp only [Bool.and_eq_true, decide_eq_true_eq]
                            omega
                          rw [if_pos hr, if_pos hr, show tn (nI fa) = fa from nI_clamp (by omega), show tn (nI gb) = gb from nI_clamp (by omega), show tn (nI nc) = nc from nI_clamp (by omega)] at hQ
                          obtain ⟨g1, hg1⟩ : ∃ z, cp1 h (12 * js + fa) nc = z := ⟨_, rfl⟩
                          rw [hg1] at hQ
                          have L2 : ∀ (m i : Nat) , i + m = nc → GW K 7 E (wdY E) A 178 [some (.ref (E.2.2.1 0)), some (.int (nI js)), some (.int (nI fa)), some (.int (nI jt)), some (.int (nI gb)), some (.int (nI nc)), some (.int (nI i))] [] (cp2 g1 (12 * jt + gb) i) := by
                            intro m
                            induction m with
                            | zero =>
                              intro i  hm 
                              refine P_iload6 X 180 dX9_copy_178 rfl ?_
                              refine P_iload5 X 182 dX9_copy_180 rfl ?_
                              refine P_icmp_ge X 213 185 dX9_copy_182 rfl rfl (fun b182 => ?_) (fun b182 => ?_)
                              · obtain rfl : i = nc := by omega
                                refine P_iload5 X 215 dX9_copy_213 rfl ?_
                                exact P_iret X hQ dX9_copy_215 ⟨rfl, rfl⟩
                              · exact (geN (rfl : nI nc = nI nc) b182 (by omega) (by omega)).elim
                            | succ m ih =>
                              intro i  hm 
                              refine P_iload6 X 180 dX9_copy_178 rfl ?_
                              refine P_iload5 X 182 dX9_copy_180 rfl ?_
                              refine P_icmp_ge X 213 185 dX9_copy_182 rfl rfl (fun b182 => ?_) (fun b182 => ?_)
                              · exact (geY (rfl : nI nc = nI nc) b182 (by omega) (by omega)).elim
                              · refine P_aload0 X 186 dX9_copy_185 rfl ?_
                                refine gY_0_29 X 189 dX9_copy_186 rfl fl_X9_83 ?_
                                refine P_bipush X (12) rfl 191 dX9_copy_189 rfl ?_
                                refine P_iload3 X 192 dX9_copy_191 rfl ?_
                                refine P_imul X 193 dX9_copy_192 rfl ?_
                                refine P_iload4 X 195 dX9_copy_193 rfl ?_
                                refine P_iadd X 196 dX9_copy_195 rfl ?_
                                refine P_iload6 X 198 dX9_copy_196 rfl ?_
                                refine P_iadd X 199 dX9_copy_198 rfl ?_
                                refine P_aload0 X 200 dX9_copy_199 rfl ?_
                                refine gY_0_40 X 203 dX9_copy_200 rfl fl_X9_104 ?_
                                refine P_iload6 X 205 dX9_copy_203 rfl ?_
                                refine lY_32 X 206 dX9_copy_205 rfl rfl (by omega) ?_
                                refine P_top (y := g1 32 i) (by rw [cp2_n (by decide)]) ?_
                                refine sY_25 X 207 dX9_copy_206 rfl (ixm3 12 jt gb i) (by omega) ?_
                                refine P_iinc6 X (1) rfl 210 dX9_copy_207 rfl (by decide) rfl ?_
                                refine P_goto X 178 dX9_copy_210 rfl ?_
                                rw [nI_1]
                                exact ih (i + 1) (by omega)
                          have L1 : ∀ (m i : Nat) , i + m = nc → GW K 7 E (wdY E) A 141 [some (.ref (E.2.2.1 0)), some (.int (nI js)), some (.int (nI fa)), some (.int (nI jt)), some (.int (nI gb)), some (.int (nI nc)), some (.int (nI i))] [] (cp1 h (12 * js + fa) i) := by
                            intro m
                            induction m with
                            | zero =>
                              intro i  hm 
                              refine P_iload6 X 143 dX9_copy_141 rfl ?_
                              refine P_iload5 X 145 dX9_copy_143 rfl ?_
                              refine P_icmp_ge X 175 148 dX9_copy_145 rfl rfl (fun b145 => ?_) (fun b145 => ?_)
                              · obtain rfl : i = nc := by omega
                                refine P_iconst X (0) rfl 176 dX9_copy_175 rfl ?_
                                refine P_istore6 X 178 dX9_copy_176 rfl (by decide) rfl ?_
                                rw [hg1]
                                exact L2 i 0 (by omega)
                              · exact (geN (rfl : nI nc = nI nc) b145 (by omega) (by omega)).elim
                            | succ m ih =>
                              intro i  hm 
                              refine P_iload6 X 143 dX9_copy_141 rfl ?_
                              refine P_iload5 X 145 dX9_copy_143 rfl ?_
                              refine P_icmp_ge X 175 148 dX9_copy_145 rfl rfl (fun b145 => ?_) (fun b145 => ?_)
                              · exact (geY (rfl : nI nc = nI nc) b145 (by omega) (by omega)).elim
                              · refine P_aload0 X 149 dX9_copy_148 rfl ?_
                                refine gY_0_40 X 152 dX9_copy_149 rfl fl_X9_104 ?_
                                refine P_iload6 X 154 dX9_copy_152 rfl ?_
                                refine P_aload0 X 155 dX9_copy_154 rfl ?_
                                refine gY_0_29 X 158 dX9_copy_155 rfl fl_X9_83 ?_
                                refine P_bipush X (12) rfl 160 dX9_copy_158 rfl ?_
                                refine P_iload1 X 161 dX9_copy_160 rfl ?_
                                refine P_imul X 162 dX9_copy_161 rfl ?_
                                refine P_iload2 X 163 dX9_copy_162 rfl ?_
                                refine P_iadd X 164 dX9_copy_163 rfl ?_
                                refine P_iload6 X 166 dX9_copy_164 rfl ?_
                                refine P_iadd X 167 dX9_copy_166 rfl ?_
                                refine lY_25 X 168 dX9_copy_167 rfl (ixm3 12 js fa i) (by omega) ?_
                                refine P_top (y := h 25 (12 * js + fa + i)) (by rw [cp1_n (by decide)]) ?_
                                refine sY_32 X 169 dX9_copy_168 rfl rfl (by omega) ?_
                                refine P_iinc6 X (1) rfl 172 dX9_copy_169 rfl (by decide) rfl ?_
                                refine P_goto X 141 dX9_copy_172 rfl ?_
                                rw [nI_1]
                                exact ih (i + 1) (by omega)
                          refine P_iconst X (0) rfl 139 dX9_copy_138 rfl ?_
                          refine P_istore6 X 141 dX9_copy_139 rfl (by decide) rfl ?_
                          exact L1 nc 0 (by omega)
                        · have q9 : ¬ gb ≤ nt - nc := fun z => b128 (by rw [ent, pk_sub (by omega)]; exact nI_le z (by omega))
                          have hr : ¬ (hrB (h 24 js) (nI fa) (nI nc) && hrB (h 24 jt) (nI gb) (nI nc)) = true := by
                            rw [ens, ent, hrB_n hns hfa hnc, hrB_n hnt hgb hnc]
                            simp only [Bool.and_eq_true, decide_eq_true_eq]
                            omega
                          rw [if_neg hr, if_neg hr] at hQ
                          refine P_aload0 X 132 dX9_copy_131 rfl ?_
                          refine P_ldc X kc_X9_144 134 dX9_copy_132 rfl ?_
                          refine V1r X 0 137 dX9_copy_134 rfl lk_X9_145 mv_X9_finding rfl (by omega) (Nat.le_of_ble_eq_true rfl) (Nat.le_of_ble_eq_true rfl) rfl rfl (k_X9_finding (by omega)) ?_
                          exact P_iret X hQ dX9_copy_137 ⟨rfl, rfl⟩
          · rw [if_neg b58, if_neg b58] at hQ
            refine P_aload0 X 62 dX9_copy_61 rfl ?_
            refine P_ldc X kc_X9_162 64 dX9_copy_62 rfl ?_
            refine V1r X 0 67 dX9_copy_64 rfl lk_X9_145 mv_X9_finding rfl (by omega) (Nat.le_of_ble_eq_true rfl) (Nat.le_of_ble_eq_true rfl) rfl rfl (k_X9_finding (by omega)) ?_
            exact P_iret X hQ dX9_copy_67 ⟨rfl, rfl⟩
        · have hok3 : ¬ okC3 (h 23 js) (h 23 jt) = true := by simp only [okC3, Bool.and_eq_true, Bool.not_eq_true', decide_eq_false_iff_not]; intro zz; simp_all
          rw [if_neg hok3, if_neg hok3] at hQ
          refine P_aload0 X 40 dX9_copy_39 rfl ?_
          refine P_ldc X kc_X9_223 42 dX9_copy_40 rfl ?_
          refine V1r X 0 45 dX9_copy_42 rfl lk_X9_145 mv_X9_finding rfl (by omega) (Nat.le_of_ble_eq_true rfl) (Nat.le_of_ble_eq_true rfl) rfl rfl (k_X9_finding (by omega)) ?_
          exact P_iret X hQ dX9_copy_45 ⟨rfl, rfl⟩
    · have hok : ¬ okCp s t = true := by simp [okCp, b11]
      rw [if_neg hok, if_neg hok] at hQ
      refine P_aload0 X 15 dX9_copy_14 rfl ?_
      refine P_ldc X kc_X9_144 17 dX9_copy_15 rfl ?_
      refine V1r X 0 20 dX9_copy_17 rfl lk_X9_145 mv_X9_finding rfl (by omega) (Nat.le_of_ble_eq_true rfl) (Nat.le_of_ble_eq_true rfl) rfl rfl (k_X9_finding (by omega)) ?_
      exact P_iret X hQ dX9_copy_20 ⟨rfl, rfl⟩
