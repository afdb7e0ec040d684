/-! order: the reference, and both -/
theorem okO_st {nT : Nat} {f st pl dy wh : Int32} (b : inB st 1 255 = false) : ¬ okO nT f st pl dy wh := by
  rintro ⟨fr, s, p0, dd, w9, h1, rfl, h3, h4, h5, h6, h7, h8, -⟩
  rw [in255_of h7 h8] at b
  cases b
theorem okO_bit {nT fr s i : Nat} {pl dy wh : Int32} (hfr : fr < 2 ^ 31) (hs : s < 256) (hb : s.testBit i = true) (hge : nT ≤ fr + i) : ¬ okO nT (nI fr) (nI s) pl dy wh := by
  rintro ⟨fr', s', p0, dd, w9, h1, h2, h3, h4, h5, h6, h7, h8, h9, h10, h11, h12⟩
  obtain rfl : fr = fr' := (nI_eq hfr h6).mp h1
  obtain rfl : s = s' := (nI_eq (by omega) (by omega)).mp h2
  have := h12 i hb
  omega
theorem bI_n1 {b : Bool} (h : ¬ bI b = 1) : b = false := by
  cases b
  · rfl
  · exact absurd rfl h
theorem one_b : ∀ s, s < 256 → 1 ≤ s → 1 ≤ cnt (tb s) 8 := by decide +kernel
def MI (h h1 : Hp) (fr s i : Nat) : Prop := h1 0 34 = nI (cnt (tb s) i) ∧ (∀ c9, c9 < cnt (tb s) i → h1 29 c9 = nI (mT fr s c9)) ∧ (∀ j9, j9 ≠ 34 → h1 0 j9 = h 0 j9) ∧ ∀ k9, k9 ≠ 0 → k9 ≠ 29 → h1 k9 = h k9
theorem MI_0 {h : Hp} {fr s : Nat} : MI h (put h 0 34 0) fr s 0 := ⟨by rw [put_s]; rfl, fun c9 hc => absurd hc (Nat.not_lt_zero _), fun j9 z => put_i z, fun k9 z _ => put_n z⟩
theorem MI_no {h h1 : Hp} {fr s i : Nat} (hI : MI h h1 fr s i) (hb : s.testBit i = false) : MI h h1 fr s (i + 1) := by
  rw [MI, cnt_nn (q := tb s) hb]
  exact hI
theorem MI_go {h h1 : Hp} {fr s i : Nat} (hI : MI h h1 fr s i) (hi : i < 8) (hb : s.testBit i = true) : MI h (put (put h1 29 (cnt (tb s) i) (nI (fr + i))) 0 34 (nI (cnt (tb s) i + 1))) fr s (i + 1) := by
  obtain ⟨i1, i2, i3, i4⟩ := hI
  have eb : mT fr s (cnt (tb s) i) = fr + i := by rw [mT, bp_of hi hb]
  rw [MI, cnt_yy (q := tb s) hb]
  refine ⟨put_s, fun c9 hc => ?_, fun j9 z => ?_, fun k9 z1 z2 => ?_⟩
  · rw [put_n (by decide)]
    by_cases e : c9 = cnt (tb s) i
    · subst e; rw [put_s, eb]
    · rw [put_i e]; exact i2 c9 (by omega)
  · rw [put_i z, put_n (by decide)]; exact i3 j9 z
  · rw [put_n z1, put_n z2]; exact i4 k9 z1 z2
theorem MI_MW {h h1 : Hp} {rr fr s p0 nT : Nat} (hI : MI h h1 fr s 8) (hR : h 0 19 = nI rr) (hr : rr ≤ 12) (hnT : nT ≤ 40) (hlt : ∀ k9, s.testBit k9 = true → fr + k9 < nT) (hfa : Bd (h 9) 40) (hB : AB (h 1) (h 2) (h 3) (h 4) (h 5) (h 7) (h 8)) (hE : ∀ k9, k9 < 5 → ∃ n, 1 ≤ n ∧ n ≤ 40 ∧ h 17 k9 = nI n) (hp : ∀ t, prY h rr t = -1 ∨ ∃ j9, j9 < 1010 ∧ prY h rr t = nI j9) (h6 : cnt (tb s) 8 ≤ 6) : MW (cnt (tb s) 8) (mT fr s) (pxO (h 2) (h 9) fr s (p0 / 32)) (pxO (h 3) (h 9) fr s (p0 % 32)) (efO (h 17) (h 1) (h 9) fr s) (duO (prY h rr) fr s) rr h1 := by
  obtain ⟨i1, i2, i3, i4⟩ := hI
  have e1 := i4 1 (by decide) (by decide)
  have e2 := i4 2 (by decide) (by decide)
  have e3 := i4 3 (by decide) (by decide)
  have e5 := i4 5 (by decide) (by decide)
  have e9 := i4 9 (by decide) (by decide)
  have e16 := i4 16 (by decide) (by decide)
  have e17 := i4 17 (by decide) (by decide)
  refine ⟨i1, by rw [i3 19 (by decide)]; exact hR, hr, by rw [e9]; exact hfa, by rw [e1]; exact hB.1, fun i hi => ?_⟩
  rw [prY_eq e1 e5 e9 e16, e1, e2, e3, e9, e17]
  obtain ⟨b1, b2, b3⟩ := bp_at hi
  refine ⟨i2 i hi, ?_, ?_, ?_, ?_, ?_⟩
  · have := hlt _ b2
    show fr + bp (tb s) i < 40
    omega
  · rw [pxO, if_pos (by omega)]
    exact (tn_lt hB.2.1 (by omega) _).2
  · rw [pxO, if_pos (by omega)]
    exact (tn_lt hB.2.2.1 (by omega) _).2
  · obtain ⟨n9, h1', h2', h3'⟩ := hE _ (tn_lt hB.1 (by omega) (tn (h 9 (mT fr s i)))).1
    rw [efO, h3', show tn (nI n9) = n9 from nI_clamp (by omega)]
  · rw [duO]
    rcases hp (mT fr s i) with z | ⟨j9, z1, z2⟩
    · rw [if_pos z]; exact Or.inl ⟨z, rfl⟩
    · rw [if_neg (by rw [z2]; exact nI_nm1 (by omega)), z2, show tn (nI j9) = j9 from nI_clamp (by omega)]
      exact Or.inr ⟨rfl, z1⟩
def FmY (g : Hp) : Hp → Prop := fun g' => (∀ j9, j9 ≠ 34 → j9 ≠ 38 → j9 ≠ 39 → g' 0 j9 = g 0 j9) ∧ ∀ k9, k9 ≠ 0 → k9 ≠ 29 → k9 ≠ 30 → k9 ≠ 31 → g' k9 = g k9
theorem FmY_of {g g1 g2 : Hp} {fr s : Nat} (hI : MI g g1 fr s 8) (hF : FY g1 g2) : FmY g g2 := ⟨fun j9 z1 z2 z3 => by rw [hF.1 j9 z2 z3]; exact hI.2.2.1 j9 z1, fun k9 z1 z2 z3 z4 => by rw [hF.2 k9 z1 z3 z4]; exact hI.2.2.2 k9 z1 z2⟩
set_option maxHeartbeats 4000000 in
set_option maxRecDepth 100000 in
theorem k_X9_order {d : Nat} {E : Ev} {rr nT : Nat} {f st pl dy wh : Int32} {h : Hp} (hd : 12 ≤ d) (hR : h 0 19 = nI rr) (hr12 : rr ≤ 12) (hT : h 0 10 = nI nT) (hnT : nT ≤ 40) (hfa : Bd (h 9) 40) (hB : AB (h 1) (h 2) (h 3) (h 4) (h 5) (h 7) (h 8)) (hE : ∀ k9, k9 < 5 → ∃ n, 1 ≤ n ∧ n ≤ 40 ∧ h 17 k9 = nI n) (hp : ∀ t, prY h rr t = -1 ∨ ∃ j9, j9 < 1010 ∧ prY h rr t = nI j9) : Cl d yX9_order cX9_order 8 (some .int) E (wdY E) [.ref (E.2.2.1 0), .int f, .int st, .int pl, .int dy, .int wh] h (PO nT f st pl dy wh (ordV (h 1) (h 2) (h 3) (h 9) (h 17) (prY h rr)) (fiY h) (FmY h)) := by
  refine Cl_of [some (.ref (E.2.2.1 0)), some (.int f), some (.int st), some (.int pl), some (.int dy), some (.int wh), none, none] (by decide) rfl (Nat.le_of_ble_eq_true rfl) (fun K A X hQ => ?_)
  refine P_iload1 X 1 dX9_order_0 rfl ?_
  refine P_if_lt X 39 4 dX9_order_1 rfl rfl (fun b1 => ?_) (fun b1 => ?_)
  · refine P_aload0 X 40 dX9_order_39 rfl ?_
    refine P_ldc X kc_X9_144 42 dX9_order_40 rfl ?_
    refine V1r X 0 45 dX9_order_42 rfl lk_X9_145 mv_X9_finding rfl (by omega) (Nat.le_of_ble_eq_true rfl) (Nat.le_of_ble_eq_true rfl) rfl rfl (k_X9_finding (by omega)) ?_
    exact P_iret X hQ dX9_order_45 (Or.inl ⟨(by first | exact okO_f b1 | exact okO_pl b12 | exact okO_dy b20 | exact okO_w b25 | exact okO_st b36), rfl, rfl⟩)
  · refine P_iload3 X 5 dX9_order_4 rfl ?_
    refine P_iconst X (0) rfl 6 dX9_order_5 rfl ?_
    refine P_sipush X (1023) rfl 9 dX9_order_6 rfl ?_
    refine S3r X 12 dX9_order_9 rfl lk_X9_111 ms_X9_in rfl (by omega) (Nat.le_of_ble_eq_true rfl) (k_X9_in (by omega)) ?_
    refine P_bz X 39 15 dX9_order_12 rfl rfl (fun b12 => ?_) (fun b12 => ?_)
    · refine P_aload0 X 40 dX9_order_39 rfl ?_
      refine P_ldc X kc_X9_144 42 dX9_order_40 rfl ?_
      refine V1r X 0 45 dX9_order_42 rfl lk_X9_145 mv_X9_finding rfl (by omega) (Nat.le_of_ble_eq_true rfl) (Nat.le_of_ble_eq_true rfl) rfl rfl (k_X9_finding (by omega)) ?_
      exact P_iret X hQ dX9_order_45 (Or.inl ⟨(by first | exact okO_f b1 | exact okO_pl b12 | exact okO_dy b20 | exact okO_w b25 | exact okO_st b36), rfl, rfl⟩)
    · refine P_iload4 X 17 dX9_order_15 rfl ?_
      refine S1r X 20 dX9_order_17 rfl lk_X9_137 ms_X9_isDay rfl (by omega) (Nat.le_of_ble_eq_true rfl) (k_X9_isDay (by omega)) ?_
      refine P_bz X 39 23 dX9_order_20 rfl rfl (fun b20 => ?_) (fun b20 => ?_)
      · refine P_aload0 X 40 dX9_order_39 rfl ?_
        refine P_ldc X kc_X9_144 42 dX9_order_40 rfl ?_
        refine V1r X 0 45 dX9_order_42 rfl lk_X9_145 mv_X9_finding rfl (by omega) (Nat.le_of_ble_eq_true rfl) (Nat.le_of_ble_eq_true rfl) rfl rfl (k_X9_finding (by omega)) ?_
        exact P_iret X hQ dX9_order_45 (Or.inl ⟨(by first | exact okO_f b1 | exact okO_pl b12 | exact okO_dy b20 | exact okO_w b25 | exact okO_st b36), rfl, rfl⟩)
      · refine P_iload5 X 25 dX9_order_23 rfl ?_
        refine P_if_lt X 39 28 dX9_order_25 rfl rfl (fun b25 => ?_) (fun b25 => ?_)
        · refine P_aload0 X 40 dX9_order_39 rfl ?_
          refine P_ldc X kc_X9_144 42 dX9_order_40 rfl ?_
          refine V1r X 0 45 dX9_order_42 rfl lk_X9_145 mv_X9_finding rfl (by omega) (Nat.le_of_ble_eq_true rfl) (Nat.le_of_ble_eq_true rfl) rfl rfl (k_X9_finding (by omega)) ?_
          exact P_iret X hQ dX9_order_45 (Or.inl ⟨(by first | exact okO_f b1 | exact okO_pl b12 | exact okO_dy b20 | exact okO_w b25 | exact okO_st b36), rfl, rfl⟩)
        · refine P_iload2 X 29 dX9_order_28 rfl ?_
          refine P_iconst X (1) rfl 30 dX9_order_29 rfl ?_
          refine P_sipush X (255) rfl 33 dX9_order_30 rfl ?_
          refine S3r X 36 dX9_order_33 rfl lk_X9_111 ms_X9_in rfl (by omega) (Nat.le_of_ble_eq_true rfl) (k_X9_in (by omega)) ?_
          refine P_bn X 46 39 dX9_order_36 rfl rfl (fun b36 => ?_) (fun b36 => ?_)
          · obtain ⟨fr, hfr, rfl⟩ := nI_of b1
            obtain ⟨w9, hw9, rfl⟩ := nI_of b25
            obtain ⟨p0, hp0, rfl⟩ := inB_ex 1023 b12
            obtain ⟨dd, hdd, rfl⟩ := inB_ex 999 b20
            obtain ⟨s, hs1, hs2, rfl⟩ := in255 b36
            refine P_iconst X (0) rfl 47 dX9_order_46 rfl ?_
            refine P_istore6 X 49 dX9_order_47 rfl (by decide) rfl ?_
            refine P_iconst X (0) rfl 50 dX9_order_49 rfl ?_
            refine P_istore7 X 52 dX9_order_50 rfl (by decide) rfl ?_
            have L1 : ∀ (m i : Nat) , i + m = 8 → (∀ k9, k9 < i → s.testBit k9 = true → fr + k9 < nT) → GW K 8 E (wdY E) A 52 [some (.ref (E.2.2.1 0)), some (.int (nI fr)), some (.int (nI s)), some (.int (nI p0)), some (.int (nI dd)), some (.int (nI w9)), some (.int (nI (cnt (tb s) i))), some (.int (nI i))] [] h := by
              intro m
              induction m with
              | zero =>
                intro i  hm hI0
                refine P_iload7 X 54 dX9_order_52 rfl ?_
                refine P_bipush X (8) rfl 56 dX9_order_54 rfl ?_
                refine P_icmp_ge X 104 59 dX9_order_56 rfl rfl (fun b56 => ?_) (fun b56 => ?_)
                · have hie : i = 8 := by omega
                  rw [hie] at hI0 ⊢
                  have hs3 : ∀ k9, s.testBit k9 = true → fr + k9 < nT := fun k9 hk => hI0 k9 (tb8 hs2 hk) hk
                  have hok : okP nT (nI fr) (nI s) (nI p0) (nI dd) (nI w9) fr s p0 dd w9 := ⟨rfl, rfl, rfl, rfl, rfl, hfr, hs1, hs2, hp0, hdd, hw9, hs3⟩
                  refine P_iload6 X 106 dX9_order_104 rfl ?_
                  refine P_bipush X (6) rfl 108 dX9_order_106 rfl ?_
                  refine P_icmp_le X 118 111 dX9_order_108 rfl rfl (fun b108 => ?_) (fun b108 => ?_)
                  · have h6 : cnt (tb s) 8 ≤ 6 := (nI_leI (b := 6) (Nat.lt_of_le_of_lt (cnt_le _ 8) (by decide)) (by decide)).mp b108
                    refine P_aload0 X 119 dX9_order_118 rfl ?_
                    refine P_iconst X (0) rfl 120 dX9_order_119 rfl ?_
                    refine pY_0_34 X 123 dX9_order_120 rfl fw_X9_199 ?_
                    refine P_iconst X (0) rfl 124 dX9_order_123 rfl ?_
                    refine P_istore7 X 126 dX9_order_124 rfl (by decide) rfl ?_
                    have L2 : ∀ (m i : Nat) (h1 : Hp), i + m = 8 → (MI h h1 fr s i) → GW K 8 E (wdY E) A 126 [some (.ref (E.2.2.1 0)), some (.int (nI fr)), some (.int (nI s)), some (.int (nI p0)), some (.int (nI dd)), some (.int (nI w9)), some (.int (nI (cnt (tb s) 8))), some (.int (nI i))] [] h1 := by
                      intro m
                      induction m with
                      | zero =>
                        intro i h1 hm hI0
                        refine P_iload7 X 128 dX9_order_126 rfl ?_
                        refine P_bipush X (8) rfl 130 dX9_order_128 rfl ?_
                        refine P_icmp_ge X 172 133 dX9_order_130 rfl rfl (fun b130 => ?_) (fun b130 => ?_)
                        · have hie : i = 8 := by omega
                          rw [hie] at hI0
                          have hMW := MI_MW (p0 := p0) hI0 hR hr12 hnT hs3 hfa hB hE hp h6
                          have hWB := WB_O (fa := h 9) (fr := fr) (pr := prY h rr) hB.2.1 hB.2.2.1 hB.1 hE hp h6 hp0 hdd
                          have hBO := BsT_ok hWB
                          refine P_aload0 X 173 dX9_order_172 rfl ?_
                          refine P_iload3 X 174 dX9_order_173 rfl ?_
                          refine P_iload4 X 176 dX9_order_174 rfl ?_
                          refine V2g X 0 179 dX9_order_176 rfl lk_X9_215 mv_X9_findOrder rfl (by omega) (Nat.le_of_ble_eq_true rfl) (Nat.le_of_ble_eq_true rfl) rfl rfl (k_X9_findOrder (by omega) hWB hMW (one_b s hs2 hs1) hp0 rfl rfl) (fun r h2 hp2 => ?_)
                          obtain ⟨rfl, hBY, hFY⟩ := hp2
                          change GW K 8 E (wdY E) A 179 [some (.ref (E.2.2.1 0)), some (.int (nI fr)), some (.int (nI s)), some (.int (nI p0)), some (.int (nI dd)), some (.int (nI w9)), some (.int (nI (cnt (tb s) 8))), some (.int (nI i))] [] h2
                          obtain ⟨y1, y2, y3⟩ := hBY.1 hBO.2
                          have hM2 := MW_fy hMW hFY
                          refine P_iload5 X 181 dX9_order_179 rfl ?_
                          refine P_iconst X (2) rfl 182 dX9_order_181 rfl ?_
                          refine P_icmp_ge X 202 185 dX9_order_182 rfl rfl (fun b182 => ?_) (fun b182 => ?_)
                          · have hw2 : 2 ≤ w9 := (nI_leI (a := 2) (by decide) (by omega)).mp b182
                            refine P_iload5 X 204 dX9_order_202 rfl ?_
                            refine P_iconst X (2) rfl 205 dX9_order_204 rfl ?_
                            refine P_isub X 206 dX9_order_205 rfl ?_
                            refine P_top (y := nI (w9 - 2)) (pk_sub (b := 2) (by omega)) ?_
                            refine P_aload0 X 207 dX9_order_206 rfl ?_
                            refine gY_0_34 X 210 dX9_order_207 rfl fl_X9_199 ?_
                            refine P_top hM2.1 ?_
                            refine P_icmp_ge X 230 213 dX9_order_210 rfl rfl (fun b210 => ?_) (fun b210 => ?_)
                            · refine P_iconst X (-1) rfl 231 dX9_order_230 rfl ?_
                              exact P_iret X hQ dX9_order_231 (Or.inr (Or.inr ⟨fr, s, p0, dd, w9, hok, h6, congrArg (fun z => some (Value.int z)) (by
                                first
                                  | exact (ansY (by omega) (by omega) hlt).symm
                                  | exact (ansN (by omega) (by omega) (fun z => absurd ((nI_leI (by omega) (by omega)).mp b210) (by omega))).symm), FmY_of hI0 hFY⟩))
                            · have hlt : w9 - 2 < cnt (tb s) 8 := Nat.lt_of_not_le (fun z => b210 (nI_le z (by omega)))
                              have hob := hBO.1.2.2 hBO.2 _ hlt
                              refine P_aload0 X 214 dX9_order_213 rfl ?_
                              refine gY_0_35 X 217 dX9_order_214 rfl fl_X9_95 ?_
                              refine P_aload0 X 218 dX9_order_217 rfl ?_
                              refine gY_0_37 X 221 dX9_order_218 rfl fl_X9_101 ?_
                              refine P_iload5 X 223 dX9_order_221 rfl ?_
                              refine P_iconst X (2) rfl 224 dX9_order_223 rfl ?_
                              refine P_isub X 225 dX9_order_224 rfl ?_
                              refine P_top (y := nI (w9 - 2)) (pk_sub (b := 2) (by omega)) ?_
                              refine lY_31 X 226 dX9_order_225 rfl rfl (by omega) ?_
                              refine P_top (y3 _ hlt) ?_
                              refine lY_29 X 227 dX9_order_226 rfl rfl (by omega) ?_
                              refine P_top (hM2.2.2.2.2.2 _ hob).1 ?_
                              refine P_goto X 231 dX9_order_227 rfl ?_
                              exact P_iret X hQ dX9_order_231 (Or.inr (Or.inr ⟨fr, s, p0, dd, w9, hok, h6, congrArg (fun z => some (Value.int z)) (by
                                first
                                  | exact (ansY (by omega) (by omega) hlt).symm
                                  | exact (ansN (by omega) (by omega) (fun z => absurd ((nI_leI (by omega) (by omega)).mp b210) (by omega))).symm), FmY_of hI0 hFY⟩))
                          · refine P_iload5 X 187 dX9_order_185 rfl ?_
                            refine P_if_ne X 197 190 dX9_order_187 rfl rfl (fun b187 => ?_) (fun b187 => ?_)
                            · refine P_aload0 X 198 dX9_order_197 rfl ?_
                              refine gY_0_39 X 201 dX9_order_198 rfl fl_X9_205 ?_
                              exact P_iret X hQ dX9_order_201 (Or.inr (Or.inr ⟨fr, s, p0, dd, w9, hok, h6, congrArg (fun z => some (Value.int z)) (by
                                have hw2 : w9 < 2 := Nat.lt_of_not_le (fun z => b182 (nI_le (a := 2) z (by omega)))
                                first
                                  | (have hw0 : w9 = 0 := (nI_eq (b := 0) (by omega) (by decide)).mp b187
                                     rw [hw0]; exact y1.trans ans0.symm)
                                  | (have hw1 : w9 = 1 := by
                                       have : ¬ w9 = 0 := fun z => b187 (by rw [z]; rfl)
                                       omega
                                     rw [hw1]; exact y2.trans ans1.symm)), FmY_of hI0 hFY⟩))
                            · refine P_aload0 X 191 dX9_order_190 rfl ?_
                              refine gY_0_38 X 194 dX9_order_191 rfl fl_X9_202 ?_
                              refine P_goto X 201 dX9_order_194 rfl ?_
                              exact P_iret X hQ dX9_order_201 (Or.inr (Or.inr ⟨fr, s, p0, dd, w9, hok, h6, congrArg (fun z => some (Value.int z)) (by
                                have hw2 : w9 < 2 := Nat.lt_of_not_le (fun z => b182 (nI_le (a := 2) z (by omega)))
                                first
                                  | (have hw0 : w9 = 0 := (nI_eq (b := 0) (by omega) (by decide)).mp b187
                                     rw [hw0]; exact y1.trans ans0.symm)
                                  | (have hw1 : w9 = 1 := by
                                       have : ¬ w9 = 0 := fun z => b187 (by rw [z]; rfl)
                                       omega
                                     rw [hw1]; exact y2.trans ans1.symm)), FmY_of hI0 hFY⟩))
                        · exact (geN (show (8 : Int32) = nI 8 from rfl) b130 (by omega) (by omega)).elim
                      | succ m ih =>
                        intro i h1 hm hI0
                        refine P_iload7 X 128 dX9_order_126 rfl ?_
                        refine P_bipush X (8) rfl 130 dX9_order_128 rfl ?_
                        refine P_icmp_ge X 172 133 dX9_order_130 rfl rfl (fun b130 => ?_) (fun b130 => ?_)
                        · exact (geY (show (8 : Int32) = nI 8 from rfl) b130 (by omega) (by omega)).elim
                        · refine P_iload2 X 134 dX9_order_133 rfl ?_
                          refine P_iload7 X 136 dX9_order_134 rfl ?_
                          refine P_ishr X 137 dX9_order_136 rfl ?_
                          refine P_iconst X (1) rfl 138 dX9_order_137 rfl ?_
                          refine P_iand X 139 dX9_order_138 rfl ?_
                          refine P_top (tb_sh (by omega) (by omega)) ?_
                          refine P_iconst X (1) rfl 140 dX9_order_139 rfl ?_
                          refine P_icmp_ne X 166 143 dX9_order_140 rfl rfl (fun b140 => ?_) (fun b140 => ?_)
                          · refine P_iinc7 X (1) rfl 169 dX9_order_166 rfl (by decide) rfl ?_
                            refine P_goto X 126 dX9_order_169 rfl ?_
                            rw [nI_1]
                            first | exact ih (i + 1) _ (by omega) (MI_go hI0 (by omega) hb) | exact ih (i + 1) _ (by omega) (MI_no hI0 (bI_n1 b140))
                          · have hb : s.testBit i = true := bI_1.mp b140
                            have hc6 := cnt_7 h6 (by omega) hb
                            refine P_aload0 X 144 dX9_order_143 rfl ?_
                            refine gY_0_35 X 147 dX9_order_144 rfl fl_X9_95 ?_
                            refine P_aload0 X 148 dX9_order_147 rfl ?_
                            refine gY_0_34 X 151 dX9_order_148 rfl fl_X9_199 ?_
                            refine P_top hI0.1 ?_
                            refine P_iload1 X 152 dX9_order_151 rfl ?_
                            refine P_iload7 X 154 dX9_order_152 rfl ?_
                            refine P_iadd X 155 dX9_order_154 rfl ?_
                            rw [nI_add]
                            refine sY_29 X 156 dX9_order_155 rfl rfl (by omega) ?_
                            refine P_aload0 X 157 dX9_order_156 rfl ?_
                            refine P_dup X rfl 158 dX9_order_157 rfl ?_
                            refine gY_0_34 X 161 dX9_order_158 rfl fl_X9_199 ?_
                            refine P_top (y := nI (cnt (tb s) i)) (by rw [put_n (by decide)]; exact hI0.1) ?_
                            refine P_iconst X (1) rfl 162 dX9_order_161 rfl ?_
                            refine P_iadd X 163 dX9_order_162 rfl ?_
                            rw [nI_1]
                            refine pY_0_34 X 166 dX9_order_163 rfl fw_X9_199 ?_
                            refine P_iinc7 X (1) rfl 169 dX9_order_166 rfl (by decide) rfl ?_
                            refine P_goto X 126 dX9_order_169 rfl ?_
                            rw [nI_1]
                            first | exact ih (i + 1) _ (by omega) (MI_go hI0 (by omega) hb) | exact ih (i + 1) _ (by omega) (MI_no hI0 (bI_n1 b140))
                    exact L2 8 0 _ (by omega) MI_0
                  · refine P_aload0 X 112 dX9_order_111 rfl ?_
                    refine P_ldc X kc_X9_163 114 dX9_order_112 rfl ?_
                    refine V1r X 0 117 dX9_order_114 rfl lk_X9_145 mv_X9_finding rfl (by omega) (Nat.le_of_ble_eq_true rfl) (Nat.le_of_ble_eq_true rfl) rfl rfl (k_X9_finding (by omega)) ?_
                    exact P_iret X hQ dX9_order_117 (Or.inr (Or.inl ⟨fr, s, p0, dd, w9, hok, Nat.lt_of_not_le (fun z => b108 (nI_le (b := 6) z (by decide))), rfl, rfl⟩))
                · exact (geN (show (8 : Int32) = nI 8 from rfl) b56 (by omega) (by omega)).elim
              | succ m ih =>
                intro i  hm hI0
                refine P_iload7 X 54 dX9_order_52 rfl ?_
                refine P_bipush X (8) rfl 56 dX9_order_54 rfl ?_
                refine P_icmp_ge X 104 59 dX9_order_56 rfl rfl (fun b56 => ?_) (fun b56 => ?_)
                · exact (geY (show (8 : Int32) = nI 8 from rfl) b56 (by omega) (by omega)).elim
                · refine P_iload2 X 60 dX9_order_59 rfl ?_
                  refine P_iload7 X 62 dX9_order_60 rfl ?_
                  refine P_ishr X 63 dX9_order_62 rfl ?_
                  refine P_iconst X (1) rfl 64 dX9_order_63 rfl ?_
                  refine P_iand X 65 dX9_order_64 rfl ?_
                  refine P_top (tb_sh (by omega) (by omega)) ?_
                  refine P_iconst X (1) rfl 66 dX9_order_65 rfl ?_
                  refine P_icmp_ne X 98 69 dX9_order_66 rfl rfl (fun b66 => ?_) (fun b66 => ?_)
                  · refine P_iinc7 X (1) rfl 101 dX9_order_98 rfl (by decide) rfl ?_
                    refine P_goto X 52 dX9_order_101 rfl ?_
                    first
                      | (have hb : s.testBit i = true := bI_1.mp b66
                         have e6 : nI (cnt (tb s) i) + 1 = nI (cnt (tb s) (i + 1)) := by rw [nI_1, cnt_yy (q := tb s) hb]
                         rw [e6, nI_1]
                         exact ih (i + 1) (by omega) (lt_s hI0 (fun _ => (nI_ltI (by omega) (by omega)).mp b85)))
                      | (have hb : s.testBit i = false := bI_n1 b66
                         rw [nI_1, ← cnt_nn (q := tb s) hb]
                         exact ih (i + 1) (by omega) (lt_s hI0 (fun z => absurd (hb.symm.trans z) (by decide))))
                  · refine P_iload1 X 70 dX9_order_69 rfl ?_
                    refine P_aload0 X 71 dX9_order_70 rfl ?_
                    refine gY_0_10 X 74 dX9_order_71 rfl fl_X9_118 ?_
                    refine P_top hT ?_
                    refine P_icmp_ge X 88 77 dX9_order_74 rfl rfl (fun b74 => ?_) (fun b74 => ?_)
                    · refine P_aload0 X 89 dX9_order_88 rfl ?_
                      refine P_ldc X kc_X9_144 91 dX9_order_89 rfl ?_
                      refine V1r X 0 94 dX9_order_91 rfl lk_X9_145 mv_X9_finding rfl (by omega) (Nat.le_of_ble_eq_true rfl) (Nat.le_of_ble_eq_true rfl) rfl rfl (k_X9_finding (by omega)) ?_
                      exact P_iret X hQ dX9_order_94 (Or.inl ⟨okO_bit hfr hs2 (bI_1.mp b66) (by first | exact Nat.le_of_not_lt (fun z => b85 (nI_lt z (by omega))) | exact Nat.le_trans ((nI_leI (by omega) (by omega)).mp b74) (Nat.le_add_right _ _)), rfl, rfl⟩)
                    · have hfn : fr < nT := Nat.lt_of_not_le (fun z => b74 (nI_le z (by omega)))
                      refine P_iload1 X 78 dX9_order_77 rfl ?_
                      refine P_iload7 X 80 dX9_order_78 rfl ?_
                      refine P_iadd X 81 dX9_order_80 rfl ?_
                      rw [nI_add]
                      refine P_aload0 X 82 dX9_order_81 rfl ?_
                      refine gY_0_10 X 85 dX9_order_82 rfl fl_X9_118 ?_
                      refine P_top hT ?_
                      refine P_icmp_lt X 95 88 dX9_order_85 rfl rfl (fun b85 => ?_) (fun b85 => ?_)
                      · refine P_iinc6 X (1) rfl 98 dX9_order_95 rfl (by decide) rfl ?_
                        refine P_iinc7 X (1) rfl 101 dX9_order_98 rfl (by decide) rfl ?_
                        refine P_goto X 52 dX9_order_101 rfl ?_
                        first
                          | (have hb : s.testBit i = true := bI_1.mp b66
                             have e6 : nI (cnt (tb s) i) + 1 = nI (cnt (tb s) (i + 1)) := by rw [nI_1, cnt_yy (q := tb s) hb]
                             rw [e6, nI_1]
                             exact ih (i + 1) (by omega) (lt_s hI0 (fun _ => (nI_ltI (by omega) (by omega)).mp b85)))
                          | (have hb : s.testBit i = false := bI_n1 b66
                             rw [nI_1, ← cnt_nn (q := tb s) hb]
                             exact ih (i + 1) (by omega) (lt_s hI0 (fun z => absurd (hb.symm.trans z) (by decide))))
                      · refine P_aload0 X 89 dX9_order_88 rfl ?_
                        refine P_ldc X kc_X9_144 91 dX9_order_89 rfl ?_
                        refine V1r X 0 94 dX9_order_91 rfl lk_X9_145 mv_X9_finding rfl (by omega) (Nat.le_of_ble_eq_true rfl) (Nat.le_of_ble_eq_true rfl) rfl rfl (k_X9_finding (by omega)) ?_
                        exact P_iret X hQ dX9_order_94 (Or.inl ⟨okO_bit hfr hs2 (bI_1.mp b66) (by first | exact Nat.le_of_not_lt (fun z => b85 (nI_lt z (by omega))) | exact Nat.le_trans ((nI_leI (by omega) (by omega)).mp b74) (Nat.le_add_right _ _)), rfl, rfl⟩)
            exact L1 8 0 (by omega) (fun k9 hk => absurd hk (Nat.not_lt_zero _))
          · refine P_aload0 X 40 dX9_order_39 rfl ?_
            refine P_ldc X kc_X9_144 42 dX9_order_40 rfl ?_
            refine V1r X 0 45 dX9_order_42 rfl lk_X9_145 mv_X9_finding rfl (by omega) (Nat.le_of_ble_eq_true rfl) (Nat.le_of_ble_eq_true rfl) rfl rfl (k_X9_finding (by omega)) ?_
            exact P_iret X hQ dX9_order_45 (Or.inl ⟨(by first | exact okO_f b1 | exact okO_pl b12 | exact okO_dy b20 | exact okO_w b25 | exact okO_st b36), rfl, rfl⟩)
set_option maxHeartbeats 4000000 in
theorem op_order {E E2 : Ev} {h g : Hp} (hR : Rel h g) (f st pl dy wh : Int32) : OP yX8_order cX8_order 8 yX9_order cX9_order 8 E E2 [.int f, .int st, .int pl, .int dy, .int wh] h g := by
  have hR0 := hR
  obtain ⟨nA, nT, nL, nR, hA, hT, hD, hM, hS, hf⟩ := hR
  have hA0 := hA
  have hT0 := hT
  have hD0 := hD
  have hM0 := hM
  obtain ⟨a1, a2, a3, a4, a5, a6, a7, a8, a9, a10, a11, aB⟩ := hA
  obtain ⟨t1, t2, t3, t4, t5, t6, t7, t8, tB1, tB2, tB3, t9, t10⟩ := hT
  obtain ⟨d1, d2, d3, d4, d5, d6, d7, d8, dV, d9⟩ := hD
  obtain ⟨m1, m2, m3, m4, m5, m6, mE⟩ := hM
  have e01 : g 0 1 = h 1 8 := a2.trans a1.symm
  have e010 : g 0 10 = h 2 6 := t2.trans t1.symm
  have e017 : g 0 17 = h 4 1 := d2.trans d1.symm
  have e019 : g 0 19 = h 5 4 := d7.trans d6.symm
  have e00 : g 0 0 = h 0 11 := hf.symm
  have aBY : AB (g 1) (g 2) (g 3) (g 4) (g 5) (g 7) (g 8) := by rw [a4, a5, a6, a7, a8, a10, a11]; exact aB
  have t40 : nT ≤ 40 := Nat.le_trans t3 a3
  have tB1Y : Bd (g 9) 40 := by rw [t4]; exact tB1
  have tB2Y : Bd (g 10) 2 := by rw [t5]; exact tB2
  have tB3Y : Bd (g 13) 6 := by rw [t8]; exact tB3
  have dY : TVY (g 16) nR := by
    intro r hr
    obtain ⟨q1, q2, q3, q4, q5⟩ := d9 r hr
    rw [← q1, ← q2, show d1Y (g 16) r = h 30 r from q3.symm, show d2Y (g 16) r = h 31 r from q4.symm, show d3Y (g 16) r = h 32 r from q5.symm]
    exact dV r hr
  have eRow : ∀ k9, rowYf (g 16) nR k9 = rowX h nR k9 := fun k9 => (rowF_cong (fun r hr => ⟨(d9 r hr).1, (d9 r hr).2.2.1⟩) k9).symm
  have eNx : ∀ q9, nxF (g 16) nR q9 = nxX h nR q9 := fun q9 => by
    funext k9
    exact (nxt_cong (fun r hr => ⟨(d9 r hr).2.1, (d9 r hr).2.2.1, (d9 r hr).2.2.2.1, (d9 r hr).2.2.2.2⟩) q9 k9).symm
  have eOw : ∀ t9', owY g nR t9' = owX h nR t9' := by
    intro t9'
    simp only [owY, owX, ownP, a4, a5, a6, t4, eRow, eNx]
    by_cases z : rowX h nR (tn (h 12 (tn (h 20 t9')))) = -1
    · rw [if_pos z, if_pos z]
    · rw [if_neg z, if_neg z]
      obtain ⟨r9, e9, h9, -⟩ : ∃ r, rowX h nR (tn (h 12 (tn (h 20 t9')))) = nI r ∧ r < nR ∧ gvX h r = true := rowF_cases.resolve_left z
      rw [e9, show tn (nI r9) = r9 from nI_clamp (by omega), show d2Y (g 16) r9 = h 31 r9 from (d9 r9 h9).2.2.2.1.symm]
  have ePr : ∀ t9', prY g nR t9' = prX h nR t9' := by
    intro t9'
    simp only [prY, prX, prP, a4, a8, t4, eRow]
    by_cases z : rowX h nR (tn (h 12 (tn (h 20 t9')))) = -1
    · rw [if_pos z, if_pos z]
    · rw [if_neg z, if_neg z]
      obtain ⟨r9, e9, h9, -⟩ : ∃ r, rowX h nR (tn (h 12 (tn (h 20 t9')))) = nI r ∧ r < nR ∧ gvX h r = true := rowF_cases.resolve_left z
      rw [e9, show tn (nI r9) = r9 from nI_clamp (by omega), show d3Y (g 16) r9 = h 32 r9 from (d9 r9 h9).2.2.2.2.symm]
  have k5 := aB.1
  have k5Y : Bd (g 1) 5 := by rw [a4]; exact aB.1
  have dyY : Bd (g 5) 1000 := by rw [a8]; exact aB.2.2.2.2.1
  have hpX : ∀ t, prX h nR t = -1 ∨ ∃ j9, j9 < 1010 ∧ prX h nR t = nI j9 := fun t => (prP_cases d8 dV aB.2.2.2.2.1 t).elim (fun z => Or.inl z.1) (fun z => Or.inr z.2)
  have kX := k_X8_order (E := E) (f := f) (st := st) (pl := pl) (dy := dy) (wh := wh) (d := 40) (by decide) d6 d8 dV t1 t40 tB1 aB mE
  have kY := k_X9_order (E := E2) (f := f) (st := st) (pl := pl) (dy := dy) (wh := wh) (d := 40) (by decide) d7 d8 t2 t40 tB1Y aBY (by rw [m1]; exact mE) (fun t => by rw [ePr t]; exact hpX t)
  have ePrF : prY g nR = prX h nR := funext ePr
  rw [ePrF, a4, a5, a6, t4, m1] at kY
  have inj : ∀ {fr s p0 dd w9 fr' s' p0' dd' w9'}, okP nT f st pl dy wh fr s p0 dd w9 → okP nT f st pl dy wh fr' s' p0' dd' w9' → fr' = fr ∧ s' = s ∧ p0' = p0 ∧ dd' = dd ∧ w9' = w9 := by
    intro fr s p0 dd w9 fr' s' p0' dd' w9' q q'
    obtain ⟨q1, q2, q3, q4, q5, q6, q7, q8, q9, q10, q11, -⟩ := q
    obtain ⟨r1, r2, r3, r4, r5, r6, r7, r8, r9, r10, r11, -⟩ := q'
    exact ⟨(nI_eq r6 q6).mp (r1.symm.trans q1), (nI_eq (by omega) (by omega)).mp (r2.symm.trans q2), (nI_eq (by omega) (by omega)).mp (r3.symm.trans q3), (nI_eq (by omega) (by omega)).mp (r4.symm.trans q4), (nI_eq r11 q11).mp (r5.symm.trans q5)⟩
  by_cases z1 : okO nT f st pl dy wh
  · obtain ⟨fr, s, p0, dd, w9, hok⟩ := z1
    by_cases z2 : 6 < cnt (tb s) 8
    · refine ⟨-1000006, fun h' => h' = fiX h, Cl_mono kX (fun r h' z => ?_), Cl_mono kY (fun r g' z => ?_)⟩
      · rcases z with ⟨z, -⟩ | ⟨_, _, _, _, _, -, -, z3, z4⟩ | ⟨_, _, _, _, _, q, z3, -⟩
        · exact absurd ⟨fr, s, p0, dd, w9, hok⟩ z
        · exact ⟨z3, z4⟩
        · obtain ⟨rfl, rfl, rfl, rfl, rfl⟩ := inj hok q
          omega
      · rcases z with ⟨z, -⟩ | ⟨_, _, _, _, _, -, -, z3, z4⟩ | ⟨_, _, _, _, _, q, z3, -⟩
        · exact absurd ⟨fr, s, p0, dd, w9, hok⟩ z
        · exact ⟨z3, fun h' e => by rw [e, z4]; exact Rel_fi hR0⟩
        · obtain ⟨rfl, rfl, rfl, rfl, rfl⟩ := inj hok q
          omega
    · refine ⟨ordV (h 12) (h 13) (h 14) (h 20) (h 7) (prX h nR) fr s p0 dd w9, FmX h, Cl_mono kX (fun r h' z => ?_), Cl_mono kY (fun r g' z => ?_)⟩
      · rcases z with ⟨z, -⟩ | ⟨_, _, _, _, _, q, z3, -⟩ | ⟨_, _, _, _, _, q, -, z3, z4⟩
        · exact absurd ⟨fr, s, p0, dd, w9, hok⟩ z
        · obtain ⟨rfl, rfl, rfl, rfl, rfl⟩ := inj hok q
          exact absurd z3 z2
        · obtain ⟨rfl, rfl, rfl, rfl, rfl⟩ := inj hok q
          exact ⟨z3, z4⟩
      · rcases z with ⟨z, -⟩ | ⟨_, _, _, _, _, q, z3, -⟩ | ⟨_, _, _, _, _, q, -, z3, z4⟩
        · exact absurd ⟨fr, s, p0, dd, w9, hok⟩ z
        · obtain ⟨rfl, rfl, rfl, rfl, rfl⟩ := inj hok q
          exact absurd z3 z2
        · obtain ⟨rfl, rfl, rfl, rfl, rfl⟩ := inj hok q
          refine ⟨z3, fun h' hh => ?_⟩
          obtain ⟨g0, gg⟩ := z4
          refine Rel_cong hR0 (Or.inl ?_) ?_ ?_ ?_ ?_ (fun k hk => hh k (by omega) (by omega)) (Or.inl ?_) ?_ ?_ ?_ ?_ (fun k h1 h2 => gg k (by omega) (by omega) (by omega) (by omega))
          · rw [hh 0 (by decide) (by decide)]
          · rw [hh 1 (by decide) (by decide)]
          · rw [hh 2 (by decide) (by decide)]
          · rw [hh 4 (by decide) (by decide)]
          · rw [hh 5 (by decide) (by decide)]
          · rw [g0 0 (by decide) (by decide) (by decide)]
          · rw [g0 1 (by decide) (by decide) (by decide)]
          · rw [g0 10 (by decide) (by decide) (by decide)]
          · rw [g0 17 (by decide) (by decide) (by decide)]
          · rw [g0 19 (by decide) (by decide) (by decide)]
  · refine ⟨-1000001, fun h' => h' = fiX h, Cl_mono kX (fun r h' z => ?_), Cl_mono kY (fun r g' z => ?_)⟩
    · rcases z with ⟨-, z3, z4⟩ | ⟨_, _, _, _, _, q, -⟩ | ⟨_, _, _, _, _, q, -⟩
      · exact ⟨z3, z4⟩
      · exact absurd ⟨_, _, _, _, _, q⟩ z1
      · exact absurd ⟨_, _, _, _, _, q⟩ z1
    · rcases z with ⟨-, z3, z4⟩ | ⟨_, _, _, _, _, q, -⟩ | ⟨_, _, _, _, _, q, -⟩
      · exact ⟨z3, fun h' e => by rw [e, z4]; exact Rel_fi hR0⟩
      · exact absurd ⟨_, _, _, _, _, q⟩ z1
      · exact absurd ⟨_, _, _, _, _, q⟩ z1
