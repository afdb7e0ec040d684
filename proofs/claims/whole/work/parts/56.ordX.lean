/-! a crew's order, the class's side -/
def usI (x y : Int32) : Int32 := (x.toUInt32 >>> (y.toUInt32 &&& Int32.toUInt32 31)).toInt32
def bc1 (x : Int32) : Int32 := x - (usI x 1 &&& 1431655765)
def bc2 (x : Int32) : Int32 := (x &&& 858993459) + (usI x 2 &&& 858993459)
def bc3 (x : Int32) : Int32 := (x + usI x 4) &&& 252645135
def bc4 (x : Int32) : Int32 := x + usI x 8
def bc5 (x : Int32) : Int32 := x + usI x 16
def bcI (x : Int32) : Int32 := bc5 (bc4 (bc3 (bc2 (bc1 x)))) &&& 63
abbrev tb (s : Nat) : Nat → Bool := fun k9 => s.testBit k9
theorem bc_ok : ∀ s, s < 256 → bcI (nI s) = nI (cnt (tb s) 8) := by decide +kernel
set_option maxHeartbeats 4000000 in
set_option maxRecDepth 100000 in
theorem k_J6_bitCount_0f7a4 {d : Nat} {E : Ev} {wd : Wd} {s : Nat} {h : Hp} (hd : 0 ≤ d) (hs : s < 256) : Cl d yJ6_bitCount_0f7a4 cJ6_bitCount_0f7a4 1 (some .int) E wd [.int (nI s)] h (Rt (some (.int (nI (cnt (tb s) 8)))) h) := by
  refine Cl_of [some (.int (nI s))] (by decide) rfl (Nat.le_of_ble_eq_true rfl) (fun K A X hQ => ?_)
  refine P_iload0 X 1 dJ6_bitCount_0f7a4_0 rfl ?_
  refine P_iload0 X 2 dJ6_bitCount_0f7a4_1 rfl ?_
  refine P_iconst X (1) rfl 3 dJ6_bitCount_0f7a4_2 rfl ?_
  refine P_iushr X 4 dJ6_bitCount_0f7a4_3 rfl ?_
  refine P_ldcw X kc_J6_265 7 dJ6_bitCount_0f7a4_4 rfl ?_
  refine P_iand X 8 dJ6_bitCount_0f7a4_7 rfl ?_
  refine P_isub X 9 dJ6_bitCount_0f7a4_8 rfl ?_
  refine P_top (y := (bc1 (nI s))) rfl ?_
  refine P_istore0 X 10 dJ6_bitCount_0f7a4_9 rfl (by decide) rfl ?_
  refine P_iload0 X 11 dJ6_bitCount_0f7a4_10 rfl ?_
  refine P_ldcw X kc_J6_266 14 dJ6_bitCount_0f7a4_11 rfl ?_
  refine P_iand X 15 dJ6_bitCount_0f7a4_14 rfl ?_
  refine P_iload0 X 16 dJ6_bitCount_0f7a4_15 rfl ?_
  refine P_iconst X (2) rfl 17 dJ6_bitCount_0f7a4_16 rfl ?_
  refine P_iushr X 18 dJ6_bitCount_0f7a4_17 rfl ?_
  refine P_ldcw X kc_J6_266 21 dJ6_bitCount_0f7a4_18 rfl ?_
  refine P_iand X 22 dJ6_bitCount_0f7a4_21 rfl ?_
  refine P_iadd X 23 dJ6_bitCount_0f7a4_22 rfl ?_
  refine P_top (y := (bc2 (bc1 (nI s)))) rfl ?_
  refine P_istore0 X 24 dJ6_bitCount_0f7a4_23 rfl (by decide) rfl ?_
  refine P_iload0 X 25 dJ6_bitCount_0f7a4_24 rfl ?_
  refine P_iload0 X 26 dJ6_bitCount_0f7a4_25 rfl ?_
  refine P_iconst X (4) rfl 27 dJ6_bitCount_0f7a4_26 rfl ?_
  refine P_iushr X 28 dJ6_bitCount_0f7a4_27 rfl ?_
  refine P_iadd X 29 dJ6_bitCount_0f7a4_28 rfl ?_
  refine P_ldcw X kc_J6_267 32 dJ6_bitCount_0f7a4_29 rfl ?_
  refine P_iand X 33 dJ6_bitCount_0f7a4_32 rfl ?_
  refine P_top (y := (bc3 (bc2 (bc1 (nI s))))) rfl ?_
  refine P_istore0 X 34 dJ6_bitCount_0f7a4_33 rfl (by decide) rfl ?_
  refine P_iload0 X 35 dJ6_bitCount_0f7a4_34 rfl ?_
  refine P_iload0 X 36 dJ6_bitCount_0f7a4_35 rfl ?_
  refine P_bipush X (8) rfl 38 dJ6_bitCount_0f7a4_36 rfl ?_
  refine P_iushr X 39 dJ6_bitCount_0f7a4_38 rfl ?_
  refine P_iadd X 40 dJ6_bitCount_0f7a4_39 rfl ?_
  refine P_top (y := (bc4 (bc3 (bc2 (bc1 (nI s)))))) rfl ?_
  refine P_istore0 X 41 dJ6_bitCount_0f7a4_40 rfl (by decide) rfl ?_
  refine P_iload0 X 42 dJ6_bitCount_0f7a4_41 rfl ?_
  refine P_iload0 X 43 dJ6_bitCount_0f7a4_42 rfl ?_
  refine P_bipush X (16) rfl 45 dJ6_bitCount_0f7a4_43 rfl ?_
  refine P_iushr X 46 dJ6_bitCount_0f7a4_45 rfl ?_
  refine P_iadd X 47 dJ6_bitCount_0f7a4_46 rfl ?_
  refine P_top (y := (bc5 (bc4 (bc3 (bc2 (bc1 (nI s))))))) rfl ?_
  refine P_istore0 X 48 dJ6_bitCount_0f7a4_47 rfl (by decide) rfl ?_
  refine P_iload0 X 49 dJ6_bitCount_0f7a4_48 rfl ?_
  refine P_bipush X (63) rfl 51 dJ6_bitCount_0f7a4_49 rfl ?_
  refine P_iand X 52 dJ6_bitCount_0f7a4_51 rfl ?_
  exact P_iret X hQ dJ6_bitCount_0f7a4_52 (rti (bc_ok s hs))
/-- the things that a set names are there -/
def okS (nT fr : Nat) (st : Int32) : Prop := ∃ s, st = nI s ∧ 1 ≤ s ∧ s < 256 ∧ ∀ k9, s.testBit k9 = true → fr + k9 < nT
noncomputable def arT (nT fr : Nat) (st : Int32) : Bool := @decide (okS nT fr st) (Classical.propDecidable _)
theorem arT_t {nT fr : Nat} {st : Int32} (h : okS nT fr st) : arT nT fr st = true := @decide_eq_true _ (Classical.propDecidable _) h
theorem arT_f {nT fr : Nat} {st : Int32} (h : ¬ okS nT fr st) : arT nT fr st = false := @decide_eq_false _ (Classical.propDecidable _) h
theorem arT_y {nT fr : Nat} {st : Int32} (h : arT nT fr st = true) : okS nT fr st := @of_decide_eq_true _ (Classical.propDecidable _) h
theorem arT_n {nT fr : Nat} {st : Int32} (h : arT nT fr st = false) : ¬ okS nT fr st := @of_decide_eq_false _ (Classical.propDecidable _) h
theorem in255 {st : Int32} (b : inB st 1 255 = true) : ∃ s, 1 ≤ s ∧ s < 256 ∧ st = nI s := by
  obtain ⟨h1, h2⟩ := inB_iff.mp b
  have h0 : ¬ st < 0 := by
    rw [Int32.lt_iff_toInt_lt, show (0 : Int32).toInt = 0 from rfl]
    rw [Int32.le_iff_toInt_le, show (1 : Int32).toInt = 1 from rfl] at h1
    omega
  obtain ⟨s, hs, rfl⟩ := nI_of h0
  rw [Int32.le_iff_toInt_le, nI_toInt hs] at h1 h2
  rw [show (1 : Int32).toInt = 1 from rfl] at h1
  rw [show (255 : Int32).toInt = 255 from rfl] at h2
  exact ⟨s, by omega, by omega, rfl⟩
theorem in255_of {s : Nat} (h1 : 1 ≤ s) (h2 : s < 256) : inB (nI s) 1 255 = true := inB_iff.mpr ⟨nI_le (a := 1) h1 (by omega), nI_le (b := 255) (by omega) (by decide)⟩
theorem okS_in {nT fr : Nat} {st : Int32} (b : inB st 1 255 = false) : ¬ okS nT fr st := by
  rintro ⟨s, rfl, h1, h2, -⟩
  rw [in255_of h1 h2] at b
  cases b
theorem tb8 {s k9 : Nat} (hs : s < 256) (h : s.testBit k9 = true) : k9 < 8 := by
  apply Classical.byContradiction
  intro z
  have h1 : s < 2 ^ k9 := Nat.lt_of_lt_of_le hs (Nat.pow_le_pow_right (n := 2) (i := 8) (by decide) (by omega))
  rw [Nat.testBit_lt_two_pow h1] at h
  cases h
theorem okS_8 {nT fr s : Nat} (hT : nT ≤ 40) (hf : fr < 2 ^ 31) (h1 : 1 ≤ s) (h2 : s < 256) (b : (8 : Int32) ≤ nI nT - nI fr) : okS nT fr (nI s) := by
  rw [Int32.le_iff_toInt_le, sub31 (by omega) hf, show (8 : Int32).toInt = 8 from rfl] at b
  exact ⟨s, rfl, h1, h2, fun k9 hk => by have := tb8 h2 hk; omega⟩
theorem okS_0 {nT fr s : Nat} (hT : nT ≤ 40) (hf : fr < 2 ^ 31) (h1 : 1 ≤ s) (h2 : s < 256) (b : nI nT - nI fr ≤ 0) : ¬ okS nT fr (nI s) := by
  rintro ⟨s', e, -, h3, h4⟩
  obtain rfl : s = s' := (nI_eq (by omega) (by omega)).mp e
  rw [Int32.le_iff_toInt_le, sub31 (by omega) hf, show (0 : Int32).toInt = 0 from rfl] at b
  obtain ⟨k9, -, hk⟩ := Nat.exists_ge_and_testBit_of_ge_two_pow (x := s) (n := 0) h1
  have := h4 k9 hk
  omega
theorem okS_sh {nT fr : Nat} (hT : nT ≤ 40) (hf : fr < 2 ^ 31) (b8 : ¬ (8 : Int32) ≤ nI nT - nI fr) (b0 : ¬ nI nT - nI fr ≤ 0) : fr < nT ∧ nT - fr < 8 ∧ (1 : Int32) <<< ((nI nT - nI fr) &&& 31) = nI (2 ^ (nT - fr)) := by
  rw [Int32.le_iff_toInt_le, sub31 (by omega) hf, show (8 : Int32).toInt = 8 from rfl] at b8
  rw [Int32.le_iff_toInt_le, sub31 (by omega) hf, show (0 : Int32).toInt = 0 from rfl] at b0
  refine ⟨by omega, by omega, ?_⟩
  rw [pk_sub (by omega)]
  exact sl12 _ (by omega)
theorem okS_lt {nT fr s : Nat} (h1 : 1 ≤ s) (h2 : s < 256) (hz : fr < nT ∧ nT - fr < 8 ∧ (1 : Int32) <<< ((nI nT - nI fr) &&& 31) = nI (2 ^ (nT - fr))) (b : ¬ (1 : Int32) <<< ((nI nT - nI fr) &&& 31) ≤ nI s) : okS nT fr (nI s) := by
  obtain ⟨z1, z2, z3⟩ := hz
  rw [z3] at b
  have h3 : s < 2 ^ (nT - fr) := by
    apply Classical.byContradiction
    intro z
    exact b (nI_le (by omega) (by omega))
  refine ⟨s, rfl, h1, h2, fun k9 hk => ?_⟩
  apply Classical.byContradiction
  intro z
  rw [Nat.testBit_lt_two_pow (Nat.lt_of_lt_of_le h3 (Nat.pow_le_pow_right (n := 2) (by decide) (by omega)))] at hk
  cases hk
theorem okS_ge {nT fr s : Nat} (h1 : 1 ≤ s) (h2 : s < 256) (hz : fr < nT ∧ nT - fr < 8 ∧ (1 : Int32) <<< ((nI nT - nI fr) &&& 31) = nI (2 ^ (nT - fr))) (b : (1 : Int32) <<< ((nI nT - nI fr) &&& 31) ≤ nI s) : ¬ okS nT fr (nI s) := by
  obtain ⟨z1, z2, z3⟩ := hz
  rw [z3] at b
  rintro ⟨s', e, -, h3, h4⟩
  obtain rfl : s = s' := (nI_eq (by omega) (by omega)).mp e
  have h5 : 2 ^ (nT - fr) < 2 ^ 31 := Nat.pow_lt_pow_right (by decide) (by omega)
  obtain ⟨k9, hge, hk⟩ := Nat.exists_ge_and_testBit_of_ge_two_pow (x := s) ((nI_leI h5 (by omega)).mp b)
  have := h4 k9 hk
  omega
set_option maxHeartbeats 4000000 in
set_option maxRecDepth 100000 in
theorem k_X8_areThings {d : Nat} {E : Ev} {nT fr : Nat} {st : Int32} {h : Hp} (hd : 1 ≤ d) (hT : h 2 6 = nI nT) (hnT : nT ≤ 40) (hfr : fr < 2 ^ 31) : Cl d yX8_areThings cX8_areThings 4 (some .boolean) E (wdX E) [.ref (E.2.2.1 0), .int (nI fr), .int st] h (Rt (some (.int (bI (arT nT fr st)))) h) := by
  refine Cl_of [some (.ref (E.2.2.1 0)), some (.int (nI fr)), some (.int st), none] (by decide) rfl (Nat.le_of_ble_eq_true rfl) (fun K A X hQ => ?_)
  refine P_iload2 X 1 dX8_areThings_0 rfl ?_
  refine P_iconst X (1) rfl 2 dX8_areThings_1 rfl ?_
  refine P_sipush X (255) rfl 5 dX8_areThings_2 rfl ?_
  refine S3r X 8 dX8_areThings_5 rfl lk_X8_79 ms_X8_within rfl (by omega) (Nat.le_of_ble_eq_true rfl) (k_X8_within (by omega)) ?_
  refine P_bn X 13 11 dX8_areThings_8 rfl rfl (fun b8 => ?_) (fun b8 => ?_)
  · obtain ⟨s, hs1, hs2, rfl⟩ := in255 b8
    refine P_aload0 X 14 dX8_areThings_13 rfl ?_
    refine gX_0_1 X 17 dX8_areThings_14 rfl fl_X8_19 ?_
    refine gX_2_6 X 20 dX8_areThings_17 rfl fl_X8_292 ?_
    refine P_top hT ?_
    refine P_iload1 X 21 dX8_areThings_20 rfl ?_
    refine P_isub X 22 dX8_areThings_21 rfl ?_
    refine P_istore3 X 23 dX8_areThings_22 rfl (by decide) rfl ?_
    refine P_iload3 X 24 dX8_areThings_23 rfl ?_
    refine P_bipush X (8) rfl 26 dX8_areThings_24 rfl ?_
    refine P_icmp_ge X 40 29 dX8_areThings_26 rfl rfl (fun b26 => ?_) (fun b26 => ?_)
    · refine P_iconst X (1) rfl 41 dX8_areThings_40 rfl ?_
      refine P_goto X 45 dX8_areThings_41 rfl ?_
      exact P_zret X hQ dX8_areThings_45 (Or.inr rfl) (rt1 (arT_t (by first | exact okS_8 hnT hfr hs1 hs2 b26 | exact okS_lt hs1 hs2 (okS_sh hnT hfr b26 b30) b37)))
    · refine P_iload3 X 30 dX8_areThings_29 rfl ?_
      refine P_if_le X 44 33 dX8_areThings_30 rfl rfl (fun b30 => ?_) (fun b30 => ?_)
      · refine P_iconst X (0) rfl 45 dX8_areThings_44 rfl ?_
        exact P_zret X hQ dX8_areThings_45 (Or.inl rfl) (rt0 (arT_f (by first | exact okS_0 hnT hfr hs1 hs2 b30 | exact okS_ge hs1 hs2 (okS_sh hnT hfr b26 b30) b37)))
      · refine P_iload2 X 34 dX8_areThings_33 rfl ?_
        refine P_iconst X (1) rfl 35 dX8_areThings_34 rfl ?_
        refine P_iload3 X 36 dX8_areThings_35 rfl ?_
        refine P_ishl X 37 dX8_areThings_36 rfl ?_
        refine P_icmp_ge X 44 40 dX8_areThings_37 rfl rfl (fun b37 => ?_) (fun b37 => ?_)
        · refine P_iconst X (0) rfl 45 dX8_areThings_44 rfl ?_
          exact P_zret X hQ dX8_areThings_45 (Or.inl rfl) (rt0 (arT_f (by first | exact okS_0 hnT hfr hs1 hs2 b30 | exact okS_ge hs1 hs2 (okS_sh hnT hfr b26 b30) b37)))
        · refine P_iconst X (1) rfl 41 dX8_areThings_40 rfl ?_
          refine P_goto X 45 dX8_areThings_41 rfl ?_
          exact P_zret X hQ dX8_areThings_45 (Or.inr rfl) (rt1 (arT_t (by first | exact okS_8 hnT hfr hs1 hs2 b26 | exact okS_lt hs1 hs2 (okS_sh hnT hfr b26 b30) b37)))
  · refine P_iconst X (0) rfl 12 dX8_areThings_11 rfl ?_
    exact P_zret X hQ dX8_areThings_12 (Or.inl rfl) (rt0 (arT_f (okS_in b8)))
set_option maxHeartbeats 4000000 in
set_option maxRecDepth 100000 in
theorem k_X1_begin {d : Nat} {E : Ev} {v : Int32} {h : Hp} (hd : 0 ≤ d)  : Cl d yX1_begin cX1_begin 2 none E (wdX E) [.ref (E.2.2.1 6), .int v] h (Rt none (put (put h 6 7 0) 6 8 v)) := by
  refine Cl_of [some (.ref (E.2.2.1 6)), some (.int v)] (by decide) rfl (Nat.le_of_ble_eq_true rfl) (fun K A X hQ => ?_)
  refine P_aload0 X 1 dX1_begin_0 rfl ?_
  refine P_iconst X (0) rfl 2 dX1_begin_1 rfl ?_
  refine pX_6_7 X 5 dX1_begin_2 rfl fw_X1_33 ?_
  refine P_aload0 X 6 dX1_begin_5 rfl ?_
  refine P_iload1 X 7 dX1_begin_6 rfl ?_
  refine pX_6_8 X 10 dX1_begin_7 rfl fw_X1_37 ?_
  exact P_ret X hQ dX1_begin_10 ⟨rfl, rfl⟩
def tkX (h : Hp) (c9 : Nat) (t x y ef du : Int32) : Hp := put (put (put (put (put (put h 33 c9 t) 34 c9 x) 35 c9 y) 36 c9 ef) 37 c9 du) 6 7 (nI (c9 + 1))
set_option maxHeartbeats 4000000 in
set_option maxRecDepth 100000 in
theorem k_X1_take {d : Nat} {E : Ev} {c9 : Nat} {t x y ef du : Int32} {h : Hp} (hd : 0 ≤ d) (hc : h 6 7 = nI c9) (hc6 : c9 < 6) : Cl d yX1_take cX1_take 6 none E (wdX E) [.ref (E.2.2.1 6), .int t, .int x, .int y, .int ef, .int du] h (Rt none (tkX h c9 t x y ef du)) := by
  refine Cl_of [some (.ref (E.2.2.1 6)), some (.int t), some (.int x), some (.int y), some (.int ef), some (.int du)] (by decide) rfl (Nat.le_of_ble_eq_true rfl) (fun K A X hQ => ?_)
  refine P_aload0 X 1 dX1_take_0 rfl ?_
  refine gX_6_7 X 4 dX1_take_1 rfl fl_X1_33 ?_
  refine P_top hc ?_
  refine P_bipush X (6) rfl 6 dX1_take_4 rfl ?_
  refine P_icmp_ge X 71 9 dX1_take_6 rfl rfl (fun b6 => ?_) (fun b6 => ?_)
  · first
      | exact absurd (show (6 : Int32) ≤ nI c9 from b6) (nI_ge (b := 6) hc6 (by decide))
      | exact P_ret X hQ dX1_take_71 ⟨rfl, rfl⟩
  · refine P_aload0 X 10 dX1_take_9 rfl ?_
    refine gX_6_0 X 13 dX1_take_10 rfl fl_X1_9 ?_
    refine P_aload0 X 14 dX1_take_13 rfl ?_
    refine gX_6_7 X 17 dX1_take_14 rfl fl_X1_33 ?_
    refine P_top (y := nI c9) (by rw [hc]) ?_
    refine P_iload1 X 18 dX1_take_17 rfl ?_
    refine sX_33 X 19 dX1_take_18 rfl rfl (by omega) ?_
    refine P_aload0 X 20 dX1_take_19 rfl ?_
    refine gX_6_1 X 23 dX1_take_20 rfl fl_X1_15 ?_
    refine P_aload0 X 24 dX1_take_23 rfl ?_
    refine gX_6_7 X 27 dX1_take_24 rfl fl_X1_33 ?_
    refine P_top (y := nI c9) (by rw [put_n (by decide), hc]) ?_
    refine P_iload2 X 28 dX1_take_27 rfl ?_
    refine sX_34 X 29 dX1_take_28 rfl rfl (by omega) ?_
    refine P_aload0 X 30 dX1_take_29 rfl ?_
    refine gX_6_2 X 33 dX1_take_30 rfl fl_X1_18 ?_
    refine P_aload0 X 34 dX1_take_33 rfl ?_
    refine gX_6_7 X 37 dX1_take_34 rfl fl_X1_33 ?_
    refine P_top (y := nI c9) (by rw [put_n (by decide), put_n (by decide), hc]) ?_
    refine P_iload3 X 38 dX1_take_37 rfl ?_
    refine sX_35 X 39 dX1_take_38 rfl rfl (by omega) ?_
    refine P_aload0 X 40 dX1_take_39 rfl ?_
    refine gX_6_3 X 43 dX1_take_40 rfl fl_X1_21 ?_
    refine P_aload0 X 44 dX1_take_43 rfl ?_
    refine gX_6_7 X 47 dX1_take_44 rfl fl_X1_33 ?_
    refine P_top (y := nI c9) (by rw [put_n (by decide), put_n (by decide), put_n (by decide), hc]) ?_
    refine P_iload4 X 49 dX1_take_47 rfl ?_
    refine sX_36 X 50 dX1_take_49 rfl rfl (by omega) ?_
    refine P_aload0 X 51 dX1_take_50 rfl ?_
    refine gX_6_4 X 54 dX1_take_51 rfl fl_X1_24 ?_
    refine P_aload0 X 55 dX1_take_54 rfl ?_
    refine gX_6_7 X 58 dX1_take_55 rfl fl_X1_33 ?_
    refine P_top (y := nI c9) (by rw [put_n (by decide), put_n (by decide), put_n (by decide), put_n (by decide), hc]) ?_
    refine P_iload5 X 60 dX1_take_58 rfl ?_
    refine sX_37 X 61 dX1_take_60 rfl rfl (by omega) ?_
    refine P_aload0 X 62 dX1_take_61 rfl ?_
    refine P_dup X rfl 63 dX1_take_62 rfl ?_
    refine gX_6_7 X 66 dX1_take_63 rfl fl_X1_33 ?_
    refine P_top (y := nI c9) (by rw [put_n (by decide), put_n (by decide), put_n (by decide), put_n (by decide), put_n (by decide), hc]) ?_
    refine P_iconst X (1) rfl 67 dX1_take_66 rfl ?_
    refine P_iadd X 68 dX1_take_67 rfl ?_
    rw [nI_1]
    refine pX_6_7 X 71 dX1_take_68 rfl fw_X1_33 ?_
    first
      | exact absurd (show (6 : Int32) ≤ nI c9 from b6) (nI_ge (b := 6) hc6 (by decide))
      | exact P_ret X hQ dX1_take_71 ⟨rfl, rfl⟩
def duI (h : Hp) (rr kk a : Nat) : Int32 := if rowX h rr kk = -1 then 1000000 else h 16 a + h 32 (tn (rowX h rr kk))
def gcX (h : Hp) (rr c9 t : Nat) : Hp := tkX h c9 (nI t) (h 13 (tn (h 20 t))) (h 14 (tn (h 20 t))) (h 7 (tn (h 12 (tn (h 20 t))))) (duI h rr (tn (h 12 (tn (h 20 t)))) (tn (h 20 t)))
theorem gcX_e {h : Hp} {rr c9 t a kk : Nat} (ea : h 20 t = nI a) (ha : a < 40) (ek : h 12 a = nI kk) (hkk : kk < 5) : gcX h rr c9 t = tkX h c9 (nI t) (h 13 a) (h 14 a) (h 7 kk) (duI h rr kk a) := by
  have e1 : tn (h 20 t) = a := by rw [ea]; exact nI_clamp (by omega)
  have e2 : tn (h 12 a) = kk := by rw [ek]; exact nI_clamp (by omega)
  simp only [gcX, e1, e2]
set_option maxHeartbeats 4000000 in
set_option maxRecDepth 100000 in
theorem k_X8_giveToCrew {d : Nat} {E : Ev} {rr c9 t : Nat} {h : Hp} (hd : 3 ≤ d) (hR : h 5 4 = nI rr) (hr12 : rr ≤ 12) (hV : TVX h rr) (ht : t < 40) (hfa : Bd (h 20) 40) (hk5 : Bd (h 12) 5) (hc : h 6 7 = nI c9) (hc6 : c9 < 6) : Cl d yX8_giveToCrew cX8_giveToCrew 5 none E (wdX E) [.ref (E.2.2.1 0), .int (nI t)] h (Rt none (gcX h rr c9 t)) := by
  refine Cl_of [some (.ref (E.2.2.1 0)), some (.int (nI t)), none, none, none] (by decide) rfl (Nat.le_of_ble_eq_true rfl) (fun K A X hQ => ?_)
  obtain ⟨a, ha, ea⟩ := hfa t
  obtain ⟨kk, hkk, ek⟩ := hk5 a
  rw [gcX_e ea ha ek hkk] at hQ
  refine P_aload0 X 1 dX8_giveToCrew_0 rfl ?_
  refine gX_0_1 X 4 dX8_giveToCrew_1 rfl fl_X8_19 ?_
  refine gX_2_0 X 7 dX8_giveToCrew_4 rfl fl_X8_322 ?_
  refine P_iload1 X 8 dX8_giveToCrew_7 rfl ?_
  refine lX_20 X 9 dX8_giveToCrew_8 rfl rfl (by omega) ?_
  refine P_top ea ?_
  refine P_istore2 X 10 dX8_giveToCrew_9 rfl (by decide) rfl ?_
  refine P_aload0 X 11 dX8_giveToCrew_10 rfl ?_
  refine gX_0_4 X 14 dX8_giveToCrew_11 rfl fl_X8_40 ?_
  refine P_aload0 X 15 dX8_giveToCrew_14 rfl ?_
  refine gX_0_0 X 18 dX8_giveToCrew_15 rfl fl_X8_10 ?_
  refine gX_1_0 X 21 dX8_giveToCrew_18 rfl fl_X8_120 ?_
  refine P_iload2 X 22 dX8_giveToCrew_21 rfl ?_
  refine lX_12 X 23 dX8_giveToCrew_22 rfl rfl (by omega) ?_
  refine P_top ek ?_
  refine V1r X 5 26 dX8_giveToCrew_23 rfl lk_X8_172 mv_X2_daysFor rfl (by omega) (Nat.le_of_ble_eq_true rfl) (Nat.le_of_ble_eq_true rfl) rfl rfl (k_X2_daysFor (by omega) hR hr12 hkk) ?_
  by_cases hne : rowX h rr kk = -1
  · rw [if_pos hne]
    rw [show duI h rr kk a = 1000000 from if_pos hne] at hQ
    refine P_istore3 X 27 dX8_giveToCrew_26 rfl (by decide) rfl ?_
    refine P_iload3 X 28 dX8_giveToCrew_27 rfl ?_
    refine P_iconst X (-1) rfl 29 dX8_giveToCrew_28 rfl ?_
    refine P_icmp_ne X 38 32 dX8_giveToCrew_29 rfl rfl (fun b29 => ?_) (fun b29 => ?_)
    · exact absurd rfl b29
    · refine P_ldcw X kc_X8_349 35 dX8_giveToCrew_32 rfl ?_
      refine P_goto X 49 dX8_giveToCrew_35 rfl ?_
      refine P_istore4 X 51 dX8_giveToCrew_49 rfl (by decide) rfl ?_
      refine P_aload0 X 52 dX8_giveToCrew_51 rfl ?_
      refine gX_0_5 X 55 dX8_giveToCrew_52 rfl fl_X8_47 ?_
      refine P_iload1 X 56 dX8_giveToCrew_55 rfl ?_
      refine P_aload0 X 57 dX8_giveToCrew_56 rfl ?_
      refine gX_0_0 X 60 dX8_giveToCrew_57 rfl fl_X8_10 ?_
      refine gX_1_1 X 63 dX8_giveToCrew_60 rfl fl_X8_331 ?_
      refine P_iload2 X 64 dX8_giveToCrew_63 rfl ?_
      refine lX_13 X 65 dX8_giveToCrew_64 rfl rfl (by omega) ?_
      refine P_aload0 X 66 dX8_giveToCrew_65 rfl ?_
      refine gX_0_0 X 69 dX8_giveToCrew_66 rfl fl_X8_10 ?_
      refine gX_1_2 X 72 dX8_giveToCrew_69 rfl fl_X8_334 ?_
      refine P_iload2 X 73 dX8_giveToCrew_72 rfl ?_
      refine lX_14 X 74 dX8_giveToCrew_73 rfl rfl (by omega) ?_
      refine P_aload0 X 75 dX8_giveToCrew_74 rfl ?_
      refine gX_0_6 X 78 dX8_giveToCrew_75 rfl fl_X8_51 ?_
      refine P_aload0 X 79 dX8_giveToCrew_78 rfl ?_
      refine gX_0_0 X 82 dX8_giveToCrew_79 rfl fl_X8_10 ?_
      refine gX_1_0 X 85 dX8_giveToCrew_82 rfl fl_X8_120 ?_
      refine P_iload2 X 86 dX8_giveToCrew_85 rfl ?_
      refine lX_12 X 87 dX8_giveToCrew_86 rfl rfl (by omega) ?_
      refine lX_7 X 88 dX8_giveToCrew_87 rfl ek hkk ?_
      refine P_iload4 X 90 dX8_giveToCrew_88 rfl ?_
      refine V5v X 6 93 dX8_giveToCrew_90 rfl lk_X8_350 mv_X1_take rfl (by omega) (Nat.le_of_ble_eq_true rfl) (Nat.le_of_ble_eq_true rfl) rfl rfl (k_X1_take (by omega) hc hc6) ?_
      exact P_ret X hQ dX8_giveToCrew_93 ⟨rfl, rfl⟩
  · rw [if_neg hne]
    obtain ⟨r9, e9, h9, hg9⟩ : ∃ r, rowX h rr kk = nI r ∧ r < rr ∧ gvX h r = true := rowF_cases.resolve_left hne
    have er9 : tn (rowX h rr kk) = r9 := by rw [e9]; exact nI_clamp (by omega)
    obtain ⟨d9, hd9, hd8, ed9⟩ : ∃ k, 1 ≤ k ∧ k < 10 ∧ h 32 r9 = nI k := by
      rcases hV r9 h9 with z | z
      · exact z.2.2.2.2
      · rw [z.1] at hg9; cases hg9
    rw [er9, ed9]
    rw [show duI h rr kk a = h 16 a + nI d9 by rw [duI, if_neg hne, er9, ed9]] at hQ
    refine P_istore3 X 27 dX8_giveToCrew_26 rfl (by decide) rfl ?_
    refine P_iload3 X 28 dX8_giveToCrew_27 rfl ?_
    refine P_iconst X (-1) rfl 29 dX8_giveToCrew_28 rfl ?_
    refine P_icmp_ne X 38 32 dX8_giveToCrew_29 rfl rfl (fun b29 => ?_) (fun b29 => ?_)
    · refine P_aload0 X 39 dX8_giveToCrew_38 rfl ?_
      refine gX_0_0 X 42 dX8_giveToCrew_39 rfl fl_X8_10 ?_
      refine gX_1_4 X 45 dX8_giveToCrew_42 rfl fl_X8_325 ?_
      refine P_iload2 X 46 dX8_giveToCrew_45 rfl ?_
      refine lX_16 X 47 dX8_giveToCrew_46 rfl rfl (by omega) ?_
      refine P_iload3 X 48 dX8_giveToCrew_47 rfl ?_
      refine P_iadd X 49 dX8_giveToCrew_48 rfl ?_
      refine P_istore4 X 51 dX8_giveToCrew_49 rfl (by decide) rfl ?_
      refine P_aload0 X 52 dX8_giveToCrew_51 rfl ?_
      refine gX_0_5 X 55 dX8_giveToCrew_52 rfl fl_X8_47 ?_
      refine P_iload1 X 56 dX8_giveToCrew_55 rfl ?_
      refine P_aload0 X 57 dX8_giveToCrew_56 rfl ?_
      refine gX_0_0 X 60 dX8_giveToCrew_57 rfl fl_X8_10 ?_
      refine gX_1_1 X 63 dX8_giveToCrew_60 rfl fl_X8_331 ?_
      refine P_iload2 X 64 dX8_giveToCrew_63 rfl ?_
      refine lX_13 X 65 dX8_giveToCrew_64 rfl rfl (by omega) ?_
      refine P_aload0 X 66 dX8_giveToCrew_65 rfl ?_
      refine gX_0_0 X 69 dX8_giveToCrew_66 rfl fl_X8_10 ?_
      refine gX_1_2 X 72 dX8_giveToCrew_69 rfl fl_X8_334 ?_
      refine P_iload2 X 73 dX8_giveToCrew_72 rfl ?_
      refine lX_14 X 74 dX8_giveToCrew_73 rfl rfl (by omega) ?_
      refine P_aload0 X 75 dX8_giveToCrew_74 rfl ?_
      refine gX_0_6 X 78 dX8_giveToCrew_75 rfl fl_X8_51 ?_
      refine P_aload0 X 79 dX8_giveToCrew_78 rfl ?_
      refine gX_0_0 X 82 dX8_giveToCrew_79 rfl fl_X8_10 ?_
      refine gX_1_0 X 85 dX8_giveToCrew_82 rfl fl_X8_120 ?_
      refine P_iload2 X 86 dX8_giveToCrew_85 rfl ?_
      refine lX_12 X 87 dX8_giveToCrew_86 rfl rfl (by omega) ?_
      refine lX_7 X 88 dX8_giveToCrew_87 rfl ek hkk ?_
      refine P_iload4 X 90 dX8_giveToCrew_88 rfl ?_
      refine V5v X 6 93 dX8_giveToCrew_90 rfl lk_X8_350 mv_X1_take rfl (by omega) (Nat.le_of_ble_eq_true rfl) (Nat.le_of_ble_eq_true rfl) rfl rfl (k_X1_take (by omega) hc hc6) ?_
      exact P_ret X hQ dX8_giveToCrew_93 ⟨rfl, rfl⟩
    · exact absurd b29 (nI_nm1 (by omega))
set_option maxHeartbeats 4000000 in
set_option maxRecDepth 100000 in
theorem k_X1_keepTried {d : Nat} {E : Ev} {nm : Nat} {hr bk : Int32} {h : Hp} (hd : 0 ≤ d) (hc : h 6 7 = nI nm) (hm6 : nm ≤ 6) : Cl d yX1_keepTried cX1_keepTried 4 none E (wdX E) [.ref (E.2.2.1 6), .int hr, .int bk] h (fun r h' => r = none ∧ ∃ f, h' = up2 (put (put h 6 9 bk) 6 10 hr) 39 f ∧ ∀ j9, j9 < nm → f j9 = h 38 j9) := by
  refine Cl_of [some (.ref (E.2.2.1 6)), some (.int hr), some (.int bk), none] (by decide) rfl (Nat.le_of_ble_eq_true rfl) (fun K A X hQ => ?_)
  have hcc : ∀ f, up2 (put (put h 6 9 bk) 6 10 hr) 39 f 6 7 = nI nm := fun f => by rw [up2_n (by decide), put_i (by decide), put_i (by decide), hc]
  have h38 : ∀ f, up2 (put (put h 6 9 bk) 6 10 hr) 39 f 38 = h 38 := fun f => by rw [up2_n (by decide), put_n (by decide), put_n (by decide)]
  have L : ∀ (m i : Nat) (f : Nat → Int32), i + m = nm → (∀ a, a < i → f a = h 38 a) → GW K 4 E (wdX E) A 12 [some (.ref (E.2.2.1 6)), some (.int hr), some (.int bk), some (.int (nI i))] [] (up2 (put (put h 6 9 bk) 6 10 hr) 39 f) := by
    intro m
    induction m with
    | zero =>
      intro i f hm hI0
      refine P_iload3 X 13 dX1_keepTried_12 rfl ?_
      refine P_aload0 X 14 dX1_keepTried_13 rfl ?_
      refine gX_6_7 X 17 dX1_keepTried_14 rfl fl_X1_33 ?_
      refine P_icmp_ge X 38 20 dX1_keepTried_17 rfl rfl (fun b17 => ?_) (fun b17 => ?_)
      · obtain rfl : i = nm := by omega
        exact P_ret X hQ dX1_keepTried_38 ⟨rfl, f, rfl, hI0⟩
      · exact (geN (hcc f) b17 (by omega) (by omega)).elim
    | succ m ih =>
      intro i f hm hI0
      refine P_iload3 X 13 dX1_keepTried_12 rfl ?_
      refine P_aload0 X 14 dX1_keepTried_13 rfl ?_
      refine gX_6_7 X 17 dX1_keepTried_14 rfl fl_X1_33 ?_
      refine P_icmp_ge X 38 20 dX1_keepTried_17 rfl rfl (fun b17 => ?_) (fun b17 => ?_)
      · exact (geY (hcc f) b17 (by omega) (by omega)).elim
      · refine P_aload0 X 21 dX1_keepTried_20 rfl ?_
        refine gX_6_6 X 24 dX1_keepTried_21 rfl fl_X1_30 ?_
        refine P_iload3 X 25 dX1_keepTried_24 rfl ?_
        refine P_aload0 X 26 dX1_keepTried_25 rfl ?_
        refine gX_6_5 X 29 dX1_keepTried_26 rfl fl_X1_27 ?_
        refine P_iload3 X 30 dX1_keepTried_29 rfl ?_
        refine lX_38 X 31 dX1_keepTried_30 rfl rfl (by omega) ?_
        rw [h38]
        refine sX_39 X 32 dX1_keepTried_31 rfl rfl (by omega) ?_
        refine P_iinc3 X (1) rfl 35 dX1_keepTried_32 rfl (by decide) rfl ?_
        refine P_goto X 12 dX1_keepTried_35 rfl ?_
        rw [nI_1, put_up2]
        exact ih (i + 1) _ (by omega) (lt_s (fx_o hI0) pk_us)
  refine P_aload0 X 1 dX1_keepTried_0 rfl ?_
  refine P_iload2 X 2 dX1_keepTried_1 rfl ?_
  refine pX_6_9 X 5 dX1_keepTried_2 rfl fw_X1_40 ?_
  refine P_aload0 X 6 dX1_keepTried_5 rfl ?_
  refine P_iload1 X 7 dX1_keepTried_6 rfl ?_
  refine pX_6_10 X 10 dX1_keepTried_7 rfl fw_X1_43 ?_
  refine P_iconst X (0) rfl 11 dX1_keepTried_10 rfl ?_
  refine P_istore3 X 12 dX1_keepTried_11 rfl (by decide) rfl ?_
  have e39 : ∀ hh : Hp, up2 hh 39 (hh 39) = hh := fun hh => by
    funext j9
    by_cases e : j9 = 39
    · subst e; exact up2_s
    · exact up2_n e
  rw [← e39 (put (put h 6 9 bk) 6 10 hr)]
  exact L nm 0 _ (by omega) (fun a ha => absurd ha (Nat.not_lt_zero _))
/-- the crew as its cells hold it -/
def WB (px py ef du : Nat → Nat) (dd nm : Nat) : Prop := nm ≤ 6 ∧ dd < 1000 ∧ (∀ a, px a < 32) ∧ (∀ a, py a < 32) ∧ (∀ a, 1 ≤ ef a ∧ ef a ≤ 40) ∧ ∀ a, du a ≤ 1000000
def CW (nm : Nat) (px py ef du : Nat → Nat) (dd : Nat) (h : Hp) : Prop := h 6 7 = nI nm ∧ h 6 8 = nI dd ∧ ∀ i, i < nm → h 34 i = nI (px i) ∧ h 35 i = nI (py i) ∧ h 36 i = nI (ef i) ∧ h 37 i = nI (du i)
def BX (nm : Nat) (h : Hp) (B : Bst) : Prop := h 6 9 = nI B.1 ∧ h 6 10 = nI B.2.1 ∧ (B.1 ≤ nm → ∀ j9, j9 < nm → h 39 j9 = nI (B.2.2 j9))
def SM (dp : Nat) (h h' : Hp) : Prop := (∀ j9, j9 < dp → h' 38 j9 = h 38 j9) ∧ (∀ j9, j9 ≠ 9 → j9 ≠ 10 → h' 6 j9 = h 6 j9) ∧ ∀ k9, k9 ≠ 6 → k9 ≠ 38 → k9 ≠ 39 → h' k9 = h k9
def PG (nm : Nat) (px py ef du : Nat → Nat) (dd dp : Nat) (p : Nat → Nat) (s : Sst) (B : Bst) (h : Hp) : Prop := CW nm px py ef du dd h ∧ BX nm h B ∧ OKB nm B ∧ (∀ j9, j9 < dp → h 38 j9 = nI (p j9)) ∧ (∀ j9, j9 < dp → p j9 < nm) ∧ s.2.1 ≤ 50 * dp ∧ s.2.2 ≤ dp
def QG (N : Sst → Nat → Sst) (nm r dp : Nat) (p : Nat → Nat) (s : Sst) (B : Bst) (h h' : Hp) : Prop := BX nm h' (srch N nm r dp p s B) ∧ SM dp h h'
noncomputable abbrev Fs (N : Sst → Nat → Sst) (nm r dp : Nat) (p : Nat → Nat) (s : Sst) : Nat → Bst → Bst := fun i B' => if anyP p dp i then B' else srch N nm r (dp + 1) (cx p dp i) (N s i) B'
def LG (N : Sst → Nat → Sst) (nm r dp : Nat) (p : Nat → Nat) (s : Sst) (B : Bst) (h : Hp) (i : Nat) (h1 : Hp) : Prop := BX nm h1 (fl (Fs N nm r dp p s) i B) ∧ SM dp h h1
theorem SM_refl {dp : Nat} {h : Hp} : SM dp h h := ⟨fun _ _ => rfl, fun _ _ _ => rfl, fun _ _ _ _ => rfl⟩
theorem SM_trans {dp : Nat} {h h1 h2 : Hp} (a : SM dp h h1) (b : SM dp h1 h2) : SM dp h h2 := ⟨fun j9 hj => (b.1 j9 hj).trans (a.1 j9 hj), fun j9 z1 z2 => (b.2.1 j9 z1 z2).trans (a.2.1 j9 z1 z2), fun k9 z1 z2 z3 => (b.2.2 k9 z1 z2 z3).trans (a.2.2 k9 z1 z2 z3)⟩
theorem SM_less {dp : Nat} {h h1 : Hp} (a : SM (dp + 1) h h1) : SM dp h h1 := ⟨fun j9 hj => a.1 j9 (by omega), a.2⟩
theorem SM_put {dp : Nat} {h h1 : Hp} {v : Int32} (a : SM dp h h1) : SM dp h (put h1 38 dp v) := ⟨fun j9 hj => by rw [put_i (by omega)]; exact a.1 j9 hj, fun j9 z1 z2 => by rw [put_n (by decide)]; exact a.2.1 j9 z1 z2, fun k9 z1 z2 z3 => by rw [put_n z2]; exact a.2.2 k9 z1 z2 z3⟩
theorem CW_sm {nm : Nat} {px py ef du : Nat → Nat} {dd dp : Nat} {h h1 : Hp} (hC : CW nm px py ef du dd h) (a : SM dp h h1) : CW nm px py ef du dd h1 := by
  obtain ⟨c1, c2, c3⟩ := hC
  obtain ⟨-, s2, s3⟩ := a
  refine ⟨by rw [s2 7 (by decide) (by decide)]; exact c1, by rw [s2 8 (by decide) (by decide)]; exact c2, fun i hi => ?_⟩
  rw [s3 34 (by decide) (by decide) (by decide), s3 35 (by decide) (by decide) (by decide), s3 36 (by decide) (by decide) (by decide), s3 37 (by decide) (by decide) (by decide)]
  exact c3 i hi
theorem PG_in {nm : Nat} {px py ef du : Nat → Nat} {dd dp r i : Nat} {p : Nat → Nat} {s : Sst} {B : Bst} {h h1 : Hp} (hW : WB px py ef du dd nm) (hm : dp + r + 1 = nm) (hi : i < nm) (hP : PG nm px py ef du dd dp p s B h) (hL : LG (Nx px py ef du dd) nm r dp p s B h i h1) : PG nm px py ef du dd (dp + 1) (cx p dp i) (Nx px py ef du dd s i) (fl (Fs (Nx px py ef du dd) nm r dp p s) i B) (put h1 38 dp (nI i)) := by
  obtain ⟨p1, p2, p3, p4, p5, p6, p7⟩ := hP
  obtain ⟨l1, l2⟩ := hL
  have hO : OKN nm (Nx px py ef du dd) := Nx_ok hW.2.2.1 hW.2.2.2.1 (fun a => (hW.2.2.2.2.1 a).2)
  obtain ⟨o1, o2⟩ := hO s i hi
  refine ⟨CW_sm p1 (SM_put l2), ⟨?_, ?_, ?_⟩, (fl_ok hO hm p6 p7 p5 p3 i (by omega)).1, ?_, cx_lt p5 hi, by omega, by omega⟩
  · rw [put_n (by decide)]; exact l1.1
  · rw [put_n (by decide)]; exact l1.2.1
  · intro z j9 hj
    rw [put_n (by decide)]
    exact l1.2.2 z j9 hj
  · intro j9 hj
    by_cases e : j9 = dp
    · subst e; rw [put_s, cx_s]
    · rw [put_i e, cx_n e, l2.1 j9 (by omega), p4 j9 (by omega)]
theorem LG_0 {N : Sst → Nat → Sst} {nm r dp : Nat} {p : Nat → Nat} {s : Sst} {B : Bst} {h : Hp} (hB : BX nm h B) : LG N nm r dp p s B h 0 h := ⟨hB, SM_refl⟩
theorem LG_no {N : Sst → Nat → Sst} {nm r dp i : Nat} {p : Nat → Nat} {s : Sst} {B : Bst} {h h1 : Hp} (hL : LG N nm r dp p s B h i h1) (ha : anyP p dp i = true) : LG N nm r dp p s B h (i + 1) h1 := by
  refine ⟨?_, hL.2⟩
  rw [fl, Fs, if_pos ha]
  exact hL.1
theorem LG_go {N : Sst → Nat → Sst} {nm r dp i : Nat} {p : Nat → Nat} {s : Sst} {B : Bst} {h h1 h2 : Hp} {v : Int32} (hL : LG N nm r dp p s B h i h1) (ha : anyP p dp i = false) (hq : QG N nm r (dp + 1) (cx p dp i) (N s i) (fl (Fs N nm r dp p s) i B) (put h1 38 dp v) h2) : LG N nm r dp p s B h (i + 1) h2 := by
  refine ⟨?_, SM_trans (SM_put hL.2) (SM_less hq.2)⟩
  rw [fl, Fs, if_neg (by rw [ha]; decide)]
  exact hq.1
theorem absD : ∀ a, a < 32 → ∀ b, b < 32 → absI (nI a - nI b) = nI (dst a b) := by decide +kernel
theorem awyD : ∀ a, a < 32 → ∀ b, b < 32 → awy (nI a) (nI b) = nI (dst a b) := by decide +kernel
theorem hasD {p : Nat → Nat} {dp i : Nat} (hi : i < 6) : hasB (nI (mk2 (anyP p dp) 6)) (nI i) = anyP p dp i := by
  rw [m64b _ (mk2_lt _ 6) i hi, mk2_t, decide_eq_true hi, Bool.true_and]
theorem orD {p : Nat → Nat} {dp i : Nat} (hi : i < 6) : nI (mk2 (anyP p dp) 6) ||| ((1 : Int32) <<< (nI i &&& 31)) = nI (mk2 (anyP (cx p dp i) (dp + 1)) 6) := by
  rw [m64c _ (mk2_lt _ 6) i hi, mk2_any hi]
theorem dst_lt {a b : Nat} (ha : a < 32) (hb : b < 32) : dst a b < 32 := by
  simp only [dst]
  omega
theorem thenD {px py ef du : Nat → Nat} {dd nm i : Nat} {s : Sst} {e9 : Int32} (hW : WB px py ef du dd nm) (he : e9 = nI (ef i)) : nI s.2.1 + (absI (nI (px s.1) - nI (px i)) + absI (nI (py s.1) - nI (py i))) / 8 + e9 = nI (Nx px py ef du dd s i).2.1 := by
  have h1 := hW.2.2.1
  have h2 := hW.2.2.2.1
  have h3 := dst_lt (h1 s.1) (h1 i)
  have h4 := dst_lt (h2 s.1) (h2 i)
  rw [absD _ (h1 _) _ (h1 _), absD _ (h2 _) _ (h2 _), nI_add, show (nI (dst (px s.1) (px i) + dst (py s.1) (py i)) / (8 : Int32)) = nI ((dst (px s.1) (px i) + dst (py s.1) (py i)) / 8) from pk_div (d := 8) (by omega) (by decide) (by decide), nI_add, he, nI_add]
  rfl
theorem dayD {px py ef du : Nat → Nat} {dd nm i dp : Nat} {s : Sst} (hW : WB px py ef du dd nm) (hs : s.2.1 ≤ 50 * dp) (hdp : dp ≤ 6) : nI dd + (nI (Nx px py ef du dd s i).2.1 - 1) / 8 = nI (dd + ((Nx px py ef du dd s i).2.1 - 1) / 8) ∧ dd + ((Nx px py ef du dd s i).2.1 - 1) / 8 < 2 ^ 31 := by
  have h5 := (Nx_ok (m := i + 1) (px := px) (py := py) (ef := ef) (du := du) (day := dd) hW.2.2.1 hW.2.2.2.1 (fun a => (hW.2.2.2.2.1 a).2) s i (by omega)).1
  have h6 : 1 ≤ (Nx px py ef du dd s i).2.1 := by
    show 1 ≤ s.2.1 + _ + ef i
    have := (hW.2.2.2.2.1 i).1
    omega
  have h7 := hW.2.1
  have e1 : nI (Nx px py ef du dd s i).2.1 - 1 = nI ((Nx px py ef du dd s i).2.1 - 1) := by
    obtain ⟨n9, e9⟩ : ∃ n9, (Nx px py ef du dd s i).2.1 = n9 + 1 := ⟨(Nx px py ef du dd s i).2.1 - 1, by omega⟩
    rw [e9, nI_pred]; rfl
  rw [e1, show (nI ((Nx px py ef du dd s i).2.1 - 1) / (8 : Int32)) = nI (((Nx px py ef du dd s i).2.1 - 1) / 8) from pk_div (d := 8) (by omega) (by decide) (by decide), nI_add]
  exact ⟨rfl, by omega⟩
theorem brkN {px py ef du : Nat → Nat} {dd nm i : Nat} {s : Sst} (hW : WB px py ef du dd nm) (hlt : dd + ((Nx px py ef du dd s i).2.1 - 1) / 8 < 2 ^ 31) (b : nI (dd + ((Nx px py ef du dd s i).2.1 - 1) / 8) ≤ nI (du i)) : nI s.2.2 = nI (Nx px py ef du dd s i).2.2 := by
  have h1 := hW.2.2.2.2.2 i
  have h2 := (nI_leI hlt (by omega)).mp b
  have h3 : ¬ du i < dd + ((Nx px py ef du dd s i).2.1 - 1) / 8 := by omega
  show nI s.2.2 = nI (s.2.2 + (if du i < dd + ((Nx px py ef du dd s i).2.1 - 1) / 8 then 1 else 0))
  rw [if_neg h3]; rfl
theorem brkY {px py ef du : Nat → Nat} {dd nm i : Nat} {s : Sst} (hW : WB px py ef du dd nm) (b : ¬ nI (dd + ((Nx px py ef du dd s i).2.1 - 1) / 8) ≤ nI (du i)) : nI s.2.2 + 1 = nI (Nx px py ef du dd s i).2.2 := by
  have h1 := hW.2.2.2.2.2 i
  have h3 : du i < dd + ((Nx px py ef du dd s i).2.1 - 1) / 8 := by
    apply Classical.byContradiction
    intro z
    exact b (nI_le (by omega) (by omega))
  show nI s.2.2 + 1 = nI (s.2.2 + (if du i < dd + ((Nx px py ef du dd s i).2.1 - 1) / 8 then 1 else 0))
  rw [if_pos h3, nI_1]
theorem BX_keep {nm : Nat} {p : Nat → Nat} {s : Sst} {h : Hp} {f : Nat → Int32} (hf : ∀ j9, j9 < nm → f j9 = h 38 j9) (hp : ∀ j9, j9 < nm → h 38 j9 = nI (p j9)) : BX nm (up2 (put (put h 6 9 (nI s.2.2)) 6 10 (nI s.2.1)) 39 f) (s.2.2, s.2.1, p) ∧ SM nm h (up2 (put (put h 6 9 (nI s.2.2)) 6 10 (nI s.2.1)) 39 f) := by
  refine ⟨⟨?_, ?_, ?_⟩, ?_, ?_, ?_⟩
  · rw [up2_n (by decide), put_i (by decide), put_s]
  · rw [up2_n (by decide), put_s]
  · intro _ j9 hj
    rw [up2_s, hf j9 hj, hp j9 hj]
  · intro j9 hj
    rw [up2_n (by decide), put_n (by decide), put_n (by decide)]
  · intro j9 z1 z2
    rw [up2_n (by decide), put_i z2, put_i z1]
  · intro k9 z1 z2 z3
    rw [up2_n z3, put_n z1, put_n z1]
set_option maxHeartbeats 4000000 in
set_option maxRecDepth 100000 in
theorem k_X1_goOn {E : Ev} {nm : Nat} {px py ef du : Nat → Nat} {dd : Nat} (hW : WB px py ef du dd nm) : ∀ (r9 d dp : Nat) (p : Nat → Nat) (s : Sst) (B : Bst) (h : Hp), r9 + 3 ≤ d → dp + r9 = nm → PG nm px py ef du dd dp p s B h → Cl d yX1_goOn cX1_goOn 10 none E (wdX E) [.ref (E.2.2.1 6), .int (nI dp), .int (nI (mk2 (anyP p dp) 6)), .int (nI (px s.1)), .int (nI (py s.1)), .int (nI s.2.1), .int (nI s.2.2)] h (fun r h' => r = none ∧ QG (Nx px py ef du dd) nm r9 dp p s B h h') := by
  intro r9
  induction r9 with
  | zero =>
    intro d dp p s B h hd hm hP
    refine Cl_of [some (.ref (E.2.2.1 6)), some (.int (nI dp)), some (.int (nI (mk2 (anyP p dp) 6))), some (.int (nI (px s.1))), some (.int (nI (py s.1))), some (.int (nI s.2.1)), some (.int (nI s.2.2)), none, none, none] (by decide) rfl (Nat.le_of_ble_eq_true rfl) (fun K A X hQ => ?_)
    have hm6 := hW.1
    have hB1 := hP.2.2.1.1
    have hB2 := hP.2.2.1.2.1
    have hs1 := hP.2.2.2.2.2.1
    have hs2 := hP.2.2.2.2.2.2
    have hcn := hP.1.1
    have L28 : btr s B → GW K 10 E (wdX E) A 28 [some (.ref (E.2.2.1 6)), some (.int (nI dp)), some (.int (nI (mk2 (anyP p dp) 6))), some (.int (nI (px s.1))), some (.int (nI (py s.1))), some (.int (nI s.2.1)), some (.int (nI s.2.2)), none, none, none] [] h := by
      intro hbt
      obtain rfl : dp = nm := by omega
      refine P_iload1 X 29 dX1_goOn_28 rfl ?_
      refine P_aload0 X 30 dX1_goOn_29 rfl ?_
      refine gX_6_7 X 33 dX1_goOn_30 rfl fl_X1_33 ?_
      refine P_top hcn ?_
      refine P_icmp_lt X 45 36 dX1_goOn_33 rfl rfl (fun b33 => ?_) (fun b33 => ?_)
      · exact absurd b33 (nI_nlt (Nat.le_refl _) (by omega))
      · refine P_aload0 X 37 dX1_goOn_36 rfl ?_
        refine P_iload5 X 39 dX1_goOn_37 rfl ?_
        refine P_iload6 X 41 dX1_goOn_39 rfl ?_
        refine V2g X 6 44 dX1_goOn_41 rfl lk_X1_50 mv_X1_keepTried rfl (by omega) (Nat.le_of_ble_eq_true rfl) (Nat.le_of_ble_eq_true rfl) rfl rfl (k_X1_keepTried (by omega) hcn hm6) (fun r h2 hp => ?_)
        obtain ⟨rfl, f, rfl, hf⟩ := hp
        change GW K 10 E (wdX E) A 44 [some (.ref (E.2.2.1 6)), some (.int (nI dp)), some (.int (nI (mk2 (anyP p dp) 6))), some (.int (nI (px s.1))), some (.int (nI (py s.1))), some (.int (nI s.2.1)), some (.int (nI s.2.2)), none, none, none] [] (up2 (put (put h 6 9 (nI s.2.2)) 6 10 (nI s.2.1)) 39 f)
        obtain ⟨z1, z2⟩ := BX_keep (s := s) hf hP.2.2.2.1
        exact P_ret X hQ dX1_goOn_44 ⟨rfl, by rw [srch, updB_y hbt]; exact z1, z2⟩
    refine P_iload6 X 2 dX1_goOn_0 rfl ?_
    refine P_aload0 X 3 dX1_goOn_2 rfl ?_
    refine gX_6_9 X 6 dX1_goOn_3 rfl fl_X1_40 ?_
    refine P_top hP.2.1.1 ?_
    refine P_icmp_gt X 27 9 dX1_goOn_6 rfl rfl (fun b6 => ?_) (fun b6 => ?_)
    · have hnb : ¬ btr s B := by
        intro z
        simp only [btr] at z
        first
          | exact absurd ((nI_ltI (by omega) (by omega)).mp b6) (by omega)
          | exact b24 (nI_lt (by have := (nI_eq (by omega) (by omega)).mp b15; omega) (by omega))
      exact P_ret X hQ dX1_goOn_27 ⟨rfl, by rw [srch_cut Nx_mono _ _ _ _ _ hnb]; exact hP.2.1, SM_refl⟩
    · refine P_iload6 X 11 dX1_goOn_9 rfl ?_
      refine P_aload0 X 12 dX1_goOn_11 rfl ?_
      refine gX_6_9 X 15 dX1_goOn_12 rfl fl_X1_40 ?_
      refine P_top hP.2.1.1 ?_
      refine P_icmp_ne X 28 18 dX1_goOn_15 rfl rfl (fun b15 => ?_) (fun b15 => ?_)
      · refine L28 ?_
        first
          | exact Or.inr ⟨(nI_eq (by omega) (by omega)).mp b15, (nI_ltI (by omega) (by omega)).mp b24⟩
          | exact Or.inl (Nat.lt_of_le_of_ne (Nat.le_of_not_lt (fun z => b6 (nI_lt z (by omega)))) (fun z => b15 (by rw [z])))
      · refine P_iload5 X 20 dX1_goOn_18 rfl ?_
        refine P_aload0 X 21 dX1_goOn_20 rfl ?_
        refine gX_6_10 X 24 dX1_goOn_21 rfl fl_X1_43 ?_
        refine P_top hP.2.1.2.1 ?_
        refine P_icmp_lt X 28 27 dX1_goOn_24 rfl rfl (fun b24 => ?_) (fun b24 => ?_)
        · refine L28 ?_
          first
            | exact Or.inr ⟨(nI_eq (by omega) (by omega)).mp b15, (nI_ltI (by omega) (by omega)).mp b24⟩
            | exact Or.inl (Nat.lt_of_le_of_ne (Nat.le_of_not_lt (fun z => b6 (nI_lt z (by omega)))) (fun z => b15 (by rw [z])))
        · have hnb : ¬ btr s B := by
            intro z
            simp only [btr] at z
            first
              | exact absurd ((nI_ltI (by omega) (by omega)).mp b6) (by omega)
              | exact b24 (nI_lt (by have := (nI_eq (by omega) (by omega)).mp b15; omega) (by omega))
          exact P_ret X hQ dX1_goOn_27 ⟨rfl, by rw [srch_cut Nx_mono _ _ _ _ _ hnb]; exact hP.2.1, SM_refl⟩
  | succ r9 ihr =>
    intro d dp p s B h hd hm hP
    refine Cl_of [some (.ref (E.2.2.1 6)), some (.int (nI dp)), some (.int (nI (mk2 (anyP p dp) 6))), some (.int (nI (px s.1))), some (.int (nI (py s.1))), some (.int (nI s.2.1)), some (.int (nI s.2.2)), none, none, none] (by decide) rfl (Nat.le_of_ble_eq_true rfl) (fun K A X hQ => ?_)
    have hm6 := hW.1
    have hB1 := hP.2.2.1.1
    have hB2 := hP.2.2.1.2.1
    have hs1 := hP.2.2.2.2.2.1
    have hs2 := hP.2.2.2.2.2.2
    have hcn := hP.1.1
    have L28 : btr s B → GW K 10 E (wdX E) A 28 [some (.ref (E.2.2.1 6)), some (.int (nI dp)), some (.int (nI (mk2 (anyP p dp) 6))), some (.int (nI (px s.1))), some (.int (nI (py s.1))), some (.int (nI s.2.1)), some (.int (nI s.2.2)), none, none, none] [] h := by
      intro hbt
      have L : ∀ (m i : Nat) (h1 : Hp) (o8 o9 : Option Value), i + m = nm → (LG (Nx px py ef du dd) nm r9 dp p s B h i h1) → GW K 10 E (wdX E) A 48 [some (.ref (E.2.2.1 6)), some (.int (nI dp)), some (.int (nI (mk2 (anyP p dp) 6))), some (.int (nI (px s.1))), some (.int (nI (py s.1))), some (.int (nI s.2.1)), some (.int (nI s.2.2)), some (.int (nI i)), o8, o9] [] h1 := by
        intro m
        induction m with
        | zero =>
          intro i h1 o8 o9 hm hI0
          refine P_iload7 X 50 dX1_goOn_48 rfl ?_
          refine P_aload0 X 51 dX1_goOn_50 rfl ?_
          refine gX_6_7 X 54 dX1_goOn_51 rfl fl_X1_33 ?_
          refine P_icmp_ge X 180 57 dX1_goOn_54 rfl rfl (fun b54 => ?_) (fun b54 => ?_)
          · have hie : i = nm := by omega
            rw [hie] at hI0
            exact P_ret X hQ dX1_goOn_180 ⟨rfl, hI0.1, hI0.2⟩
          · exact (geN ((CW_sm hP.1 hI0.2).1) b54 (by omega) (by omega)).elim
        | succ m ih =>
          intro i h1 o8 o9 hm hI0
          refine P_iload7 X 50 dX1_goOn_48 rfl ?_
          refine P_aload0 X 51 dX1_goOn_50 rfl ?_
          refine gX_6_7 X 54 dX1_goOn_51 rfl fl_X1_33 ?_
          refine P_icmp_ge X 180 57 dX1_goOn_54 rfl rfl (fun b54 => ?_) (fun b54 => ?_)
          · exact (geY ((CW_sm hP.1 hI0.2).1) b54 (by omega) (by omega)).elim
          · have hi6 : i < 6 := by omega
            have hC1 := CW_sm hP.1 hI0.2
            obtain ⟨x34, x35, x36, x37⟩ := hC1.2.2 i (by omega)
            have hPG := PG_in hW (by omega) (by omega) hP hI0
            obtain ⟨hdy, hdl⟩ := dayD (i := i) hW hs1 (by omega)
            refine P_iload2 X 58 dX1_goOn_57 rfl ?_
            refine P_iload7 X 60 dX1_goOn_58 rfl ?_
            refine S2r X 63 dX1_goOn_60 rfl lk_X1_54 ms_X8_hasBit rfl (by omega) (Nat.le_of_ble_eq_true rfl) (k_X8_hasBit (by omega)) ?_
            rw [hasD hi6]
            refine P_bn X 174 66 dX1_goOn_63 rfl rfl (fun b63 => ?_) (fun b63 => ?_)
            · refine P_iinc7 X (1) rfl 177 dX1_goOn_174 rfl (by decide) rfl ?_
              refine P_goto X 48 dX1_goOn_177 rfl ?_
              rw [nI_1]
              first | exact ih (i + 1) _ _ _ (by omega) (LG_go hI0 b63 hq) | exact ih (i + 1) _ _ _ (by omega) (LG_no hI0 b63)
            · refine P_iload5 X 68 dX1_goOn_66 rfl ?_
              refine P_iload3 X 69 dX1_goOn_68 rfl ?_
              refine P_iload4 X 71 dX1_goOn_69 rfl ?_
              refine P_aload0 X 72 dX1_goOn_71 rfl ?_
              refine gX_6_1 X 75 dX1_goOn_72 rfl fl_X1_15 ?_
              refine P_iload7 X 77 dX1_goOn_75 rfl ?_
              refine lX_34 X 78 dX1_goOn_77 rfl rfl (by omega) ?_
              refine P_top x34 ?_
              refine P_aload0 X 79 dX1_goOn_78 rfl ?_
              refine gX_6_2 X 82 dX1_goOn_79 rfl fl_X1_18 ?_
              refine P_iload7 X 84 dX1_goOn_82 rfl ?_
              refine lX_35 X 85 dX1_goOn_84 rfl rfl (by omega) ?_
              refine P_top x35 ?_
              refine S4r X 88 dX1_goOn_85 rfl lk_X1_58 ms_X8_far rfl (by omega) (Nat.le_of_ble_eq_true rfl) (k_X8_far (by omega)) ?_
              refine P_bipush X (8) rfl 90 dX1_goOn_88 rfl ?_
              refine P_idiv X (by decide) 91 dX1_goOn_90 rfl ?_
              refine P_iadd X 92 dX1_goOn_91 rfl ?_
              refine P_aload0 X 93 dX1_goOn_92 rfl ?_
              refine gX_6_3 X 96 dX1_goOn_93 rfl fl_X1_21 ?_
              refine P_iload7 X 98 dX1_goOn_96 rfl ?_
              refine lX_36 X 99 dX1_goOn_98 rfl rfl (by omega) ?_
              refine P_iadd X 100 dX1_goOn_99 rfl ?_
              refine P_top (y := nI ((Nx px py ef du dd) s i).2.1) (thenD hW x36) ?_
              refine P_istore8 X 102 dX1_goOn_100 rfl (by decide) rfl ?_
              refine P_aload0 X 103 dX1_goOn_102 rfl ?_
              refine gX_6_8 X 106 dX1_goOn_103 rfl fl_X1_37 ?_
              refine P_top hC1.2.1 ?_
              refine P_iload8 X 108 dX1_goOn_106 rfl ?_
              refine P_iconst X (1) rfl 109 dX1_goOn_108 rfl ?_
              refine P_isub X 110 dX1_goOn_109 rfl ?_
              refine P_bipush X (8) rfl 112 dX1_goOn_110 rfl ?_
              refine P_idiv X (by decide) 113 dX1_goOn_112 rfl ?_
              refine P_iadd X 114 dX1_goOn_113 rfl ?_
              refine P_top hdy ?_
              refine P_istore9 X 116 dX1_goOn_114 rfl (by decide) rfl ?_
              refine P_aload0 X 117 dX1_goOn_116 rfl ?_
              refine gX_6_5 X 120 dX1_goOn_117 rfl fl_X1_27 ?_
              refine P_iload1 X 121 dX1_goOn_120 rfl ?_
              refine P_iload7 X 123 dX1_goOn_121 rfl ?_
              refine sX_38 X 124 dX1_goOn_123 rfl rfl (by omega) ?_
              refine P_aload0 X 125 dX1_goOn_124 rfl ?_
              refine P_iload1 X 126 dX1_goOn_125 rfl ?_
              refine P_iconst X (1) rfl 127 dX1_goOn_126 rfl ?_
              refine P_iadd X 128 dX1_goOn_127 rfl ?_
              rw [nI_1]
              refine P_iload2 X 129 dX1_goOn_128 rfl ?_
              refine P_iconst X (1) rfl 130 dX1_goOn_129 rfl ?_
              refine P_iload7 X 132 dX1_goOn_130 rfl ?_
              refine P_ishl X 133 dX1_goOn_132 rfl ?_
              refine P_ior X 134 dX1_goOn_133 rfl ?_
              refine P_top (orD hi6) ?_
              refine P_aload0 X 135 dX1_goOn_134 rfl ?_
              refine gX_6_1 X 138 dX1_goOn_135 rfl fl_X1_15 ?_
              refine P_iload7 X 140 dX1_goOn_138 rfl ?_
              refine lX_34 X 141 dX1_goOn_140 rfl rfl (by omega) ?_
              refine P_top (y := nI (px i)) (by rw [put_n (by decide)]; exact x34) ?_
              refine P_aload0 X 142 dX1_goOn_141 rfl ?_
              refine gX_6_2 X 145 dX1_goOn_142 rfl fl_X1_18 ?_
              refine P_iload7 X 147 dX1_goOn_145 rfl ?_
              refine lX_35 X 148 dX1_goOn_147 rfl rfl (by omega) ?_
              refine P_top (y := nI (py i)) (by rw [put_n (by decide)]; exact x35) ?_
              refine P_iload8 X 150 dX1_goOn_148 rfl ?_
              refine P_iload9 X 152 dX1_goOn_150 rfl ?_
              refine P_aload0 X 153 dX1_goOn_152 rfl ?_
              refine gX_6_4 X 156 dX1_goOn_153 rfl fl_X1_24 ?_
              refine P_iload7 X 158 dX1_goOn_156 rfl ?_
              refine lX_37 X 159 dX1_goOn_158 rfl rfl (by omega) ?_
              refine P_top (y := nI (du i)) (by rw [put_n (by decide)]; exact x37) ?_
              refine P_icmp_le X 169 162 dX1_goOn_159 rfl rfl (fun b159 => ?_) (fun b159 => ?_)
              · refine P_iload6 X 171 dX1_goOn_169 rfl ?_
                refine P_top (y := nI ((Nx px py ef du dd) s i).2.2) (by first | exact brkN hW hdl b159 | exact brkY hW b159) ?_
                refine V6g X 6 174 dX1_goOn_171 rfl lk_X1_46 mv_X1_goOn rfl (by omega) (Nat.le_of_ble_eq_true rfl) (Nat.le_of_ble_eq_true rfl) rfl rfl (ihr (d - 1) (dp + 1) (cx p dp i) ((Nx px py ef du dd) s i) (fl (Fs (Nx px py ef du dd) nm r9 dp p s) i B) _ (by omega) (by omega) hPG) (fun r h2 hp => ?_)
                obtain ⟨rfl, hq⟩ := hp
                change GW K 10 E (wdX E) A 174 [some (.ref (E.2.2.1 6)), some (.int (nI dp)), some (.int (nI (mk2 (anyP p dp) 6))), some (.int (nI (px s.1))), some (.int (nI (py s.1))), some (.int (nI s.2.1)), some (.int (nI s.2.2)), some (.int (nI i)), some (.int (nI ((Nx px py ef du dd) s i).2.1)), some (.int (nI (dd + (((Nx px py ef du dd) s i).2.1 - 1) / 8)))] [] h2
                refine P_iinc7 X (1) rfl 177 dX1_goOn_174 rfl (by decide) rfl ?_
                refine P_goto X 48 dX1_goOn_177 rfl ?_
                rw [nI_1]
                first | exact ih (i + 1) _ _ _ (by omega) (LG_go hI0 b63 hq) | exact ih (i + 1) _ _ _ (by omega) (LG_no hI0 b63)
              · refine P_iload6 X 164 dX1_goOn_162 rfl ?_
                refine P_iconst X (1) rfl 165 dX1_goOn_164 rfl ?_
                refine P_iadd X 166 dX1_goOn_165 rfl ?_
                refine P_goto X 171 dX1_goOn_166 rfl ?_
                refine P_top (y := nI ((Nx px py ef du dd) s i).2.2) (by first | exact brkN hW hdl b159 | exact brkY hW b159) ?_
                refine V6g X 6 174 dX1_goOn_171 rfl lk_X1_46 mv_X1_goOn rfl (by omega) (Nat.le_of_ble_eq_true rfl) (Nat.le_of_ble_eq_true rfl) rfl rfl (ihr (d - 1) (dp + 1) (cx p dp i) ((Nx px py ef du dd) s i) (fl (Fs (Nx px py ef du dd) nm r9 dp p s) i B) _ (by omega) (by omega) hPG) (fun r h2 hp => ?_)
                obtain ⟨rfl, hq⟩ := hp
                change GW K 10 E (wdX E) A 174 [some (.ref (E.2.2.1 6)), some (.int (nI dp)), some (.int (nI (mk2 (anyP p dp) 6))), some (.int (nI (px s.1))), some (.int (nI (py s.1))), some (.int (nI s.2.1)), some (.int (nI s.2.2)), some (.int (nI i)), some (.int (nI ((Nx px py ef du dd) s i).2.1)), some (.int (nI (dd + (((Nx px py ef du dd) s i).2.1 - 1) / 8)))] [] h2
                refine P_iinc7 X (1) rfl 177 dX1_goOn_174 rfl (by decide) rfl ?_
                refine P_goto X 48 dX1_goOn_177 rfl ?_
                rw [nI_1]
                first | exact ih (i + 1) _ _ _ (by omega) (LG_go hI0 b63 hq) | exact ih (i + 1) _ _ _ (by omega) (LG_no hI0 b63)
      refine P_iload1 X 29 dX1_goOn_28 rfl ?_
      refine P_aload0 X 30 dX1_goOn_29 rfl ?_
      refine gX_6_7 X 33 dX1_goOn_30 rfl fl_X1_33 ?_
      refine P_top hcn ?_
      refine P_icmp_lt X 45 36 dX1_goOn_33 rfl rfl (fun b33 => ?_) (fun b33 => ?_)
      · refine P_iconst X (0) rfl 46 dX1_goOn_45 rfl ?_
        refine P_istore7 X 48 dX1_goOn_46 rfl (by decide) rfl ?_
        exact L nm 0 h none none (by omega) (LG_0 hP.2.1)
      · exact absurd (nI_lt (by omega) (by omega)) b33
    refine P_iload6 X 2 dX1_goOn_0 rfl ?_
    refine P_aload0 X 3 dX1_goOn_2 rfl ?_
    refine gX_6_9 X 6 dX1_goOn_3 rfl fl_X1_40 ?_
    refine P_top hP.2.1.1 ?_
    refine P_icmp_gt X 27 9 dX1_goOn_6 rfl rfl (fun b6 => ?_) (fun b6 => ?_)
    · have hnb : ¬ btr s B := by
        intro z
        simp only [btr] at z
        first
          | exact absurd ((nI_ltI (by omega) (by omega)).mp b6) (by omega)
          | exact b24 (nI_lt (by have := (nI_eq (by omega) (by omega)).mp b15; omega) (by omega))
      exact P_ret X hQ dX1_goOn_27 ⟨rfl, by rw [srch_cut Nx_mono _ _ _ _ _ hnb]; exact hP.2.1, SM_refl⟩
    · refine P_iload6 X 11 dX1_goOn_9 rfl ?_
      refine P_aload0 X 12 dX1_goOn_11 rfl ?_
      refine gX_6_9 X 15 dX1_goOn_12 rfl fl_X1_40 ?_
      refine P_top hP.2.1.1 ?_
      refine P_icmp_ne X 28 18 dX1_goOn_15 rfl rfl (fun b15 => ?_) (fun b15 => ?_)
      · refine L28 ?_
        first
          | exact Or.inr ⟨(nI_eq (by omega) (by omega)).mp b15, (nI_ltI (by omega) (by omega)).mp b24⟩
          | exact Or.inl (Nat.lt_of_le_of_ne (Nat.le_of_not_lt (fun z => b6 (nI_lt z (by omega)))) (fun z => b15 (by rw [z])))
      · refine P_iload5 X 20 dX1_goOn_18 rfl ?_
        refine P_aload0 X 21 dX1_goOn_20 rfl ?_
        refine gX_6_10 X 24 dX1_goOn_21 rfl fl_X1_43 ?_
        refine P_top hP.2.1.2.1 ?_
        refine P_icmp_lt X 28 27 dX1_goOn_24 rfl rfl (fun b24 => ?_) (fun b24 => ?_)
        · refine L28 ?_
          first
            | exact Or.inr ⟨(nI_eq (by omega) (by omega)).mp b15, (nI_ltI (by omega) (by omega)).mp b24⟩
            | exact Or.inl (Nat.lt_of_le_of_ne (Nat.le_of_not_lt (fun z => b6 (nI_lt z (by omega)))) (fun z => b15 (by rw [z])))
        · have hnb : ¬ btr s B := by
            intro z
            simp only [btr] at z
            first
              | exact absurd ((nI_ltI (by omega) (by omega)).mp b6) (by omega)
              | exact b24 (nI_lt (by have := (nI_eq (by omega) (by omega)).mp b15; omega) (by omega))
          exact P_ret X hQ dX1_goOn_27 ⟨rfl, by rw [srch_cut Nx_mono _ _ _ _ _ hnb]; exact hP.2.1, SM_refl⟩
noncomputable def BsT (N : Sst → Nat → Sst) (nm : Nat) : Bst := srch N nm nm 0 (fun _ => 0) (6, 0, 0) (nm + 1, 0, fun _ => 0)
theorem OKB_0 {nm : Nat} : OKB nm (nm + 1, 0, fun _ => 0) := ⟨Nat.le_refl _, Nat.zero_le _, fun z => absurd z (by show ¬ nm + 1 ≤ nm; omega)⟩
theorem BsT_ok {px py ef du : Nat → Nat} {dd nm : Nat} (hW : WB px py ef du dd nm) : OKB nm (BsT (Nx px py ef du dd) nm) ∧ (BsT (Nx px py ef du dd) nm).1 ≤ nm := by
  have hO : OKN nm (Nx px py ef du dd) := Nx_ok hW.2.2.1 hW.2.2.2.1 (fun a => (hW.2.2.2.2.1 a).2)
  exact ⟨(srch_ok hO nm 0 (fun _ => 0) (6, 0, 0) _ (by omega) (Nat.zero_le _) (Nat.zero_le _) (fun j9 hj => absurd hj (Nat.not_lt_zero _)) OKB_0).1, srch_le hO nm 0 (fun _ => 0) (6, 0, 0) _ (by omega) (Nat.zero_le _) (Nat.zero_le _) (fun j9 hj => absurd hj (Nat.not_lt_zero _)) OKB_0⟩
theorem PG_0 {px py ef du : Nat → Nat} {dd nm : Nat} {h : Hp} (hC : CW nm px py ef du dd h) : PG nm px py ef du dd 0 (fun _ => 0) (6, 0, 0) (nm + 1, 0, fun _ => 0) (put (put h 6 9 (nI (nm + 1))) 6 10 0) := by
  obtain ⟨c1, c2, c3⟩ := hC
  refine ⟨⟨?_, ?_, ?_⟩, ⟨?_, ?_, ?_⟩, OKB_0, fun j9 hj => absurd hj (Nat.not_lt_zero _), fun j9 hj => absurd hj (Nat.not_lt_zero _), Nat.zero_le _, Nat.zero_le _⟩
  · rw [put_i (by decide), put_i (by decide), c1]
  · rw [put_i (by decide), put_i (by decide), c2]
  · intro i hi
    rw [put_n (by decide), put_n (by decide), put_n (by decide), put_n (by decide), put_n (by decide), put_n (by decide), put_n (by decide), put_n (by decide)]
    exact c3 i hi
  · rw [put_i (by decide), put_s]
  · rw [put_s]; rfl
  · intro z; exact absurd z (by show ¬ nm + 1 ≤ nm; omega)
theorem SM_0 {h h1 : Hp} {a b : Int32} (hs : SM 0 (put (put h 6 9 a) 6 10 b) h1) : SM 0 h h1 := by
  obtain ⟨-, s2, s3⟩ := hs
  refine ⟨fun j9 hj => absurd hj (Nat.not_lt_zero _), fun j9 z1 z2 => ?_, fun k9 z1 z2 z3 => ?_⟩
  · rw [s2 j9 z1 z2, put_i z2, put_i z1]
  · rw [s3 k9 z1 z2 z3, put_n z1, put_n z1]
set_option maxHeartbeats 4000000 in
set_option maxRecDepth 100000 in
theorem k_X1_findOrder {d : Nat} {E : Ev} {nm : Nat} {px py ef du : Nat → Nat} {dd : Nat} {h : Hp} (hd : 10 ≤ d) (hW : WB px py ef du dd nm) (hC : CW nm px py ef du dd h) : Cl d yX1_findOrder cX1_findOrder 3 none E (wdX E) [.ref (E.2.2.1 6), .int (nI (px 6)), .int (nI (py 6))] h (fun r h' => r = none ∧ BX nm h' (BsT (Nx px py ef du dd) nm) ∧ SM 0 h h') := by
  refine Cl_of [some (.ref (E.2.2.1 6)), some (.int (nI (px 6))), some (.int (nI (py 6)))] (by decide) rfl (Nat.le_of_ble_eq_true rfl) (fun K A X hQ => ?_)
  have hm6 := hW.1
  have hG := k_X1_goOn (E := E) hW nm (d - 1) 0 (fun _ => 0) (6, 0, 0) (nm + 1, 0, fun _ => 0) _ (by omega) (by omega) (PG_0 hC)
  refine P_aload0 X 1 dX1_findOrder_0 rfl ?_
  refine P_aload0 X 2 dX1_findOrder_1 rfl ?_
  refine gX_6_7 X 5 dX1_findOrder_2 rfl fl_X1_33 ?_
  refine P_top hC.1 ?_
  refine P_iconst X (1) rfl 6 dX1_findOrder_5 rfl ?_
  refine P_iadd X 7 dX1_findOrder_6 rfl ?_
  rw [nI_1]
  refine pX_6_9 X 10 dX1_findOrder_7 rfl fw_X1_40 ?_
  refine P_aload0 X 11 dX1_findOrder_10 rfl ?_
  refine P_iconst X (0) rfl 12 dX1_findOrder_11 rfl ?_
  refine pX_6_10 X 15 dX1_findOrder_12 rfl fw_X1_43 ?_
  refine P_aload0 X 16 dX1_findOrder_15 rfl ?_
  refine P_iconst X (0) rfl 17 dX1_findOrder_16 rfl ?_
  refine P_iconst X (0) rfl 18 dX1_findOrder_17 rfl ?_
  refine P_iload1 X 19 dX1_findOrder_18 rfl ?_
  refine P_iload2 X 20 dX1_findOrder_19 rfl ?_
  refine P_iconst X (0) rfl 21 dX1_findOrder_20 rfl ?_
  refine P_iconst X (0) rfl 22 dX1_findOrder_21 rfl ?_
  refine V6g X 6 25 dX1_findOrder_22 rfl lk_X1_46 mv_X1_goOn rfl (by omega) (Nat.le_of_ble_eq_true rfl) (Nat.le_of_ble_eq_true rfl) rfl rfl hG (fun r h2 hp => ?_)
  obtain ⟨rfl, hq⟩ := hp
  change GW K 3 E (wdX E) A 25 [some (.ref (E.2.2.1 6)), some (.int (nI (px 6))), some (.int (nI (py 6)))] [] h2
  exact P_ret X hQ dX1_findOrder_25 ⟨rfl, hq.1, SM_0 hq.2⟩
