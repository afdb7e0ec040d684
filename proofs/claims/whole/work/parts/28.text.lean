def stB2 (f : Nat → Int32) (c s p : Nat) : Bool := if c = 0 then decide (f s = 97) || decide (f s = 115) else if c = 1 then inB (f p - 48) 0 (if f s = 97 then 4 else 5) else if c = 2 then inB (f p - 48) 0 (if f s = 97 then 5 else 3) else if c = 3 then (if f s = 97 then inB (f p - 48) 1 9 else inB (f p - 48) 0 5 && !decide (f p = f (s + 1))) else decide (f p = 59)
def stB (f : Nat → Int32) (p : Nat) : Bool := stB2 f (p % 5) (p - p % 5) p
def ftB2 (f : Nat → Int32) (c s p : Nat) : Bool := if c = 0 then (decide (f p = 97) || decide (f p = 115)) && decide (p < 60) else if c = 1 then inB (f p) 48 (if f s = 97 then 52 else 53) else if c = 2 then inB (f p) 48 (if f s = 97 then 53 else 51) else if c = 3 then (if f s = 97 then inB (f p) 49 57 else inB (f p) 48 53 && !decide (f p = f (s + 1))) else decide (f p = 59)
def ftB (f : Nat → Int32) (p : Nat) : Bool := ftB2 f (p % 5) (p - p % 5) p
theorem rem5 {p : Nat} (hp : p < 2 ^ 31) : nI p - nI p / 5 * 5 = nI (p % 5) := pk_rem (d := 5) hp (by decide) (by decide)
theorem div5 {p : Nat} (hp : p < 2 ^ 31) : nI p / 5 = nI (p / 5) := pk_div (d := 5) hp (by decide) (by decide)
theorem ixm (a r k : Nat) : nI a * nI r + nI k = nI (a * r + k) := by rw [pk_mul, nI_add]
theorem ixm0 (a r : Nat) : nI a * nI r = nI (a * r) := pk_mul a r

set_option maxHeartbeats 4000000 in
set_option maxRecDepth 100000 in
theorem k_X2_canStand {d : Nat} {E : Ev} {p : Nat} {h : Hp} (hd : 1 ≤ d) (hp : p < 80) : Cl d yX2_canStand cX2_canStand 6 (some .boolean) E (wdX E) [.ref (E.2.2.1 28), .int (nI p)] h (Rt (some (.int (bI (stB (h 28) p)))) h) := by
  refine Cl_of [some (.ref (E.2.2.1 28)), some (.int (nI p)), none, none, none, none] (by decide) rfl (Nat.le_of_ble_eq_true rfl) (fun K A X hQ => ?_)
  refine P_iload1 X 1 dX2_canStand_0 rfl ?_
  refine P_iconst X (5) rfl 2 dX2_canStand_1 rfl ?_
  refine P_irem X (by decide) 3 dX2_canStand_2 rfl ?_
  obtain ⟨c0, hc0⟩ : ∃ c9, p % 5 = c9 := ⟨_, rfl⟩
  have h5 : c0 < 5 := by omega
  obtain ⟨s0, hs0⟩ : ∃ s9, p - c0 = s9 := ⟨_, rfl⟩
  have eS : stB (h 28) p = stB2 (h 28) c0 s0 p := by rw [stB, hc0, hs0]
  refine P_top (y := nI c0) (by rw [rem5 (by omega), hc0]) ?_
  refine P_istore2 X 4 dX2_canStand_3 rfl (by decide) rfl ?_
  refine P_iload1 X 5 dX2_canStand_4 rfl ?_
  refine P_iload2 X 6 dX2_canStand_5 rfl ?_
  refine P_isub X 7 dX2_canStand_6 rfl ?_
  refine P_top (y := nI s0) (by rw [pk_sub (by omega), hs0]) ?_
  refine P_istore3 X 8 dX2_canStand_7 rfl (by decide) rfl ?_
  refine P_aload0 X 9 dX2_canStand_8 rfl ?_
  refine P_iload1 X 10 dX2_canStand_9 rfl ?_
  refine lX_28 X 11 dX2_canStand_10 rfl rfl (by omega) ?_
  refine P_bipush X (48) rfl 13 dX2_canStand_11 rfl ?_
  refine P_isub X 14 dX2_canStand_13 rfl ?_
  refine P_istore4 X 16 dX2_canStand_14 rfl (by decide) rfl ?_
  refine P_aload0 X 17 dX2_canStand_16 rfl ?_
  refine P_iload3 X 18 dX2_canStand_17 rfl ?_
  refine lX_28 X 19 dX2_canStand_18 rfl rfl (by omega) ?_
  refine P_bipush X (97) rfl 21 dX2_canStand_19 rfl ?_
  refine P_icmp_ne X 28 24 dX2_canStand_21 rfl rfl (fun b21 => ?_) (fun b21 => ?_)
  · refine P_iconst X (0) rfl 29 dX2_canStand_28 rfl ?_
    refine P_istore5 X 31 dX2_canStand_29 rfl (by decide) rfl ?_
    refine P_iload2 X 32 dX2_canStand_31 rfl ?_
    rcases (show c0 = 0 ∨ c0 = 1 ∨ c0 = 2 ∨ c0 = 3 ∨ c0 = 4 by omega) with rfl | rfl | rfl | rfl | rfl
    · refine P_tblIn X 64 dX2_canStand_32 (by decide) (by decide) rfl rfl ?_
      refine P_iload5 X 66 dX2_canStand_64 rfl ?_
      refine P_if_ne X 77 69 dX2_canStand_66 rfl rfl (fun b66 => absurd b66 (by decide)) (fun b66 => ?_)
      refine P_aload0 X 70 dX2_canStand_69 rfl ?_
      refine P_iload3 X 71 dX2_canStand_70 rfl ?_
      refine lX_28 X 72 dX2_canStand_71 rfl rfl (by omega) ?_
      refine P_bipush X (115) rfl 74 dX2_canStand_72 rfl ?_
      refine P_icmp_ne X 81 77 dX2_canStand_74 rfl rfl (fun b74 => ?_) (fun b74 => ?_)
      · refine P_iconst X (0) rfl 82 dX2_canStand_81 rfl ?_
        exact P_zret X hQ dX2_canStand_82 (Or.inl rfl) (rt0 (by rw [eS]; simp [stB2, b21, b74]))
      · refine P_iconst X (1) rfl 78 dX2_canStand_77 rfl ?_
        refine P_goto X 82 dX2_canStand_78 rfl ?_
        exact P_zret X hQ dX2_canStand_82 (Or.inr rfl) (rt1 (by rw [eS]; simp [stB2, b21, b74]))
    · refine P_tblIn X 83 dX2_canStand_32 (by decide) (by decide) rfl rfl ?_
      refine P_iload4 X 85 dX2_canStand_83 rfl ?_
      refine P_iconst X (0) rfl 86 dX2_canStand_85 rfl ?_
      refine P_iload5 X 88 dX2_canStand_86 rfl ?_
      refine P_if_eq X 95 91 dX2_canStand_88 rfl rfl (fun b88 => ?_) (fun b88 => absurd b88 (by decide))
      refine P_iconst X (5) rfl 96 dX2_canStand_95 rfl ?_
      refine S3r X 99 dX2_canStand_96 rfl lk_X2_40 ms_X8_within rfl (by omega) (Nat.le_of_ble_eq_true rfl) (k_X8_within (by omega)) ?_
      exact P_zret X hQ dX2_canStand_99 (bI_01 _) ⟨by rw [eS]; simp [stB2, b21], rfl⟩
    · refine P_tblIn X 100 dX2_canStand_32 (by decide) (by decide) rfl rfl ?_
      refine P_iload4 X 102 dX2_canStand_100 rfl ?_
      refine P_iconst X (0) rfl 103 dX2_canStand_102 rfl ?_
      refine P_iload5 X 105 dX2_canStand_103 rfl ?_
      refine P_if_eq X 112 108 dX2_canStand_105 rfl rfl (fun b105 => ?_) (fun b105 => absurd b105 (by decide))
      refine P_iconst X (3) rfl 113 dX2_canStand_112 rfl ?_
      refine S3r X 116 dX2_canStand_113 rfl lk_X2_40 ms_X8_within rfl (by omega) (Nat.le_of_ble_eq_true rfl) (k_X8_within (by omega)) ?_
      exact P_zret X hQ dX2_canStand_116 (bI_01 _) ⟨by rw [eS]; simp [stB2, b21], rfl⟩
    · refine P_tblIn X 117 dX2_canStand_32 (by decide) (by decide) rfl rfl ?_
      refine P_iload5 X 119 dX2_canStand_117 rfl ?_
      refine P_if_eq X 133 122 dX2_canStand_119 rfl rfl (fun b119 => ?_) (fun b119 => absurd b119 (by decide))
      refine P_iload4 X 135 dX2_canStand_133 rfl ?_
      refine P_iconst X (0) rfl 136 dX2_canStand_135 rfl ?_
      refine P_iconst X (5) rfl 137 dX2_canStand_136 rfl ?_
      refine S3r X 140 dX2_canStand_137 rfl lk_X2_40 ms_X8_within rfl (by omega) (Nat.le_of_ble_eq_true rfl) (k_X8_within (by omega)) ?_
      refine P_bz X 158 143 dX2_canStand_140 rfl rfl (fun b140 => ?_) (fun b140 => ?_)
      · refine P_iconst X (0) rfl 159 dX2_canStand_158 rfl ?_
        exact P_zret X hQ dX2_canStand_159 (Or.inl rfl) (rt0 (by rw [eS]; simp [stB2, b21, b140]))
      · refine P_aload0 X 144 dX2_canStand_143 rfl ?_
        refine P_iload1 X 145 dX2_canStand_144 rfl ?_
        refine lX_28 X 146 dX2_canStand_145 rfl rfl (by omega) ?_
        refine P_aload0 X 147 dX2_canStand_146 rfl ?_
        refine P_iload3 X 148 dX2_canStand_147 rfl ?_
        refine P_iconst X (1) rfl 149 dX2_canStand_148 rfl ?_
        refine P_iadd X 150 dX2_canStand_149 rfl ?_
        refine lX_28 X 151 dX2_canStand_150 rfl (nI_add s0 1) (by omega) ?_
        refine P_icmp_eq X 158 154 dX2_canStand_151 rfl rfl (fun b151 => ?_) (fun b151 => ?_)
        · refine P_iconst X (0) rfl 159 dX2_canStand_158 rfl ?_
          exact P_zret X hQ dX2_canStand_159 (Or.inl rfl) (rt0 (by rw [eS]; simp [stB2, b21, b140, b151]))
        · refine P_iconst X (1) rfl 155 dX2_canStand_154 rfl ?_
          refine P_goto X 159 dX2_canStand_155 rfl ?_
          exact P_zret X hQ dX2_canStand_159 (Or.inr rfl) (rt1 (by rw [eS]; simp [stB2, b21, b140, b151]))
    · refine P_tblOut X 160 dX2_canStand_32 (Or.inr (by decide)) rfl ?_
      refine P_aload0 X 161 dX2_canStand_160 rfl ?_
      refine P_iload1 X 162 dX2_canStand_161 rfl ?_
      refine lX_28 X 163 dX2_canStand_162 rfl rfl (by omega) ?_
      refine P_bipush X (59) rfl 165 dX2_canStand_163 rfl ?_
      refine P_icmp_ne X 172 168 dX2_canStand_165 rfl rfl (fun b165 => ?_) (fun b165 => ?_)
      · refine P_iconst X (0) rfl 173 dX2_canStand_172 rfl ?_
        exact P_zret X hQ dX2_canStand_173 (Or.inl rfl) (rt0 (by rw [eS]; simp [stB2, b21, b165]))
      · refine P_iconst X (1) rfl 169 dX2_canStand_168 rfl ?_
        refine P_goto X 173 dX2_canStand_169 rfl ?_
        exact P_zret X hQ dX2_canStand_173 (Or.inr rfl) (rt1 (by rw [eS]; simp [stB2, b21, b165]))
  · refine P_iconst X (1) rfl 25 dX2_canStand_24 rfl ?_
    refine P_goto X 29 dX2_canStand_25 rfl ?_
    refine P_istore5 X 31 dX2_canStand_29 rfl (by decide) rfl ?_
    refine P_iload2 X 32 dX2_canStand_31 rfl ?_
    rcases (show c0 = 0 ∨ c0 = 1 ∨ c0 = 2 ∨ c0 = 3 ∨ c0 = 4 by omega) with rfl | rfl | rfl | rfl | rfl
    · refine P_tblIn X 64 dX2_canStand_32 (by decide) (by decide) rfl rfl ?_
      refine P_iload5 X 66 dX2_canStand_64 rfl ?_
      refine P_if_ne X 77 69 dX2_canStand_66 rfl rfl (fun b66 => ?_) (fun b66 => absurd b66 (by decide))
      refine P_iconst X (1) rfl 78 dX2_canStand_77 rfl ?_
      refine P_goto X 82 dX2_canStand_78 rfl ?_
      exact P_zret X hQ dX2_canStand_82 (Or.inr rfl) (rt1 (by rw [eS]; simp [stB2, b21]))
    · refine P_tblIn X 83 dX2_canStand_32 (by decide) (by decide) rfl rfl ?_
      refine P_iload4 X 85 dX2_canStand_83 rfl ?_
      refine P_iconst X (0) rfl 86 dX2_canStand_85 rfl ?_
      refine P_iload5 X 88 dX2_canStand_86 rfl ?_
      refine P_if_eq X 95 91 dX2_canStand_88 rfl rfl (fun b88 => absurd b88 (by decide)) (fun b88 => ?_)
      refine P_iconst X (4) rfl 92 dX2_canStand_91 rfl ?_
      refine P_goto X 96 dX2_canStand_92 rfl ?_
      refine S3r X 99 dX2_canStand_96 rfl lk_X2_40 ms_X8_within rfl (by omega) (Nat.le_of_ble_eq_true rfl) (k_X8_within (by omega)) ?_
      exact P_zret X hQ dX2_canStand_99 (bI_01 _) ⟨by rw [eS]; simp [stB2, b21], rfl⟩
    · refine P_tblIn X 100 dX2_canStand_32 (by decide) (by decide) rfl rfl ?_
      refine P_iload4 X 102 dX2_canStand_100 rfl ?_
      refine P_iconst X (0) rfl 103 dX2_canStand_102 rfl ?_
      refine P_iload5 X 105 dX2_canStand_103 rfl ?_
      refine P_if_eq X 112 108 dX2_canStand_105 rfl rfl (fun b105 => absurd b105 (by decide)) (fun b105 => ?_)
      refine P_iconst X (5) rfl 109 dX2_canStand_108 rfl ?_
      refine P_goto X 113 dX2_canStand_109 rfl ?_
      refine S3r X 116 dX2_canStand_113 rfl lk_X2_40 ms_X8_within rfl (by omega) (Nat.le_of_ble_eq_true rfl) (k_X8_within (by omega)) ?_
      exact P_zret X hQ dX2_canStand_116 (bI_01 _) ⟨by rw [eS]; simp [stB2, b21], rfl⟩
    · refine P_tblIn X 117 dX2_canStand_32 (by decide) (by decide) rfl rfl ?_
      refine P_iload5 X 119 dX2_canStand_117 rfl ?_
      refine P_if_eq X 133 122 dX2_canStand_119 rfl rfl (fun b119 => absurd b119 (by decide)) (fun b119 => ?_)
      refine P_iload4 X 124 dX2_canStand_122 rfl ?_
      refine P_iconst X (1) rfl 125 dX2_canStand_124 rfl ?_
      refine P_bipush X (9) rfl 127 dX2_canStand_125 rfl ?_
      refine S3r X 130 dX2_canStand_127 rfl lk_X2_40 ms_X8_within rfl (by omega) (Nat.le_of_ble_eq_true rfl) (k_X8_within (by omega)) ?_
      refine P_goto X 159 dX2_canStand_130 rfl ?_
      exact P_zret X hQ dX2_canStand_159 (bI_01 _) ⟨by rw [eS]; simp [stB2, b21], rfl⟩
    · refine P_tblOut X 160 dX2_canStand_32 (Or.inr (by decide)) rfl ?_
      refine P_aload0 X 161 dX2_canStand_160 rfl ?_
      refine P_iload1 X 162 dX2_canStand_161 rfl ?_
      refine lX_28 X 163 dX2_canStand_162 rfl rfl (by omega) ?_
      refine P_bipush X (59) rfl 165 dX2_canStand_163 rfl ?_
      refine P_icmp_ne X 172 168 dX2_canStand_165 rfl rfl (fun b165 => ?_) (fun b165 => ?_)
      · refine P_iconst X (0) rfl 173 dX2_canStand_172 rfl ?_
        exact P_zret X hQ dX2_canStand_173 (Or.inl rfl) (rt0 (by rw [eS]; simp [stB2, b21, b165]))
      · refine P_iconst X (1) rfl 169 dX2_canStand_168 rfl ?_
        refine P_goto X 173 dX2_canStand_169 rfl ?_
        exact P_zret X hQ dX2_canStand_173 (Or.inr rfl) (rt1 (by rw [eS]; simp [stB2, b21, b165]))
set_option maxHeartbeats 4000000 in
set_option maxRecDepth 100000 in
theorem k_X9_fits {d : Nat} {E : Ev} {p : Nat} {h : Hp} (hd : 1 ≤ d) (hp : p < 80) : Cl d yX9_fits cX9_fits 5 (some .boolean) E (wdY E) [.ref (E.2.2.1 0), .int (nI p)] h (Rt (some (.int (bI (ftB (h 15) p)))) h) := by
  refine Cl_of [some (.ref (E.2.2.1 0)), some (.int (nI p)), none, none, none] (by decide) rfl (Nat.le_of_ble_eq_true rfl) (fun K A X hQ => ?_)
  refine P_aload0 X 1 dX9_fits_0 rfl ?_
  refine gY_0_18 X 4 dX9_fits_1 rfl fl_X9_53 ?_
  refine P_iload1 X 5 dX9_fits_4 rfl ?_
  refine lY_15 X 6 dX9_fits_5 rfl rfl (by omega) ?_
  refine P_istore2 X 7 dX9_fits_6 rfl (by decide) rfl ?_
  refine P_iload1 X 8 dX9_fits_7 rfl ?_
  refine P_iload1 X 9 dX9_fits_8 rfl ?_
  refine P_iconst X (5) rfl 10 dX9_fits_9 rfl ?_
  refine P_irem X (by decide) 11 dX9_fits_10 rfl ?_
  obtain ⟨c0, hc0⟩ : ∃ c9, p % 5 = c9 := ⟨_, rfl⟩
  have h5 : c0 < 5 := by omega
  obtain ⟨s0, hs0⟩ : ∃ s9, p - c0 = s9 := ⟨_, rfl⟩
  have eS : ftB (h 15) p = ftB2 (h 15) c0 s0 p := by rw [ftB, hc0, hs0]
  refine P_top (y := nI c0) (by rw [rem5 (by omega), hc0]) ?_
  refine P_isub X 12 dX9_fits_11 rfl ?_
  refine P_top (y := nI s0) (by rw [pk_sub (by omega), hs0]) ?_
  refine P_istore3 X 13 dX9_fits_12 rfl (by decide) rfl ?_
  refine P_aload0 X 14 dX9_fits_13 rfl ?_
  refine gY_0_18 X 17 dX9_fits_14 rfl fl_X9_53 ?_
  refine P_iload3 X 18 dX9_fits_17 rfl ?_
  refine lY_15 X 19 dX9_fits_18 rfl rfl (by omega) ?_
  refine P_bipush X (97) rfl 21 dX9_fits_19 rfl ?_
  refine P_icmp_ne X 28 24 dX9_fits_21 rfl rfl (fun b21 => ?_) (fun b21 => ?_)
  · refine P_iconst X (0) rfl 29 dX9_fits_28 rfl ?_
    refine P_istore4 X 31 dX9_fits_29 rfl (by decide) rfl ?_
    refine P_iload1 X 32 dX9_fits_31 rfl ?_
    refine P_iconst X (5) rfl 33 dX9_fits_32 rfl ?_
    refine P_irem X (by decide) 34 dX9_fits_33 rfl ?_
    refine P_top (y := nI c0) (by rw [rem5 (by omega), hc0]) ?_
    rcases (show c0 = 0 ∨ c0 = 1 ∨ c0 = 2 ∨ c0 = 3 ∨ c0 = 4 by omega) with rfl | rfl | rfl | rfl | rfl
    · refine P_tblIn X 64 dX9_fits_34 (by decide) (by decide) rfl rfl ?_
      refine P_iload2 X 65 dX9_fits_64 rfl ?_
      refine P_bipush X (97) rfl 67 dX9_fits_65 rfl ?_
      refine P_icmp_eq X 76 70 dX9_fits_67 rfl rfl (fun b67 => ?_) (fun b67 => ?_)
      · refine P_iload1 X 77 dX9_fits_76 rfl ?_
        refine P_bipush X (60) rfl 79 dX9_fits_77 rfl ?_
        refine P_icmp_ge X 86 82 dX9_fits_79 rfl rfl (fun b79 => ?_) (fun b79 => ?_)
        · have b79 : ¬ p < 60 := Nat.not_lt.mpr ((nI_leI (a := 60) (by decide) (by omega)).mp b79)
          refine P_iconst X (0) rfl 87 dX9_fits_86 rfl ?_
          exact P_zret X hQ dX9_fits_87 (Or.inl rfl) (rt0 (by rw [eS]; simp [ftB2, b21, b67, b79]))
        · have b79 : p < 60 := Nat.lt_of_not_le (fun z => b79 (nI_le (a := 60) z (by omega)))
          refine P_iconst X (1) rfl 83 dX9_fits_82 rfl ?_
          refine P_goto X 87 dX9_fits_83 rfl ?_
          exact P_zret X hQ dX9_fits_87 (Or.inr rfl) (rt1 (by rw [eS]; simp [ftB2, b21, b67, b79]))
      · refine P_iload2 X 71 dX9_fits_70 rfl ?_
        refine P_bipush X (115) rfl 73 dX9_fits_71 rfl ?_
        refine P_icmp_ne X 86 76 dX9_fits_73 rfl rfl (fun b73 => ?_) (fun b73 => ?_)
        · skip
          refine P_iconst X (0) rfl 87 dX9_fits_86 rfl ?_
          exact P_zret X hQ dX9_fits_87 (Or.inl rfl) (rt0 (by rw [eS]; simp [ftB2, b21, b67, b73]))
        · refine P_iload1 X 77 dX9_fits_76 rfl ?_
          refine P_bipush X (60) rfl 79 dX9_fits_77 rfl ?_
          refine P_icmp_ge X 86 82 dX9_fits_79 rfl rfl (fun b79 => ?_) (fun b79 => ?_)
          · have b79 : ¬ p < 60 := Nat.not_lt.mpr ((nI_leI (a := 60) (by decide) (by omega)).mp b79)
            refine P_iconst X (0) rfl 87 dX9_fits_86 rfl ?_
            exact P_zret X hQ dX9_fits_87 (Or.inl rfl) (rt0 (by rw [eS]; simp [ftB2, b21, b67, b73, b79]))
          · have b79 : p < 60 := Nat.lt_of_not_le (fun z => b79 (nI_le (a := 60) z (by omega)))
            refine P_iconst X (1) rfl 83 dX9_fits_82 rfl ?_
            refine P_goto X 87 dX9_fits_83 rfl ?_
            exact P_zret X hQ dX9_fits_87 (Or.inr rfl) (rt1 (by rw [eS]; simp [ftB2, b21, b67, b73, b79]))
    · refine P_tblIn X 88 dX9_fits_34 (by decide) (by decide) rfl rfl ?_
      refine P_iload2 X 89 dX9_fits_88 rfl ?_
      refine P_bipush X (48) rfl 91 dX9_fits_89 rfl ?_
      refine P_iload4 X 93 dX9_fits_91 rfl ?_
      refine P_if_eq X 101 96 dX9_fits_93 rfl rfl (fun b93 => ?_) (fun b93 => absurd b93 (by decide))
      refine P_bipush X (53) rfl 103 dX9_fits_101 rfl ?_
      refine S3r X 106 dX9_fits_103 rfl lk_X9_111 ms_X9_in rfl (by omega) (Nat.le_of_ble_eq_true rfl) (k_X9_in (by omega)) ?_
      exact P_zret X hQ dX9_fits_106 (bI_01 _) ⟨by rw [eS]; simp [ftB2, b21], rfl⟩
    · refine P_tblIn X 107 dX9_fits_34 (by decide) (by decide) rfl rfl ?_
      refine P_iload2 X 108 dX9_fits_107 rfl ?_
      refine P_bipush X (48) rfl 110 dX9_fits_108 rfl ?_
      refine P_iload4 X 112 dX9_fits_110 rfl ?_
      refine P_if_eq X 120 115 dX9_fits_112 rfl rfl (fun b112 => ?_) (fun b112 => absurd b112 (by decide))
      refine P_bipush X (51) rfl 122 dX9_fits_120 rfl ?_
      refine S3r X 125 dX9_fits_122 rfl lk_X9_111 ms_X9_in rfl (by omega) (Nat.le_of_ble_eq_true rfl) (k_X9_in (by omega)) ?_
      exact P_zret X hQ dX9_fits_125 (bI_01 _) ⟨by rw [eS]; simp [ftB2, b21], rfl⟩
    · refine P_tblIn X 126 dX9_fits_34 (by decide) (by decide) rfl rfl ?_
      refine P_iload4 X 128 dX9_fits_126 rfl ?_
      refine P_if_eq X 142 131 dX9_fits_128 rfl rfl (fun b128 => ?_) (fun b128 => absurd b128 (by decide))
      refine P_iload2 X 143 dX9_fits_142 rfl ?_
      refine P_bipush X (48) rfl 145 dX9_fits_143 rfl ?_
      refine P_bipush X (53) rfl 147 dX9_fits_145 rfl ?_
      refine S3r X 150 dX9_fits_147 rfl lk_X9_111 ms_X9_in rfl (by omega) (Nat.le_of_ble_eq_true rfl) (k_X9_in (by omega)) ?_
      refine P_bz X 169 153 dX9_fits_150 rfl rfl (fun b150 => ?_) (fun b150 => ?_)
      · refine P_iconst X (0) rfl 170 dX9_fits_169 rfl ?_
        exact P_zret X hQ dX9_fits_170 (Or.inl rfl) (rt0 (by rw [eS]; simp [ftB2, b21, b150]))
      · refine P_iload2 X 154 dX9_fits_153 rfl ?_
        refine P_aload0 X 155 dX9_fits_154 rfl ?_
        refine gY_0_18 X 158 dX9_fits_155 rfl fl_X9_53 ?_
        refine P_iload3 X 159 dX9_fits_158 rfl ?_
        refine P_iconst X (1) rfl 160 dX9_fits_159 rfl ?_
        refine P_iadd X 161 dX9_fits_160 rfl ?_
        refine lY_15 X 162 dX9_fits_161 rfl (nI_add s0 1) (by omega) ?_
        refine P_icmp_eq X 169 165 dX9_fits_162 rfl rfl (fun b162 => ?_) (fun b162 => ?_)
        · refine P_iconst X (0) rfl 170 dX9_fits_169 rfl ?_
          exact P_zret X hQ dX9_fits_170 (Or.inl rfl) (rt0 (by rw [eS]; simp [ftB2, b21, b150, b162]))
        · refine P_iconst X (1) rfl 166 dX9_fits_165 rfl ?_
          refine P_goto X 170 dX9_fits_166 rfl ?_
          exact P_zret X hQ dX9_fits_170 (Or.inr rfl) (rt1 (by rw [eS]; simp [ftB2, b21, b150, b162]))
    · refine P_tblOut X 171 dX9_fits_34 (Or.inr (by decide)) rfl ?_
      refine P_iload2 X 172 dX9_fits_171 rfl ?_
      refine P_bipush X (59) rfl 174 dX9_fits_172 rfl ?_
      refine P_icmp_ne X 181 177 dX9_fits_174 rfl rfl (fun b174 => ?_) (fun b174 => ?_)
      · refine P_iconst X (0) rfl 182 dX9_fits_181 rfl ?_
        exact P_zret X hQ dX9_fits_182 (Or.inl rfl) (rt0 (by rw [eS]; simp [ftB2, b21, b174]))
      · refine P_iconst X (1) rfl 178 dX9_fits_177 rfl ?_
        refine P_goto X 182 dX9_fits_178 rfl ?_
        exact P_zret X hQ dX9_fits_182 (Or.inr rfl) (rt1 (by rw [eS]; simp [ftB2, b21, b174]))
  · refine P_iconst X (1) rfl 25 dX9_fits_24 rfl ?_
    refine P_goto X 29 dX9_fits_25 rfl ?_
    refine P_istore4 X 31 dX9_fits_29 rfl (by decide) rfl ?_
    refine P_iload1 X 32 dX9_fits_31 rfl ?_
    refine P_iconst X (5) rfl 33 dX9_fits_32 rfl ?_
    refine P_irem X (by decide) 34 dX9_fits_33 rfl ?_
    refine P_top (y := nI c0) (by rw [rem5 (by omega), hc0]) ?_
    rcases (show c0 = 0 ∨ c0 = 1 ∨ c0 = 2 ∨ c0 = 3 ∨ c0 = 4 by omega) with rfl | rfl | rfl | rfl | rfl
    · refine P_tblIn X 64 dX9_fits_34 (by decide) (by decide) rfl rfl ?_
      refine P_iload2 X 65 dX9_fits_64 rfl ?_
      refine P_bipush X (97) rfl 67 dX9_fits_65 rfl ?_
      refine P_icmp_eq X 76 70 dX9_fits_67 rfl rfl (fun b67 => ?_) (fun b67 => ?_)
      · refine P_iload1 X 77 dX9_fits_76 rfl ?_
        refine P_bipush X (60) rfl 79 dX9_fits_77 rfl ?_
        refine P_icmp_ge X 86 82 dX9_fits_79 rfl rfl (fun b79 => ?_) (fun b79 => ?_)
        · have b79 : ¬ p < 60 := Nat.not_lt.mpr ((nI_leI (a := 60) (by decide) (by omega)).mp b79)
          refine P_iconst X (0) rfl 87 dX9_fits_86 rfl ?_
          exact P_zret X hQ dX9_fits_87 (Or.inl rfl) (rt0 (by rw [eS]; simp [ftB2, b21, b67, b79]))
        · have b79 : p < 60 := Nat.lt_of_not_le (fun z => b79 (nI_le (a := 60) z (by omega)))
          refine P_iconst X (1) rfl 83 dX9_fits_82 rfl ?_
          refine P_goto X 87 dX9_fits_83 rfl ?_
          exact P_zret X hQ dX9_fits_87 (Or.inr rfl) (rt1 (by rw [eS]; simp [ftB2, b21, b67, b79]))
      · refine P_iload2 X 71 dX9_fits_70 rfl ?_
        refine P_bipush X (115) rfl 73 dX9_fits_71 rfl ?_
        refine P_icmp_ne X 86 76 dX9_fits_73 rfl rfl (fun b73 => ?_) (fun b73 => ?_)
        · skip
          refine P_iconst X (0) rfl 87 dX9_fits_86 rfl ?_
          exact P_zret X hQ dX9_fits_87 (Or.inl rfl) (rt0 (by rw [eS]; simp [ftB2, b21, b67, b73]))
        · refine P_iload1 X 77 dX9_fits_76 rfl ?_
          refine P_bipush X (60) rfl 79 dX9_fits_77 rfl ?_
          refine P_icmp_ge X 86 82 dX9_fits_79 rfl rfl (fun b79 => ?_) (fun b79 => ?_)
          · have b79 : ¬ p < 60 := Nat.not_lt.mpr ((nI_leI (a := 60) (by decide) (by omega)).mp b79)
            refine P_iconst X (0) rfl 87 dX9_fits_86 rfl ?_
            exact P_zret X hQ dX9_fits_87 (Or.inl rfl) (rt0 (by rw [eS]; simp [ftB2, b21, b67, b73, b79]))
          · have b79 : p < 60 := Nat.lt_of_not_le (fun z => b79 (nI_le (a := 60) z (by omega)))
            refine P_iconst X (1) rfl 83 dX9_fits_82 rfl ?_
            refine P_goto X 87 dX9_fits_83 rfl ?_
            exact P_zret X hQ dX9_fits_87 (Or.inr rfl) (rt1 (by rw [eS]; simp [ftB2, b21, b67, b73, b79]))
    · refine P_tblIn X 88 dX9_fits_34 (by decide) (by decide) rfl rfl ?_
      refine P_iload2 X 89 dX9_fits_88 rfl ?_
      refine P_bipush X (48) rfl 91 dX9_fits_89 rfl ?_
      refine P_iload4 X 93 dX9_fits_91 rfl ?_
      refine P_if_eq X 101 96 dX9_fits_93 rfl rfl (fun b93 => absurd b93 (by decide)) (fun b93 => ?_)
      refine P_bipush X (52) rfl 98 dX9_fits_96 rfl ?_
      refine P_goto X 103 dX9_fits_98 rfl ?_
      refine S3r X 106 dX9_fits_103 rfl lk_X9_111 ms_X9_in rfl (by omega) (Nat.le_of_ble_eq_true rfl) (k_X9_in (by omega)) ?_
      exact P_zret X hQ dX9_fits_106 (bI_01 _) ⟨by rw [eS]; simp [ftB2, b21], rfl⟩
    · refine P_tblIn X 107 dX9_fits_34 (by decide) (by decide) rfl rfl ?_
      refine P_iload2 X 108 dX9_fits_107 rfl ?_
      refine P_bipush X (48) rfl 110 dX9_fits_108 rfl ?_
      refine P_iload4 X 112 dX9_fits_110 rfl ?_
      refine P_if_eq X 120 115 dX9_fits_112 rfl rfl (fun b112 => absurd b112 (by decide)) (fun b112 => ?_)
      refine P_bipush X (53) rfl 117 dX9_fits_115 rfl ?_
      refine P_goto X 122 dX9_fits_117 rfl ?_
      refine S3r X 125 dX9_fits_122 rfl lk_X9_111 ms_X9_in rfl (by omega) (Nat.le_of_ble_eq_true rfl) (k_X9_in (by omega)) ?_
      exact P_zret X hQ dX9_fits_125 (bI_01 _) ⟨by rw [eS]; simp [ftB2, b21], rfl⟩
    · refine P_tblIn X 126 dX9_fits_34 (by decide) (by decide) rfl rfl ?_
      refine P_iload4 X 128 dX9_fits_126 rfl ?_
      refine P_if_eq X 142 131 dX9_fits_128 rfl rfl (fun b128 => absurd b128 (by decide)) (fun b128 => ?_)
      refine P_iload2 X 132 dX9_fits_131 rfl ?_
      refine P_bipush X (49) rfl 134 dX9_fits_132 rfl ?_
      refine P_bipush X (57) rfl 136 dX9_fits_134 rfl ?_
      refine S3r X 139 dX9_fits_136 rfl lk_X9_111 ms_X9_in rfl (by omega) (Nat.le_of_ble_eq_true rfl) (k_X9_in (by omega)) ?_
      refine P_goto X 170 dX9_fits_139 rfl ?_
      exact P_zret X hQ dX9_fits_170 (bI_01 _) ⟨by rw [eS]; simp [ftB2, b21], rfl⟩
    · refine P_tblOut X 171 dX9_fits_34 (Or.inr (by decide)) rfl ?_
      refine P_iload2 X 172 dX9_fits_171 rfl ?_
      refine P_bipush X (59) rfl 174 dX9_fits_172 rfl ?_
      refine P_icmp_ne X 181 177 dX9_fits_174 rfl rfl (fun b174 => ?_) (fun b174 => ?_)
      · refine P_iconst X (0) rfl 182 dX9_fits_181 rfl ?_
        exact P_zret X hQ dX9_fits_182 (Or.inl rfl) (rt0 (by rw [eS]; simp [ftB2, b21, b174]))
      · refine P_iconst X (1) rfl 178 dX9_fits_177 rfl ?_
        refine P_goto X 182 dX9_fits_178 rfl ?_
        exact P_zret X hQ dX9_fits_182 (Or.inr rfl) (rt1 (by rw [eS]; simp [ftB2, b21, b174]))
def wpN (f : Nat → Int32) (l : Nat) : Nat := fst (fun p => !(decide (p < 60) && stB f p)) l
def wpI (f : Nat → Int32) (l : Nat) : Int32 := if wpN f l < l then nI (wpN f l) else if l % 5 = 0 then -1 else nI l
set_option maxHeartbeats 4000000 in
set_option maxRecDepth 100000 in
theorem k_X2_wrongPlace {d : Nat} {E : Ev} {l : Nat} {h : Hp} (hd : 2 ≤ d) (hl : h 4 1 = nI l) (hl80 : l ≤ 80) : Cl d yX2_wrongPlace cX2_wrongPlace 3 (some .int) E (wdX E) [.ref (E.2.2.1 5), .ref (E.2.2.1 4)] h (Rt (some (.int (wpI (h 28) l))) h) := by
  refine Cl_of [some (.ref (E.2.2.1 5)), some (.ref (E.2.2.1 4)), none] (by decide) rfl (Nat.le_of_ble_eq_true rfl) (fun K A X hQ => ?_)
  have L : ∀ (m i : Nat) , i + m = l → (∀ j, j < i → (fun p => !(decide (p < 60) && stB (h 28) p)) j = false) → GW K 3 E (wdX E) A 2 [some (.ref (E.2.2.1 5)), some (.ref (E.2.2.1 4)), some (.int (nI i))] [] h := by
    intro m
    induction m with
    | zero =>
      intro i  hm hI0
      refine P_iload2 X 3 dX2_wrongPlace_2 rfl ?_
      refine P_aload1 X 4 dX2_wrongPlace_3 rfl ?_
      refine gX_4_1 X 7 dX2_wrongPlace_4 rfl fl_X2_28 ?_
      refine P_icmp_ge X 35 10 dX2_wrongPlace_7 rfl rfl (fun b7 => ?_) (fun b7 => ?_)
      · obtain rfl : i = l := by omega
        have hN : wpN (h 28) i = i := fst_none hI0
        refine P_aload1 X 36 dX2_wrongPlace_35 rfl ?_
        refine gX_4_1 X 39 dX2_wrongPlace_36 rfl fl_X2_28 ?_
        refine P_top hl ?_
        refine P_iconst X (5) rfl 40 dX2_wrongPlace_39 rfl ?_
        refine P_irem X (by decide) 41 dX2_wrongPlace_40 rfl ?_
        refine P_top (rem5 (by omega)) ?_
        refine P_if_ne X 48 44 dX2_wrongPlace_41 rfl rfl (fun b41 => ?_) (fun b41 => ?_)
        · have hz : ¬ i % 5 = 0 := fun z => b41 (by rw [z]; rfl)
          refine P_aload1 X 49 dX2_wrongPlace_48 rfl ?_
          refine gX_4_1 X 52 dX2_wrongPlace_49 rfl fl_X2_28 ?_
          exact P_iret X hQ dX2_wrongPlace_52 (rti (by rw [wpI, hN, if_neg (by omega), if_neg hz]; exact hl))
        · have hz : i % 5 = 0 := by
            rcases Nat.eq_zero_or_pos (i % 5) with z | z
            · exact z
            · exact absurd b41 (nI_ne0 z (by omega))
          refine P_iconst X (-1) rfl 45 dX2_wrongPlace_44 rfl ?_
          refine P_goto X 52 dX2_wrongPlace_45 rfl ?_
          exact P_iret X hQ dX2_wrongPlace_52 (rti (by rw [wpI, hN, if_neg (by omega), if_pos hz]))
      · exact (geN hl b7 (by omega) (by omega)).elim
    | succ m ih =>
      intro i  hm hI0
      refine P_iload2 X 3 dX2_wrongPlace_2 rfl ?_
      refine P_aload1 X 4 dX2_wrongPlace_3 rfl ?_
      refine gX_4_1 X 7 dX2_wrongPlace_4 rfl fl_X2_28 ?_
      refine P_icmp_ge X 35 10 dX2_wrongPlace_7 rfl rfl (fun b7 => ?_) (fun b7 => ?_)
      · exact (geY hl b7 (by omega) (by omega)).elim
      · refine P_iload2 X 11 dX2_wrongPlace_10 rfl ?_
        refine P_bipush X (60) rfl 13 dX2_wrongPlace_11 rfl ?_
        refine P_icmp_ge X 27 16 dX2_wrongPlace_13 rfl rfl (fun b13 => ?_) (fun b13 => ?_)
        · have b13 : ¬ i < 60 := Nat.not_lt.mpr ((nI_leI (a := 60) (by decide) (by omega)).mp b13)
          refine P_iload2 X 28 dX2_wrongPlace_27 rfl ?_
          exact P_iret X hQ dX2_wrongPlace_28 (rti (by rw [wpI, show wpN (h 28) l = i from fst_at hI0 (by simp [b13]) (by omega), if_pos (by omega)]))
        · have b13 : i < 60 := Nat.lt_of_not_le (fun z => b13 (nI_le (a := 60) z (by omega)))
          refine P_aload1 X 17 dX2_wrongPlace_16 rfl ?_
          refine gX_4_0 X 20 dX2_wrongPlace_17 rfl fl_X2_33 ?_
          refine P_iload2 X 21 dX2_wrongPlace_20 rfl ?_
          refine S2r X 24 dX2_wrongPlace_21 rfl lk_X2_36 ms_X2_canStand rfl (by omega) (Nat.le_of_ble_eq_true rfl) (k_X2_canStand (by omega) (by omega)) ?_
          refine P_bn X 29 27 dX2_wrongPlace_24 rfl rfl (fun b24 => ?_) (fun b24 => ?_)
          · refine P_iinc2 X (1) rfl 32 dX2_wrongPlace_29 rfl (by decide) rfl ?_
            refine P_goto X 2 dX2_wrongPlace_32 rfl ?_
            rw [nI_1]
            exact ih (i + 1) (by omega) (lt_s hI0 (by simp [b13, b24]))
          · skip
            refine P_iload2 X 28 dX2_wrongPlace_27 rfl ?_
            exact P_iret X hQ dX2_wrongPlace_28 (rti (by rw [wpI, show wpN (h 28) l = i from fst_at hI0 (by simp [b24]) (by omega), if_pos (by omega)]))
  refine P_iconst X (0) rfl 1 dX2_wrongPlace_0 rfl ?_
  refine P_istore2 X 2 dX2_wrongPlace_1 rfl (by decide) rfl ?_
  exact L l 0 (by omega) (fun j hj => absurd hj (Nat.not_lt_zero _))
def ldH (h : Hp) (rr : Nat) : Nat → Hp
  | 0 => put h 5 4 (nI rr)
  | r + 1 => put (put (put (put (ldH h rr r) 29 r (h 28 (5 * r))) 30 r (h 28 (5 * r + 1) - 48)) 31 r (h 28 (5 * r + 2) - 48)) 32 r (h 28 (5 * r + 3) - 48)
theorem ldH_28 {h : Hp} {rr : Nat} : ∀ r, ldH h rr r 28 = h 28
  | 0 => by rw [ldH, put_n (by decide)]
  | r + 1 => by rw [ldH, put_n (by decide), put_n (by decide), put_n (by decide), put_n (by decide)]; exact ldH_28 r
theorem ldH_5 {h : Hp} {rr : Nat} : ∀ r, ldH h rr r 5 4 = nI rr
  | 0 => by rw [ldH, put_s]
  | r + 1 => by rw [ldH, put_n (by decide), put_n (by decide), put_n (by decide), put_n (by decide)]; exact ldH_5 r

set_option maxHeartbeats 4000000 in
set_option maxRecDepth 100000 in
theorem k_X2_load {d : Nat} {E : Ev} {l : Nat} {h : Hp} (hd : 0 ≤ d) (hl : h 4 1 = nI l) (hl60 : l ≤ 60) : Cl d yX2_load cX2_load 4 none E (wdX E) [.ref (E.2.2.1 5), .ref (E.2.2.1 4)] h (Rt none (ldH h (l / 5) (l / 5))) := by
  refine Cl_of [some (.ref (E.2.2.1 5)), some (.ref (E.2.2.1 4)), none, none] (by decide) rfl (Nat.le_of_ble_eq_true rfl) (fun K A X hQ => ?_)
  obtain ⟨rr, hrr⟩ : ∃ z9, l / 5 = z9 := ⟨_, rfl⟩
  have hr12 : rr ≤ 12 := by omega
  rw [hrr] at hQ
  have L : ∀ (m i : Nat) (o3 : Option Value), i + m = rr → GW K 4 E (wdX E) A 12 [some (.ref (E.2.2.1 5)), some (.ref (E.2.2.1 4)), some (.int (nI i)), o3] [] (ldH h rr i) := by
    intro m
    induction m with
    | zero =>
      intro i o3 hm 
      refine P_iload2 X 13 dX2_load_12 rfl ?_
      refine P_aload0 X 14 dX2_load_13 rfl ?_
      refine gX_5_4 X 17 dX2_load_14 rfl fl_X2_24 ?_
      refine P_icmp_ge X 93 20 dX2_load_17 rfl rfl (fun b17 => ?_) (fun b17 => ?_)
      · obtain rfl : i = rr := by omega
        exact P_ret X hQ dX2_load_93 ⟨rfl, rfl⟩
      · exact (geN (ldH_5 (h := h) (rr := rr) i) b17 (by omega) (by omega)).elim
    | succ m ih =>
      intro i o3 hm 
      refine P_iload2 X 13 dX2_load_12 rfl ?_
      refine P_aload0 X 14 dX2_load_13 rfl ?_
      refine gX_5_4 X 17 dX2_load_14 rfl fl_X2_24 ?_
      refine P_icmp_ge X 93 20 dX2_load_17 rfl rfl (fun b17 => ?_) (fun b17 => ?_)
      · exact (geY (ldH_5 (h := h) (rr := rr) i) b17 (by omega) (by omega)).elim
      · refine P_iload2 X 21 dX2_load_20 rfl ?_
        refine P_iconst X (5) rfl 22 dX2_load_21 rfl ?_
        refine P_imul X 23 dX2_load_22 rfl ?_
        refine P_top (y := nI (5 * i)) (by rw [Nat.mul_comm]; exact ixm0 i 5) ?_
        refine P_istore3 X 24 dX2_load_23 rfl (by decide) rfl ?_
        refine P_aload0 X 25 dX2_load_24 rfl ?_
        refine gX_5_0 X 28 dX2_load_25 rfl fl_X2_11 ?_
        refine P_iload2 X 29 dX2_load_28 rfl ?_
        refine P_aload1 X 30 dX2_load_29 rfl ?_
        refine gX_4_0 X 33 dX2_load_30 rfl fl_X2_33 ?_
        refine P_iload3 X 34 dX2_load_33 rfl ?_
        refine lX_28 X 35 dX2_load_34 rfl rfl (by omega) ?_
        refine P_top (y := h 28 (5 * i)) (by rw [ldH_28]) ?_
        refine sX_29 X 36 dX2_load_35 rfl rfl (by omega) ?_
        refine P_aload0 X 37 dX2_load_36 rfl ?_
        refine gX_5_1 X 40 dX2_load_37 rfl fl_X2_15 ?_
        refine P_iload2 X 41 dX2_load_40 rfl ?_
        refine P_aload1 X 42 dX2_load_41 rfl ?_
        refine gX_4_0 X 45 dX2_load_42 rfl fl_X2_33 ?_
        refine P_iload3 X 46 dX2_load_45 rfl ?_
        refine P_iconst X (1) rfl 47 dX2_load_46 rfl ?_
        refine P_iadd X 48 dX2_load_47 rfl ?_
        refine lX_28 X 49 dX2_load_48 rfl (nI_add _ 1) (by omega) ?_
        refine P_top (y := h 28 (5 * i + 1)) (by rw [put_n (by decide), ldH_28]) ?_
        refine P_bipush X (48) rfl 51 dX2_load_49 rfl ?_
        refine P_isub X 52 dX2_load_51 rfl ?_
        refine sX_30 X 53 dX2_load_52 rfl rfl (by omega) ?_
        refine P_aload0 X 54 dX2_load_53 rfl ?_
        refine gX_5_2 X 57 dX2_load_54 rfl fl_X2_18 ?_
        refine P_iload2 X 58 dX2_load_57 rfl ?_
        refine P_aload1 X 59 dX2_load_58 rfl ?_
        refine gX_4_0 X 62 dX2_load_59 rfl fl_X2_33 ?_
        refine P_iload3 X 63 dX2_load_62 rfl ?_
        refine P_iconst X (2) rfl 64 dX2_load_63 rfl ?_
        refine P_iadd X 65 dX2_load_64 rfl ?_
        refine lX_28 X 66 dX2_load_65 rfl (nI_add _ 2) (by omega) ?_
        refine P_top (y := h 28 (5 * i + 2)) (by rw [put_n (by decide), put_n (by decide), ldH_28]) ?_
        refine P_bipush X (48) rfl 68 dX2_load_66 rfl ?_
        refine P_isub X 69 dX2_load_68 rfl ?_
        refine sX_31 X 70 dX2_load_69 rfl rfl (by omega) ?_
        refine P_aload0 X 71 dX2_load_70 rfl ?_
        refine gX_5_3 X 74 dX2_load_71 rfl fl_X2_21 ?_
        refine P_iload2 X 75 dX2_load_74 rfl ?_
        refine P_aload1 X 76 dX2_load_75 rfl ?_
        refine gX_4_0 X 79 dX2_load_76 rfl fl_X2_33 ?_
        refine P_iload3 X 80 dX2_load_79 rfl ?_
        refine P_iconst X (3) rfl 81 dX2_load_80 rfl ?_
        refine P_iadd X 82 dX2_load_81 rfl ?_
        refine lX_28 X 83 dX2_load_82 rfl (nI_add _ 3) (by omega) ?_
        refine P_top (y := h 28 (5 * i + 3)) (by rw [put_n (by decide), put_n (by decide), put_n (by decide), ldH_28]) ?_
        refine P_bipush X (48) rfl 85 dX2_load_83 rfl ?_
        refine P_isub X 86 dX2_load_85 rfl ?_
        refine sX_32 X 87 dX2_load_86 rfl rfl (by omega) ?_
        refine P_iinc2 X (1) rfl 90 dX2_load_87 rfl (by decide) rfl ?_
        refine P_goto X 12 dX2_load_90 rfl ?_
        simp only [nI_1]
        exact ih (i + 1) _ (by omega)
  refine P_aload0 X 1 dX2_load_0 rfl ?_
  refine P_aload1 X 2 dX2_load_1 rfl ?_
  refine gX_4_1 X 5 dX2_load_2 rfl fl_X2_28 ?_
  refine P_top hl ?_
  refine P_iconst X (5) rfl 6 dX2_load_5 rfl ?_
  refine P_idiv X (by decide) 7 dX2_load_6 rfl ?_
  refine P_top (y := nI rr) (by rw [div5 (by omega), hrr]) ?_
  refine pX_5_4 X 10 dX2_load_7 rfl fw_X2_24 ?_
  refine P_iconst X (0) rfl 11 dX2_load_10 rfl ?_
  refine P_istore2 X 12 dX2_load_11 rfl (by decide) rfl ?_
  exact L rr 0 none (by omega)
def okTx (f : Nat → Int32) (l : Nat) : Bool := decide (wpN f l = l) && decide (l % 5 = 0)
theorem wpN_60 {f : Nat → Int32} {l : Nat} (h : wpN f l = l) : l ≤ 60 := by
  apply Classical.byContradiction
  intro z
  have hp : ∀ n, 60 < n → fst (fun p => !(decide (p < 60) && stB f p)) n ≤ 60 := by
    intro n
    induction n with
    | zero => intro q; omega
    | succ n ih =>
      intro q
      rw [fst]
      by_cases e : 60 < n
      · have := ih e
        rw [if_pos (by omega)]
        exact this
      · have e2 : n = 60 := by omega
        subst e2
        have := fst_le (fun p => !(decide (p < 60) && stB f p)) 60
        split
        · exact this
        · rw [if_pos (by simp)]
          omega
  have := hp l (by omega)
  have e : fst (fun p => !(decide (p < 60) && stB f p)) l = l := h
  omega
set_option maxHeartbeats 4000000 in
set_option maxRecDepth 100000 in
theorem k_X8_text {d : Nat} {E : Ev} {l : Nat} {h : Hp} (hd : 3 ≤ d) (hl : h 4 1 = nI l) (hl80 : l ≤ 80) : Cl d yX8_text cX8_text 2 (some .int) E (wdX E) [.ref (E.2.2.1 0)] h (Rt (some (.int (if okTx (h 28) l then nI (l / 5) else -1000100 - nI (wpN (h 28) l)))) (if okTx (h 28) l then put (ldH h (l / 5) (l / 5)) 4 1 0 else fiX (put h 4 1 0))) := by
  refine Cl_of [some (.ref (E.2.2.1 0)), none] (by decide) rfl (Nat.le_of_ble_eq_true rfl) (fun K A X hQ => ?_)
  refine P_aload0 X 1 dX8_text_0 rfl ?_
  refine gX_0_4 X 4 dX8_text_1 rfl fl_X8_40 ?_
  refine P_aload0 X 5 dX8_text_4 rfl ?_
  refine gX_0_3 X 8 dX8_text_5 rfl fl_X8_33 ?_
  refine V1r X 5 11 dX8_text_8 rfl lk_X8_154 mv_X2_wrongPlace rfl (by omega) (Nat.le_of_ble_eq_true rfl) (Nat.le_of_ble_eq_true rfl) rfl rfl (k_X2_wrongPlace (by omega) hl hl80) ?_
  by_cases hok : okTx (h 28) l = true
  · have hw : wpN (h 28) l = l := by
      rw [okTx, Bool.and_eq_true] at hok
      exact of_decide_eq_true hok.1
    have hm5 : l % 5 = 0 := by
      rw [okTx, Bool.and_eq_true] at hok
      exact of_decide_eq_true hok.2
    refine P_top (y := -1) (by rw [wpI, hw, if_neg (by omega), if_pos hm5]) ?_
    refine P_istore1 X 12 dX8_text_11 rfl (by decide) rfl ?_
    refine P_iload1 X 13 dX8_text_12 rfl ?_
    refine P_iconst X (-1) rfl 14 dX8_text_13 rfl ?_
    refine P_icmp_ne X 28 17 dX8_text_14 rfl rfl (fun b14 => ?_) (fun b14 => ?_)
    · exact absurd rfl b14
    · refine P_aload0 X 18 dX8_text_17 rfl ?_
      refine gX_0_4 X 21 dX8_text_18 rfl fl_X8_40 ?_
      refine P_aload0 X 22 dX8_text_21 rfl ?_
      refine gX_0_3 X 25 dX8_text_22 rfl fl_X8_33 ?_
      refine V1v X 5 28 dX8_text_25 rfl lk_X8_158 mv_X2_load rfl (by omega) (Nat.le_of_ble_eq_true rfl) (Nat.le_of_ble_eq_true rfl) rfl rfl (k_X2_load (by omega) hl (wpN_60 hw)) ?_
      refine P_aload0 X 29 dX8_text_28 rfl ?_
      refine gX_0_3 X 32 dX8_text_29 rfl fl_X8_33 ?_
      refine P_iconst X (0) rfl 33 dX8_text_32 rfl ?_
      refine pX_4_1 X 36 dX8_text_33 rfl fw_X8_147 ?_
      refine P_iload1 X 37 dX8_text_36 rfl ?_
      refine P_iconst X (-1) rfl 38 dX8_text_37 rfl ?_
      refine P_icmp_ne X 51 41 dX8_text_38 rfl rfl (fun b38 => ?_) (fun b38 => ?_)
      · exact absurd rfl b38
      · refine P_aload0 X 42 dX8_text_41 rfl ?_
        refine gX_0_4 X 45 dX8_text_42 rfl fl_X8_40 ?_
        refine gX_5_4 X 48 dX8_text_45 rfl fl_X8_162 ?_
        refine P_goto X 59 dX8_text_48 rfl ?_
        exact P_iret X hQ dX8_text_59 ⟨by rw [if_pos hok, put_n (by decide), ldH_5], by rw [if_pos hok]⟩
  · have hno : okTx (h 28) l = false := by simpa using hok
    have hle : wpN (h 28) l ≤ l := fst_le _ _
    have hv : wpI (h 28) l = nI (wpN (h 28) l) := by
      rw [wpI]
      by_cases hlt : wpN (h 28) l < l
      · rw [if_pos hlt]
      · have hw : wpN (h 28) l = l := by omega
        rw [if_neg hlt, if_neg (fun z => by rw [okTx, hw, z] at hno; simp at hno), hw]
    have hne : ¬ wpI (h 28) l = -1 := by rw [hv]; exact nI_nm1 (by omega)
    refine P_istore1 X 12 dX8_text_11 rfl (by decide) rfl ?_
    refine P_iload1 X 13 dX8_text_12 rfl ?_
    refine P_iconst X (-1) rfl 14 dX8_text_13 rfl ?_
    refine P_icmp_ne X 28 17 dX8_text_14 rfl rfl (fun b14 => ?_) (fun b14 => ?_)
    · refine P_aload0 X 29 dX8_text_28 rfl ?_
      refine gX_0_3 X 32 dX8_text_29 rfl fl_X8_33 ?_
      refine P_iconst X (0) rfl 33 dX8_text_32 rfl ?_
      refine pX_4_1 X 36 dX8_text_33 rfl fw_X8_147 ?_
      refine P_iload1 X 37 dX8_text_36 rfl ?_
      refine P_iconst X (-1) rfl 38 dX8_text_37 rfl ?_
      refine P_icmp_ne X 51 41 dX8_text_38 rfl rfl (fun b38 => ?_) (fun b38 => ?_)
      · refine P_aload0 X 52 dX8_text_51 rfl ?_
        refine P_ldc X kc_X8_165 54 dX8_text_52 rfl ?_
        refine P_iload1 X 55 dX8_text_54 rfl ?_
        refine P_isub X 56 dX8_text_55 rfl ?_
        refine V1r X 0 59 dX8_text_56 rfl lk_X8_91 mv_X8_finding rfl (by omega) (Nat.le_of_ble_eq_true rfl) (Nat.le_of_ble_eq_true rfl) rfl rfl (k_X8_finding (by omega)) ?_
        exact P_iret X hQ dX8_text_59 ⟨by rw [if_neg (by rw [hno]; simp), ← hv], by rw [if_neg (by rw [hno]; simp)]; rfl⟩
      · exact absurd b38 hne
    · exact absurd b14 hne
