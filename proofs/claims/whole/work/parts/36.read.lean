abbrev ntX (h : Hp) (n nT : Nat) (k x y b t : Int32) : Nat := newT (h 12) (h 13) (h 14) (h 15) (h 16) (h 18) (h 19) (h 17) (h 21) n nT k x y b t
abbrev ntY (h : Hp) (n nT : Nat) (k x y b t : Int32) : Nat := newT (h 1) (h 2) (h 3) (h 4) (h 5) (h 7) (h 8) (h 6) (h 10) n nT k x y b t
def JX (h : Hp) (n nT : Nat) : Prop := h 1 8 = nI n ∧ h 2 6 = nI nT ∧ nT ≤ n ∧ AB (h 12) (h 13) (h 14) (h 15) (h 16) (h 18) (h 19)
def JY (h : Hp) (n nT : Nat) : Prop := h 0 1 = nI n ∧ h 0 10 = nI nT ∧ nT ≤ n ∧ AB (h 1) (h 2) (h 3) (h 4) (h 5) (h 7) (h 8) ∧ Bd (h 10) 2
theorem joinH_n {h : Hp} {n nT T j : Nat} {k x y b t : Int32} (hj : j ≠ 1 ∧ j ≠ 2 ∧ j ≠ 12 ∧ j ≠ 13 ∧ j ≠ 14 ∧ j ≠ 15 ∧ j ≠ 16 ∧ j ≠ 17 ∧ j ≠ 20 ∧ j ≠ 21 ∧ j ≠ 23) : joinH h n nT k x y b t T j = h j := by
  rw [joinH, put_n (by omega)]
  by_cases e : T < nT
  · rw [if_pos e, addH, put_n (by omega), put_n (by omega), put_n (by omega), put_n (by omega), put_n (by omega), put_n (by omega), put_n (by omega)]
  · rw [if_neg e, begH, put_n (by omega), put_n (by omega), put_n (by omega), put_n (by omega), addH, put_n (by omega), put_n (by omega), put_n (by omega), put_n (by omega), put_n (by omega), put_n (by omega), put_n (by omega)]
theorem comeY_n {h : Hp} {n nT T j : Nat} {k x y b t : Int32} (hj : j ≠ 0 ∧ j ≠ 1 ∧ j ≠ 2 ∧ j ≠ 3 ∧ j ≠ 4 ∧ j ≠ 5 ∧ j ≠ 6 ∧ j ≠ 9 ∧ j ≠ 10 ∧ j ≠ 11 ∧ j ≠ 12 ∧ j ≠ 14) : comeY h n nT k x y b t T j = h j := by
  rw [comeY, put_n (by omega), put_n (by omega)]
  by_cases e : T < nT
  · rw [if_pos e, g1Y, put_n (by omega), put_n (by omega), put_n (by omega), put_n (by omega), put_n (by omega)]
  · rw [if_neg e, g2Y, put_n (by omega), put_n (by omega), put_n (by omega), put_n (by omega), put_n (by omega), put_n (by omega), g1Y, put_n (by omega), put_n (by omega), put_n (by omega), put_n (by omega), put_n (by omega)]
theorem JX_step {h : Hp} {n nT T : Nat} {k x y b t : Int32} (hJ : JX h n nT) (hT : T ≤ nT) (q : QA k x y b t) : JX (joinH h n nT k x y b t T) (n + 1) (if T < nT then nT else nT + 1) := by
  obtain ⟨h1, h2, h3, h4⟩ := hJ
  by_cases e : T < nT
  · rw [if_pos e]
    simp only [JX, joinH]
    rw [if_pos e]
    refine ⟨by simp [addH, put, up2, upd], by simp [addH, put, up2, upd, h2], by omega, ?_⟩
    have := AB_upd (n := n) h4 q
    simpa [addH, put, up2] using this
  · rw [if_neg e]
    simp only [JX, joinH]
    rw [if_neg e]
    refine ⟨by simp [addH, begH, put, up2, upd], by simp [addH, begH, put, up2, upd], by omega, ?_⟩
    have := AB_upd (n := n) h4 q
    simpa [addH, begH, put, up2] using this
theorem JY_step {h : Hp} {n nT T : Nat} {k x y b t : Int32} (hJ : JY h n nT) (hT : T ≤ nT) (q : QA k x y b t) : JY (comeY h n nT k x y b t T) (n + 1) (if T < nT then nT else nT + 1) := by
  obtain ⟨h1, h2, h3, h4, h5⟩ := hJ
  by_cases e : T < nT
  · rw [if_pos e]
    simp only [JY, comeY]
    rw [if_pos e]
    refine ⟨by simp [put, up2, upd], by simp [g1Y, put, up2, upd, h2], by omega, ?_, ?_⟩
    · have := AB_upd (n := n) h4 q
      simpa [g1Y, put, up2] using this
    · simpa [g1Y, put, up2] using h5
  · rw [if_neg e]
    simp only [JY, comeY]
    rw [if_neg e]
    refine ⟨by simp [put, up2, upd], by simp [g2Y, put, up2, upd], by omega, ?_, ?_⟩
    · have := AB_upd (n := n) h4 q
      simpa [g1Y, g2Y, put, up2] using this
    · have := Bd_upd (k := nT) (n := 1) (v := 1) h5 (by decide) rfl
      simpa [g1Y, g2Y, put, up2] using this
def stX (k dy : Int32) (v : Int32) (n : Nat) (p : Hp × Nat) : Hp × Nat := (joinH p.1 n p.2 k (v / 32) (v - v / 32 * 32) 0 dy (ntX p.1 n p.2 k (v / 32) (v - v / 32 * 32) 0 dy), if ntX p.1 n p.2 k (v / 32) (v - v / 32 * 32) 0 dy < p.2 then p.2 else p.2 + 1)
def stY (k dy : Int32) (v : Int32) (n : Nat) (p : Hp × Nat) : Hp × Nat := (comeY p.1 n p.2 k (v / 32) (v - v / 32 * 32) 0 dy (ntY p.1 n p.2 k (v / 32) (v - v / 32 * 32) 0 dy), if ntY p.1 n p.2 k (v / 32) (v - v / 32 * 32) 0 dy < p.2 then p.2 else p.2 + 1)
def rdX (f : Nat → Int32) (k dy : Int32) (n0 : Nat) (p : Hp × Nat) : Nat → Hp × Nat
  | 0 => p
  | i + 1 => stX k dy (f i) (n0 + i) (rdX f k dy n0 p i)
def rdY (f : Nat → Int32) (k dy : Int32) (n0 : Nat) (p : Hp × Nat) : Nat → Hp × Nat
  | 0 => p
  | i + 1 => stY k dy (f i) (n0 + i) (rdY f k dy n0 p i)
theorem QA_read {k dy v : Int32} (h1 : inB k 0 4 = true) (h2 : inB dy 0 999 = true) (h3 : inB v 0 1023 = true) : QA k (v / 32) (v - v / 32 * 32) 0 dy := by
  obtain ⟨m, hm, rfl⟩ := inB_ex 1023 h3
  refine ⟨inB_ex 4 h1, ⟨m / 32, by omega, pk_div (d := 32) (by omega) (by decide) (by decide)⟩, ⟨m % 32, by omega, pk_rem (d := 32) (by omega) (by decide) (by decide)⟩, ⟨0, by omega, rfl⟩, inB_ex 999 h2⟩
theorem rdX_J {f : Nat → Int32} {k dy : Int32} {n0 : Nat} {p : Hp × Nat} {n : Nat} (hJ : JX p.1 n0 p.2) (h1 : inB k 0 4 = true) (h2 : inB dy 0 999 = true) (h3 : ∀ i, i < n → inB (f i) 0 1023 = true) : ∀ i, i ≤ n → JX (rdX f k dy n0 p i).1 (n0 + i) (rdX f k dy n0 p i).2
  | 0, _ => hJ
  | i + 1, hi => JX_step (rdX_J hJ h1 h2 h3 i (by omega)) (fst_le _ _) (QA_read h1 h2 (h3 i (by omega)))
theorem rdY_J {f : Nat → Int32} {k dy : Int32} {n0 : Nat} {p : Hp × Nat} {n : Nat} (hJ : JY p.1 n0 p.2) (h1 : inB k 0 4 = true) (h2 : inB dy 0 999 = true) (h3 : ∀ i, i < n → inB (f i) 0 1023 = true) : ∀ i, i ≤ n → JY (rdY f k dy n0 p i).1 (n0 + i) (rdY f k dy n0 p i).2
  | 0, _ => hJ
  | i + 1, hi => JY_step (rdY_J hJ h1 h2 h3 i (by omega)) (fst_le _ _) (QA_read h1 h2 (h3 i (by omega)))
theorem rdX_n {f : Nat → Int32} {k dy : Int32} {n0 j : Nat} {p : Hp × Nat} (hj : 42 < j) : ∀ i, (rdX f k dy n0 p i).1 j = p.1 j
  | 0 => rfl
  | i + 1 => by
    rw [rdX, stX]
    show joinH _ _ _ _ _ _ _ _ _ j = _
    rw [joinH_n (by omega)]
    exact rdX_n hj i
theorem rdY_n {f : Nat → Int32} {k dy : Int32} {n0 j : Nat} {p : Hp × Nat} (hj : 14 < j) : ∀ i, (rdY f k dy n0 p i).1 j = p.1 j
  | 0 => rfl
  | i + 1 => by
    rw [rdY, stY]
    show comeY _ _ _ _ _ _ _ _ _ j = _
    rw [comeY_n (by omega)]
    exact rdY_n hj i
theorem alln_iff {p : Nat → Bool} {n : Nat} : alln p n = true ↔ ∀ i, i < n → p i = true := by
  constructor
  · intro h i hi
    cases e : p i
    · rw [alln_f hi e] at h; cases h
    · rfl
  · exact alln_t
def okRd (dy0 : Nat → Int32) (n : Nat) (s k t : Int32) : Bool := inB s 0 3 && inB k 0 4 && (inB t 0 999 && decide (latF dy0 n ≤ t))

set_option maxHeartbeats 4000000 in
set_option maxRecDepth 100000 in
theorem k_X8_read {d : Nat} {E : Ev} {n nT : Nat} {s k dy : Int32} {h : Hp} (hd : 8 ≤ d) (hJ : JX h n nT) (hn : n ≤ 40) (hsz : ∀ j, j < 4 → ∃ n, n ≤ 12 ∧ h (43 + j) 2 = nI n) : Cl d yX8_read cX8_read 6 (some .int) E (wdX E) [.ref (E.2.2.1 0), .int s, .int k, .int dy] h (Rt (some (.int (if okRd (h 16) n s k dy then (if h (43 + tn s) 1 = 0 then -1000008 else if alln (fun i => inB (h (47 + tn s) i) 0 1023) (tn (h (43 + tn s) 2)) then (if n + tn (h (43 + tn s) 2) ≤ 40 then nI (n + tn (h (43 + tn s) 2)) else -1000002) else -1000001) else -1000001))) (if okRd (h 16) n s k dy then (if h (43 + tn s) 1 = 0 then fiX h else if alln (fun i => inB (h (47 + tn s) i) 0 1023) (tn (h (43 + tn s) 2)) then (if n + tn (h (43 + tn s) 2) ≤ 40 then (rdX (h (47 + tn s)) k dy n (h, nT) (tn (h (43 + tn s) 2))).1 else fiX h) else fiX h) else fiX h)) := by
  refine Cl_of [some (.ref (E.2.2.1 0)), some (.int s), some (.int k), some (.int dy), none, none] (by decide) rfl (Nat.le_of_ble_eq_true rfl) (fun K A X hQ => ?_)
  obtain ⟨hc, hT, hnT, hB⟩ := hJ
  refine P_iload1 X 1 dX8_read_0 rfl ?_
  refine S1r X 4 dX8_read_1 rfl lk_X8_257 ms_X8_isSheet rfl (by omega) (Nat.le_of_ble_eq_true rfl) (k_X8_isSheet (by omega)) ?_
  refine P_bz X 22 7 dX8_read_4 rfl rfl (fun b4 => ?_) (fun b4 => ?_)
  · have hok : ¬ okRd (h 16) n s k dy = true := by simp [okRd, b4]
    rw [if_neg hok, if_neg hok] at hQ
    refine P_aload0 X 23 dX8_read_22 rfl ?_
    refine P_ldc X kc_X8_90 25 dX8_read_23 rfl ?_
    refine V1r X 0 28 dX8_read_25 rfl lk_X8_91 mv_X8_finding rfl (by omega) (Nat.le_of_ble_eq_true rfl) (Nat.le_of_ble_eq_true rfl) rfl rfl (k_X8_finding (by omega)) ?_
    exact P_iret X hQ dX8_read_28 ⟨rfl, rfl⟩
  · refine P_iload2 X 8 dX8_read_7 rfl ?_
    refine S1r X 11 dX8_read_8 rfl lk_X8_83 ms_X8_isKind rfl (by omega) (Nat.le_of_ble_eq_true rfl) (k_X8_isKind (by omega)) ?_
    refine P_bz X 22 14 dX8_read_11 rfl rfl (fun b11 => ?_) (fun b11 => ?_)
    · have hok : ¬ okRd (h 16) n s k dy = true := by simp [okRd, b11]
      rw [if_neg hok, if_neg hok] at hQ
      refine P_aload0 X 23 dX8_read_22 rfl ?_
      refine P_ldc X kc_X8_90 25 dX8_read_23 rfl ?_
      refine V1r X 0 28 dX8_read_25 rfl lk_X8_91 mv_X8_finding rfl (by omega) (Nat.le_of_ble_eq_true rfl) (Nat.le_of_ble_eq_true rfl) rfl rfl (k_X8_finding (by omega)) ?_
      exact P_iret X hQ dX8_read_28 ⟨rfl, rfl⟩
    · refine P_aload0 X 15 dX8_read_14 rfl ?_
      refine P_iload3 X 16 dX8_read_15 rfl ?_
      refine V1r X 0 19 dX8_read_16 rfl lk_X8_87 mv_X8_canComeOn rfl (by omega) (Nat.le_of_ble_eq_true rfl) (Nat.le_of_ble_eq_true rfl) rfl rfl (k_X8_canComeOn (by omega) hc hn) ?_
      refine P_bn X 29 22 dX8_read_19 rfl rfl (fun b19 => ?_) (fun b19 => ?_)
      · obtain ⟨j9, hj9, rfl⟩ := inB_ex 3 b4
        have ej : tn (nI j9) = j9 := nI_clamp (by omega)
        have hok : okRd (h 16) n (nI j9) k dy = true := by rw [okRd, b4, b11, b19]; rfl
        rw [if_pos hok, if_pos hok, ej] at hQ
        obtain ⟨n9, hn9, en9⟩ := hsz j9 hj9
        have et9 : tn (h (43 + j9) 2) = n9 := by rw [en9]; exact nI_clamp (by omega)
        rw [et9] at hQ
        refine P_aload0 X 30 dX8_read_29 rfl ?_
        refine gX_0_10 X 33 dX8_read_30 rfl fl_X8_70 ?_
        refine P_iload1 X 34 dX8_read_33 rfl ?_
        refine qX_11 X 35 dX8_read_34 rfl rfl hj9 ?_
        refine P_astore4 X 37 dX8_read_35 rfl (by decide) rfl ?_
        refine P_aload4 X 39 dX8_read_37 rfl ?_
        refine V0r X (43 + j9) 42 dX8_read_39 rfl lk_X8_266 mv_X4_isMissing rfl (by omega) (Nat.le_of_ble_eq_true rfl) (by show 43 + j9 < 51; omega) (cfX_S E hj9 _) rfl (k_X4_isMissing (by omega) hj9) ?_
        refine P_bz X 53 45 dX8_read_42 rfl rfl (fun b42 => ?_) (fun b42 => ?_)
        · have zb : ¬ h (43 + j9) 1 = 0 := by simpa using b42
          rw [if_neg zb, if_neg zb] at hQ
          refine P_aload4 X 55 dX8_read_53 rfl ?_
          refine V0r X (43 + j9) 58 dX8_read_55 rfl lk_X8_289 mv_X4_holdsPlacesAlone rfl (by omega) (Nat.le_of_ble_eq_true rfl) (by show 43 + j9 < 51; omega) (cfX_S E hj9 _) rfl (k_X4_holdsPlacesAlone (by omega) hj9 en9 hn9) ?_
          refine P_bn X 68 61 dX8_read_58 rfl rfl (fun b58 => ?_) (fun b58 => ?_)
          · rw [if_pos b58, if_pos b58] at hQ
            refine P_aload0 X 69 dX8_read_68 rfl ?_
            refine gX_0_0 X 72 dX8_read_69 rfl fl_X8_10 ?_
            refine gX_1_8 X 75 dX8_read_72 rfl fl_X8_95 ?_
            refine P_top hc ?_
            refine P_aload4 X 77 dX8_read_75 rfl ?_
            refine gX_S_2 X hj9 80 dX8_read_77 rfl fl_X8_263 ?_
            refine P_top en9 ?_
            refine P_iadd X 81 dX8_read_80 rfl ?_
            rw [nI_add]
            refine P_bipush X (40) rfl 83 dX8_read_81 rfl ?_
            refine P_icmp_le X 93 86 dX8_read_83 rfl rfl (fun b83 => ?_) (fun b83 => ?_)
            · have nz : n + n9 ≤ 40 := (nI_leI (b := 40) (by omega) (by decide)).mp b83
              rw [if_pos nz, if_pos nz] at hQ
              have hal := alln_iff.mp b58
              have hd2 : inB dy 0 999 = true := (Bool.and_eq_true_iff.mp b19).1
              have hJJ := rdX_J (f := h (47 + j9)) (k := k) (dy := dy) (p := (h, nT)) (n := n9) ⟨hc, hT, hnT, hB⟩ b11 hd2 hal
              have L : ∀ (m i : Nat) , i + m = n9 → GW K 6 E (wdX E) A 96 [some (.ref (E.2.2.1 0)), some (.int (nI j9)), some (.int k), some (.int dy), some (.ref (E.2.2.1 (43 + j9))), some (.int (nI i))] [] (rdX (h (47 + j9)) k dy n (h, nT) i).1 := by
                intro m
                induction m with
                | zero =>
                  intro i  hm 
                  refine P_iload5 X 98 dX8_read_96 rfl ?_
                  refine P_aload4 X 100 dX8_read_98 rfl ?_
                  refine gX_S_2 X hj9 103 dX8_read_100 rfl fl_X8_263 ?_
                  refine P_icmp_ge X 142 106 dX8_read_103 rfl rfl (fun b103 => ?_) (fun b103 => ?_)
                  · obtain rfl : i = n9 := by omega
                    refine P_aload0 X 143 dX8_read_142 rfl ?_
                    refine gX_0_0 X 146 dX8_read_143 rfl fl_X8_10 ?_
                    refine gX_1_8 X 149 dX8_read_146 rfl fl_X8_95 ?_
                    refine P_top (hJJ _ (by omega)).1 ?_
                    exact P_iret X hQ dX8_read_149 ⟨rfl, rfl⟩
                  · exact (geN (show (rdX (h (47 + j9)) k dy n (h, nT) i).1 (43 + j9) 2 = nI n9 by rw [rdX_n (by omega)]; exact en9) b103 (by omega) (by omega)).elim
                | succ m ih =>
                  intro i  hm 
                  refine P_iload5 X 98 dX8_read_96 rfl ?_
                  refine P_aload4 X 100 dX8_read_98 rfl ?_
                  refine gX_S_2 X hj9 103 dX8_read_100 rfl fl_X8_263 ?_
                  refine P_icmp_ge X 142 106 dX8_read_103 rfl rfl (fun b103 => ?_) (fun b103 => ?_)
                  · exact (geY (show (rdX (h (47 + j9)) k dy n (h, nT) i).1 (43 + j9) 2 = nI n9 by rw [rdX_n (by omega)]; exact en9) b103 (by omega) (by omega)).elim
                  · refine P_aload0 X 107 dX8_read_106 rfl ?_
                    refine P_iload2 X 108 dX8_read_107 rfl ?_
                    refine P_aload4 X 110 dX8_read_108 rfl ?_
                    refine gX_S_0 X hj9 113 dX8_read_110 rfl fl_X8_280 ?_
                    refine P_iload5 X 115 dX8_read_113 rfl ?_
                    refine lX_N X hj9 116 dX8_read_115 rfl rfl (by omega) ?_
                    refine P_top (y := h (47 + j9) i) (by rw [rdX_n (by omega)]) ?_
                    refine P_bipush X (32) rfl 118 dX8_read_116 rfl ?_
                    refine P_idiv X (by decide) 119 dX8_read_118 rfl ?_
                    refine P_aload4 X 121 dX8_read_119 rfl ?_
                    refine gX_S_0 X hj9 124 dX8_read_121 rfl fl_X8_280 ?_
                    refine P_iload5 X 126 dX8_read_124 rfl ?_
                    refine lX_N X hj9 127 dX8_read_126 rfl rfl (by omega) ?_
                    refine P_top (y := h (47 + j9) i) (by rw [rdX_n (by omega)]) ?_
                    refine P_bipush X (32) rfl 129 dX8_read_127 rfl ?_
                    refine P_irem X (by decide) 130 dX8_read_129 rfl ?_
                    refine P_iconst X (0) rfl 131 dX8_read_130 rfl ?_
                    refine P_iload3 X 132 dX8_read_131 rfl ?_
                    refine V5r X 0 135 dX8_read_132 rfl lk_X8_99 mv_X8_join rfl (by omega) (Nat.le_of_ble_eq_true rfl) (Nat.le_of_ble_eq_true rfl) rfl rfl (k_X8_join (n := n + i) (nT := (rdX (h (47 + j9)) k dy n (h, nT) i).2) (by omega) (hJJ i (by omega)).1 (by omega) (hJJ i (by omega)).2.1 (hJJ i (by omega)).2.2.1 (hJJ i (by omega)).2.2.2 (QA_read b11 hd2 (hal i (by omega)))) ?_
                    refine P_pop X rfl 136 dX8_read_135 rfl ?_
                    refine P_iinc5 X (1) rfl 139 dX8_read_136 rfl (by decide) rfl ?_
                    refine P_goto X 96 dX8_read_139 rfl ?_
                    rw [nI_1]
                    exact ih (i + 1) (by omega)
              refine P_iconst X (0) rfl 94 dX8_read_93 rfl ?_
              refine P_istore5 X 96 dX8_read_94 rfl (by decide) rfl ?_
              exact L n9 0 (by omega)
            · have nz : ¬ n + n9 ≤ 40 := fun z => b83 (nI_le (b := 40) z (by decide))
              rw [if_neg nz, if_neg nz] at hQ
              refine P_aload0 X 87 dX8_read_86 rfl ?_
              refine P_ldc X kc_X8_98 89 dX8_read_87 rfl ?_
              refine V1r X 0 92 dX8_read_89 rfl lk_X8_91 mv_X8_finding rfl (by omega) (Nat.le_of_ble_eq_true rfl) (Nat.le_of_ble_eq_true rfl) rfl rfl (k_X8_finding (by omega)) ?_
              exact P_iret X hQ dX8_read_92 ⟨rfl, rfl⟩
          · have nb : ¬ alln (fun i => inB (h (47 + j9) i) 0 1023) n9 = true := by rw [b58]; simp
            rw [if_neg nb, if_neg nb] at hQ
            refine P_aload0 X 62 dX8_read_61 rfl ?_
            refine P_ldc X kc_X8_90 64 dX8_read_62 rfl ?_
            refine V1r X 0 67 dX8_read_64 rfl lk_X8_91 mv_X8_finding rfl (by omega) (Nat.le_of_ble_eq_true rfl) (Nat.le_of_ble_eq_true rfl) rfl rfl (k_X8_finding (by omega)) ?_
            exact P_iret X hQ dX8_read_67 ⟨rfl, rfl⟩
        · have zb : h (43 + j9) 1 = 0 := by simpa using b42
          rw [if_pos zb, if_pos zb] at hQ
          refine P_aload0 X 46 dX8_read_45 rfl ?_
          refine P_ldcw X kc_X8_270 49 dX8_read_46 rfl ?_
          refine V1r X 0 52 dX8_read_49 rfl lk_X8_91 mv_X8_finding rfl (by omega) (Nat.le_of_ble_eq_true rfl) (Nat.le_of_ble_eq_true rfl) rfl rfl (k_X8_finding (by omega)) ?_
          exact P_iret X hQ dX8_read_52 ⟨rfl, rfl⟩
      · have hok : ¬ okRd (h 16) n s k dy = true := by simp [okRd, b19]
        rw [if_neg hok, if_neg hok] at hQ
        refine P_aload0 X 23 dX8_read_22 rfl ?_
        refine P_ldc X kc_X8_90 25 dX8_read_23 rfl ?_
        refine V1r X 0 28 dX8_read_25 rfl lk_X8_91 mv_X8_finding rfl (by omega) (Nat.le_of_ble_eq_true rfl) (Nat.le_of_ble_eq_true rfl) rfl rfl (k_X8_finding (by omega)) ?_
        exact P_iret X hQ dX8_read_28 ⟨rfl, rfl⟩
set_option maxHeartbeats 4000000 in
set_option maxRecDepth 100000 in
theorem k_X9_read {d : Nat} {E : Ev} {n nT : Nat} {s k dy : Int32} {h : Hp} (hd : 4 ≤ d) (hJ : JY h n nT) (hn : n ≤ 40) (hsz : ∀ j, j < 4 → ∃ n, n ≤ 12 ∧ h 24 j = nI n) : Cl d yX9_read cX9_read 6 (some .int) E (wdY E) [.ref (E.2.2.1 0), .int s, .int k, .int dy] h (Rt (some (.int (if okRd (h 5) n s k dy then (if h 23 (tn s) = 0 then -1000008 else if alln (fun i => inB (h 25 (12 * tn s + i)) 0 1023) (tn (h 24 (tn s))) then (if n + tn (h 24 (tn s)) ≤ 40 then nI (n + tn (h 24 (tn s))) else -1000002) else -1000001) else -1000001))) (if okRd (h 5) n s k dy then (if h 23 (tn s) = 0 then fiY h else if alln (fun i => inB (h 25 (12 * tn s + i)) 0 1023) (tn (h 24 (tn s))) then (if n + tn (h 24 (tn s)) ≤ 40 then (rdY (fun i => h 25 (12 * tn s + i)) k dy n (h, nT) (tn (h 24 (tn s)))).1 else fiY h) else fiY h) else fiY h)) := by
  refine Cl_of [some (.ref (E.2.2.1 0)), some (.int s), some (.int k), some (.int dy), none, none] (by decide) rfl (Nat.le_of_ble_eq_true rfl) (fun K A X hQ => ?_)
  obtain ⟨hc, hT, hnT, hB, hop⟩ := hJ
  refine P_iload1 X 1 dX9_read_0 rfl ?_
  refine S1r X 4 dX9_read_1 rfl lk_X9_219 ms_X9_isSheet rfl (by omega) (Nat.le_of_ble_eq_true rfl) (k_X9_isSheet (by omega)) ?_
  refine P_bz X 29 7 dX9_read_4 rfl rfl (fun b4 => ?_) (fun b4 => ?_)
  · have hok : ¬ okRd (h 5) n s k dy = true := by simp [okRd, b4]
    rw [if_neg hok, if_neg hok] at hQ
    refine P_aload0 X 30 dX9_read_29 rfl ?_
    refine P_ldc X kc_X9_144 32 dX9_read_30 rfl ?_
    refine V1r X 0 35 dX9_read_32 rfl lk_X9_145 mv_X9_finding rfl (by omega) (Nat.le_of_ble_eq_true rfl) (Nat.le_of_ble_eq_true rfl) rfl rfl (k_X9_finding (by omega)) ?_
    exact P_iret X hQ dX9_read_35 ⟨rfl, rfl⟩
  · refine P_iload2 X 8 dX9_read_7 rfl ?_
    refine S1r X 11 dX9_read_8 rfl lk_X9_133 ms_X9_isKind rfl (by omega) (Nat.le_of_ble_eq_true rfl) (k_X9_isKind (by omega)) ?_
    refine P_bz X 29 14 dX9_read_11 rfl rfl (fun b11 => ?_) (fun b11 => ?_)
    · have hok : ¬ okRd (h 5) n s k dy = true := by simp [okRd, b11]
      rw [if_neg hok, if_neg hok] at hQ
      refine P_aload0 X 30 dX9_read_29 rfl ?_
      refine P_ldc X kc_X9_144 32 dX9_read_30 rfl ?_
      refine V1r X 0 35 dX9_read_32 rfl lk_X9_145 mv_X9_finding rfl (by omega) (Nat.le_of_ble_eq_true rfl) (Nat.le_of_ble_eq_true rfl) rfl rfl (k_X9_finding (by omega)) ?_
      exact P_iret X hQ dX9_read_35 ⟨rfl, rfl⟩
    · refine P_iload3 X 15 dX9_read_14 rfl ?_
      refine S1r X 18 dX9_read_15 rfl lk_X9_137 ms_X9_isDay rfl (by omega) (Nat.le_of_ble_eq_true rfl) (k_X9_isDay (by omega)) ?_
      refine P_bz X 29 21 dX9_read_18 rfl rfl (fun b18 => ?_) (fun b18 => ?_)
      · have hok : ¬ okRd (h 5) n s k dy = true := by simp [okRd, b18]
        rw [if_neg hok, if_neg hok] at hQ
        refine P_aload0 X 30 dX9_read_29 rfl ?_
        refine P_ldc X kc_X9_144 32 dX9_read_30 rfl ?_
        refine V1r X 0 35 dX9_read_32 rfl lk_X9_145 mv_X9_finding rfl (by omega) (Nat.le_of_ble_eq_true rfl) (Nat.le_of_ble_eq_true rfl) rfl rfl (k_X9_finding (by omega)) ?_
        exact P_iret X hQ dX9_read_35 ⟨rfl, rfl⟩
      · refine P_iload3 X 22 dX9_read_21 rfl ?_
        refine P_aload0 X 23 dX9_read_22 rfl ?_
        refine V0r X 0 26 dX9_read_23 rfl lk_X9_140 mv_X9_latest rfl (by omega) (Nat.le_of_ble_eq_true rfl) (Nat.le_of_ble_eq_true rfl) rfl rfl (k_X9_latest (by omega) hc hn) ?_
        refine P_icmp_ge X 36 29 dX9_read_26 rfl rfl (fun b26 => ?_) (fun b26 => ?_)
        · obtain ⟨j9, hj9, rfl⟩ := inB_ex 3 b4
          have ej : tn (nI j9) = j9 := nI_clamp (by omega)
          have hok : okRd (h 5) n (nI j9) k dy = true := by rw [okRd, b4, b11, b18, decide_eq_true b26]; rfl
          rw [if_pos hok, if_pos hok, ej] at hQ
          obtain ⟨n9, hn9, en9⟩ := hsz j9 hj9
          have et9 : tn (h 24 j9) = n9 := by rw [en9]; exact nI_clamp (by omega)
          rw [et9] at hQ
          refine P_aload0 X 37 dX9_read_36 rfl ?_
          refine gY_0_27 X 40 dX9_read_37 rfl fl_X9_77 ?_
          refine P_iload1 X 41 dX9_read_40 rfl ?_
          refine lY_23 X 42 dX9_read_41 rfl rfl (by omega) ?_
          refine P_if_ne X 52 45 dX9_read_42 rfl rfl (fun b42 => ?_) (fun b42 => ?_)
          · rw [if_neg b42, if_neg b42] at hQ
            have E101 : alln (fun i => inB (h 25 (12 * j9 + i)) 0 1023) n9 = true → GW K 6 E (wdY E) A 101 [some (.ref (E.2.2.1 0)), some (.int (nI j9)), some (.int k), some (.int dy), some (.int (nI n9)), none] [] h := by
              intro hall
              rw [if_pos hall, if_pos hall] at hQ
              have hal := alln_iff.mp hall
              have hJJ := rdY_J (f := (fun i => h 25 (12 * j9 + i))) (k := k) (dy := dy) (p := (h, nT)) (n := n9) ⟨hc, hT, hnT, hB, hop⟩ b11 b18 hal
              refine P_aload0 X 102 dX9_read_101 rfl ?_
              refine gY_0_1 X 105 dX9_read_102 rfl fl_X9_115 ?_
              refine P_top hc ?_
              refine P_aload0 X 106 dX9_read_105 rfl ?_
              refine gY_0_28 X 109 dX9_read_106 rfl fl_X9_80 ?_
              refine P_iload1 X 110 dX9_read_109 rfl ?_
              refine lY_24 X 111 dX9_read_110 rfl rfl (by omega) ?_
              refine P_top en9 ?_
              refine P_iadd X 112 dX9_read_111 rfl ?_
              rw [nI_add]
              refine P_bipush X (40) rfl 114 dX9_read_112 rfl ?_
              refine P_icmp_le X 124 117 dX9_read_114 rfl rfl (fun b114 => ?_) (fun b114 => ?_)
              · have nz : n + n9 ≤ 40 := (nI_leI (b := 40) (by omega) (by decide)).mp b114
                rw [if_pos nz, if_pos nz] at hQ
                have L2 : ∀ (m i : Nat) (o5 : Option Value), i + m = n9 → GW K 6 E (wdY E) A 127 [some (.ref (E.2.2.1 0)), some (.int (nI j9)), some (.int k), some (.int dy), some (.int (nI i)), o5] [] (rdY (fun i => h 25 (12 * j9 + i)) k dy n (h, nT) i).1 := by
                  intro m
                  induction m with
                  | zero =>
                    intro i o5 hm 
                    refine P_iload4 X 129 dX9_read_127 rfl ?_
                    refine P_aload0 X 130 dX9_read_129 rfl ?_
                    refine gY_0_28 X 133 dX9_read_130 rfl fl_X9_80 ?_
                    refine P_iload1 X 134 dX9_read_133 rfl ?_
                    refine lY_24 X 135 dX9_read_134 rfl rfl (by omega) ?_
                    refine P_icmp_ge X 183 138 dX9_read_135 rfl rfl (fun b135 => ?_) (fun b135 => ?_)
                    · obtain rfl : i = n9 := by omega
                      refine P_aload0 X 184 dX9_read_183 rfl ?_
                      refine gY_0_1 X 187 dX9_read_184 rfl fl_X9_115 ?_
                      refine P_top (hJJ _ (by omega)).1 ?_
                      exact P_iret X hQ dX9_read_187 ⟨rfl, rfl⟩
                    · exact (geN (show (rdY (fun i => h 25 (12 * j9 + i)) k dy n (h, nT) i).1 24 j9 = nI n9 by rw [rdY_n (by omega)]; exact en9) b135 (by omega) (by omega)).elim
                  | succ m ih =>
                    intro i o5 hm 
                    refine P_iload4 X 129 dX9_read_127 rfl ?_
                    refine P_aload0 X 130 dX9_read_129 rfl ?_
                    refine gY_0_28 X 133 dX9_read_130 rfl fl_X9_80 ?_
                    refine P_iload1 X 134 dX9_read_133 rfl ?_
                    refine lY_24 X 135 dX9_read_134 rfl rfl (by omega) ?_
                    refine P_icmp_ge X 183 138 dX9_read_135 rfl rfl (fun b135 => ?_) (fun b135 => ?_)
                    · exact (geY (show (rdY (fun i => h 25 (12 * j9 + i)) k dy n (h, nT) i).1 24 j9 = nI n9 by rw [rdY_n (by omega)]; exact en9) b135 (by omega) (by omega)).elim
                    · refine P_aload0 X 139 dX9_read_138 rfl ?_
                      refine P_iload2 X 140 dX9_read_139 rfl ?_
                      refine P_aload0 X 141 dX9_read_140 rfl ?_
                      refine gY_0_29 X 144 dX9_read_141 rfl fl_X9_83 ?_
                      refine P_bipush X (12) rfl 146 dX9_read_144 rfl ?_
                      refine P_iload1 X 147 dX9_read_146 rfl ?_
                      refine P_imul X 148 dX9_read_147 rfl ?_
                      refine P_iload4 X 150 dX9_read_148 rfl ?_
                      refine P_iadd X 151 dX9_read_150 rfl ?_
                      refine lY_25 X 152 dX9_read_151 rfl (ixm 12 j9 i) (by omega) ?_
                      refine P_top (y := h 25 (12 * j9 + i)) (by rw [rdY_n (by omega)]) ?_
                      refine P_bipush X (32) rfl 154 dX9_read_152 rfl ?_
                      refine P_idiv X (by decide) 155 dX9_read_154 rfl ?_
                      refine P_aload0 X 156 dX9_read_155 rfl ?_
                      refine gY_0_29 X 159 dX9_read_156 rfl fl_X9_83 ?_
                      refine P_bipush X (12) rfl 161 dX9_read_159 rfl ?_
                      refine P_iload1 X 162 dX9_read_161 rfl ?_
                      refine P_imul X 163 dX9_read_162 rfl ?_
                      refine P_iload4 X 165 dX9_read_163 rfl ?_
                      refine P_iadd X 166 dX9_read_165 rfl ?_
                      refine lY_25 X 167 dX9_read_166 rfl (ixm 12 j9 i) (by omega) ?_
                      refine P_top (y := h 25 (12 * j9 + i)) (by rw [rdY_n (by omega)]) ?_
                      refine P_bipush X (32) rfl 169 dX9_read_167 rfl ?_
                      refine P_irem X (by decide) 170 dX9_read_169 rfl ?_
                      refine P_iconst X (0) rfl 171 dX9_read_170 rfl ?_
                      refine P_iload3 X 172 dX9_read_171 rfl ?_
                      refine V5r X 0 175 dX9_read_172 rfl lk_X9_149 mv_X9_comes rfl (by omega) (Nat.le_of_ble_eq_true rfl) (Nat.le_of_ble_eq_true rfl) rfl rfl (k_X9_comes (n := n + i) (nT := (rdY (fun i => h 25 (12 * j9 + i)) k dy n (h, nT) i).2) (by omega) (hJJ i (by omega)).1 (by omega) (hJJ i (by omega)).2.1 (hJJ i (by omega)).2.2.1 (hJJ i (by omega)).2.2.2.1 (hJJ i (by omega)).2.2.2.2 (QA_read b11 b18 (hal i (by omega)))) ?_
                      refine P_istore5 X 177 dX9_read_175 rfl (by decide) rfl ?_
                      refine P_iinc4 X (1) rfl 180 dX9_read_177 rfl (by decide) rfl ?_
                      refine P_goto X 127 dX9_read_180 rfl ?_
                      rw [nI_1]
                      exact ih (i + 1) _ (by omega)
                refine P_iconst X (0) rfl 125 dX9_read_124 rfl ?_
                refine P_istore4 X 127 dX9_read_125 rfl (by decide) rfl ?_
                exact L2 n9 0 _ (by omega)
              · have nz : ¬ n + n9 ≤ 40 := fun z => b114 (nI_le (b := 40) z (by decide))
                rw [if_neg nz, if_neg nz] at hQ
                refine P_aload0 X 118 dX9_read_117 rfl ?_
                refine P_ldc X kc_X9_148 120 dX9_read_118 rfl ?_
                refine V1r X 0 123 dX9_read_120 rfl lk_X9_145 mv_X9_finding rfl (by omega) (Nat.le_of_ble_eq_true rfl) (Nat.le_of_ble_eq_true rfl) rfl rfl (k_X9_finding (by omega)) ?_
                exact P_iret X hQ dX9_read_123 ⟨rfl, rfl⟩
            have L1 : ∀ (m i : Nat) , i + m = n9 → (∀ z9, z9 < i → (fun i => inB (h 25 (12 * j9 + i)) 0 1023) z9 = true) → GW K 6 E (wdY E) A 55 [some (.ref (E.2.2.1 0)), some (.int (nI j9)), some (.int k), some (.int dy), some (.int (nI i)), none] [] h := by
              intro m
              induction m with
              | zero =>
                intro i  hm hI0
                refine P_iload4 X 57 dX9_read_55 rfl ?_
                refine P_aload0 X 58 dX9_read_57 rfl ?_
                refine gY_0_28 X 61 dX9_read_58 rfl fl_X9_80 ?_
                refine P_iload1 X 62 dX9_read_61 rfl ?_
                refine lY_24 X 63 dX9_read_62 rfl rfl (by omega) ?_
                refine P_icmp_ge X 101 66 dX9_read_63 rfl rfl (fun b63 => ?_) (fun b63 => ?_)
                · obtain rfl : i = n9 := by omega
                  exact E101 (alln_t hI0)
                · exact (geN en9 b63 (by omega) (by omega)).elim
              | succ m ih =>
                intro i  hm hI0
                refine P_iload4 X 57 dX9_read_55 rfl ?_
                refine P_aload0 X 58 dX9_read_57 rfl ?_
                refine gY_0_28 X 61 dX9_read_58 rfl fl_X9_80 ?_
                refine P_iload1 X 62 dX9_read_61 rfl ?_
                refine lY_24 X 63 dX9_read_62 rfl rfl (by omega) ?_
                refine P_icmp_ge X 101 66 dX9_read_63 rfl rfl (fun b63 => ?_) (fun b63 => ?_)
                · exact (geY en9 b63 (by omega) (by omega)).elim
                · refine P_aload0 X 67 dX9_read_66 rfl ?_
                  refine gY_0_29 X 70 dX9_read_67 rfl fl_X9_83 ?_
                  refine P_bipush X (12) rfl 72 dX9_read_70 rfl ?_
                  refine P_iload1 X 73 dX9_read_72 rfl ?_
                  refine P_imul X 74 dX9_read_73 rfl ?_
                  refine P_iload4 X 76 dX9_read_74 rfl ?_
                  refine P_iadd X 77 dX9_read_76 rfl ?_
                  refine lY_25 X 78 dX9_read_77 rfl (ixm 12 j9 i) (by omega) ?_
                  refine P_iconst X (0) rfl 79 dX9_read_78 rfl ?_
                  refine P_sipush X (1023) rfl 82 dX9_read_79 rfl ?_
                  refine S3r X 85 dX9_read_82 rfl lk_X9_111 ms_X9_in rfl (by omega) (Nat.le_of_ble_eq_true rfl) (k_X9_in (by omega)) ?_
                  refine P_bn X 95 88 dX9_read_85 rfl rfl (fun b85 => ?_) (fun b85 => ?_)
                  · refine P_iinc4 X (1) rfl 98 dX9_read_95 rfl (by decide) rfl ?_
                    refine P_goto X 55 dX9_read_98 rfl ?_
                    rw [nI_1]
                    exact ih (i + 1) (by omega) (lt_s hI0 b85)
                  · refine P_aload0 X 89 dX9_read_88 rfl ?_
                    refine P_ldc X kc_X9_144 91 dX9_read_89 rfl ?_
                    refine V1r X 0 94 dX9_read_91 rfl lk_X9_145 mv_X9_finding rfl (by omega) (Nat.le_of_ble_eq_true rfl) (Nat.le_of_ble_eq_true rfl) rfl rfl (k_X9_finding (by omega)) ?_
                    have nb : ¬ alln (fun i => inB (h 25 (12 * j9 + i)) 0 1023) n9 = true := by rw [alln_f (i := i) (by omega) b85]; simp
                    rw [if_neg nb, if_neg nb] at hQ
                    exact P_iret X hQ dX9_read_94 ⟨rfl, rfl⟩
            refine P_iconst X (0) rfl 53 dX9_read_52 rfl ?_
            refine P_istore4 X 55 dX9_read_53 rfl (by decide) rfl ?_
            exact L1 n9 0 (by omega) (fun z9 hz9 => absurd hz9 (Nat.not_lt_zero _))
          · rw [if_pos b42, if_pos b42] at hQ
            refine P_aload0 X 46 dX9_read_45 rfl ?_
            refine P_ldc X kc_X9_223 48 dX9_read_46 rfl ?_
            refine V1r X 0 51 dX9_read_48 rfl lk_X9_145 mv_X9_finding rfl (by omega) (Nat.le_of_ble_eq_true rfl) (Nat.le_of_ble_eq_true rfl) rfl rfl (k_X9_finding (by omega)) ?_
            exact P_iret X hQ dX9_read_51 ⟨rfl, rfl⟩
        · have hok : ¬ okRd (h 5) n s k dy = true := by
            simp only [okRd, Bool.and_eq_true, decide_eq_true_eq]
            exact fun z => b26 z.2.2
          rw [if_neg hok, if_neg hok] at hQ
          refine P_aload0 X 30 dX9_read_29 rfl ?_
          refine P_ldc X kc_X9_144 32 dX9_read_30 rfl ?_
          refine V1r X 0 35 dX9_read_32 rfl lk_X9_145 mv_X9_finding rfl (by omega) (Nat.le_of_ble_eq_true rfl) (Nat.le_of_ble_eq_true rfl) rfl rfl (k_X9_finding (by omega)) ?_
          exact P_iret X hQ dX9_read_35 ⟨rfl, rfl⟩
