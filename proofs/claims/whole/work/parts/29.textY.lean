def ftN (f : Nat → Int32) (l : Nat) : Nat := fst (fun p => !ftB f p) l
def okTy (f : Nat → Int32) (l : Nat) : Bool := decide (ftN f l = l) && decide (l % 5 = 0)
theorem ftB_60 (f : Nat → Int32) : ftB f 60 = false := by simp [ftB, ftB2]
theorem fst_cap {p : Nat → Bool} {c : Nat} (hc : p c = true) : ∀ n, c < n → fst p n ≤ c
  | 0, h => absurd h (Nat.not_lt_zero _)
  | n + 1, h => by
    rw [fst]
    by_cases e : c < n
    · have := fst_cap hc n e
      rw [if_pos (by omega)]
      exact this
    · have e2 : c = n := by omega
      subst e2
      have := fst_le p c
      split
      · exact this
      · first | exact Nat.le_refl _ | (rw [if_pos hc]; exact Nat.le_refl _)
theorem ftN_60 {f : Nat → Int32} {l : Nat} (h : ftN f l = l) : l ≤ 60 := by
  apply Classical.byContradiction
  intro z
  have h1 := fst_cap (p := fun p => !ftB f p) (c := 60) (by simp [ftB_60]) l (by omega)
  have e : fst (fun p => !ftB f p) l = l := h
  omega
def txH (h : Hp) (rr : Nat) : Nat → Hp
  | 0 => put h 0 19 (nI rr)
  | r + 1 => put (put (put (put (txH h rr r) 16 (4 * r) (if h 15 (5 * r) = 97 then 1 else 0)) 16 (4 * r + 1) (h 15 (5 * r + 1) - 48)) 16 (4 * r + 2) (h 15 (5 * r + 2) - 48)) 16 (4 * r + 3) (h 15 (5 * r + 3) - 48)
theorem txH_15 {h : Hp} {rr : Nat} : ∀ r, txH h rr r 15 = h 15
  | 0 => by rw [txH, put_n (by decide)]
  | r + 1 => by rw [txH, put_n (by decide), put_n (by decide), put_n (by decide), put_n (by decide)]; exact txH_15 r
theorem txH_19 {h : Hp} {rr : Nat} : ∀ r, txH h rr r 0 19 = nI rr
  | 0 => by rw [txH, put_s]
  | r + 1 => by rw [txH, put_n (by decide), put_n (by decide), put_n (by decide), put_n (by decide)]; exact txH_19 r

set_option maxHeartbeats 4000000 in
set_option maxRecDepth 100000 in
theorem k_X9_text {d : Nat} {E : Ev} {l : Nat} {h : Hp} (hd : 2 ≤ d) (hl : h 0 17 = nI l) (hl80 : l ≤ 80) : Cl d yX9_text cX9_text 5 (some .int) E (wdY E) [.ref (E.2.2.1 0)] h (Rt (some (.int (if okTy (h 15) l then nI (l / 5) else -1000100 - nI (ftN (h 15) l)))) (if okTy (h 15) l then txH (put h 0 17 0) (l / 5) (l / 5) else fiY (put h 0 17 0))) := by
  refine Cl_of [some (.ref (E.2.2.1 0)), none, none, none, none] (by decide) rfl (Nat.le_of_ble_eq_true rfl) (fun K A X hQ => ?_)
  have E26 : ∀ q9 : Nat, q9 = ftN (h 15) l → GW K 5 E (wdY E) A 26 [some (.ref (E.2.2.1 0)), some (.int (nI l)), some (.int (nI q9)), none, none] [] h := by
    intro q9 hq9
    have hle : ftN (h 15) l ≤ l := fst_le _ _
    refine P_aload0 X 27 dX9_text_26 rfl ?_
    refine P_iconst X (0) rfl 28 dX9_text_27 rfl ?_
    refine pY_0_17 X 31 dX9_text_28 rfl fw_X9_170 ?_
    refine P_iload2 X 32 dX9_text_31 rfl ?_
    refine P_iload1 X 33 dX9_text_32 rfl ?_
    refine P_icmp_lt X 42 36 dX9_text_33 rfl rfl (fun b33 => ?_) (fun b33 => ?_)
    · have hno : ¬ okTy (h 15) l = true := by
        simp only [okTy, Bool.and_eq_true, decide_eq_true_eq, ← hq9]
        intro z
        exact absurd ((nI_ltI (by omega) (by omega)).mp b33) (by omega)
      refine P_aload0 X 43 dX9_text_42 rfl ?_
      refine P_ldc X kc_X9_178 45 dX9_text_43 rfl ?_
      refine P_iload2 X 46 dX9_text_45 rfl ?_
      refine P_isub X 47 dX9_text_46 rfl ?_
      refine V1r X 0 50 dX9_text_47 rfl lk_X9_145 mv_X9_finding rfl (by omega) (Nat.le_of_ble_eq_true rfl) (Nat.le_of_ble_eq_true rfl) rfl rfl (k_X9_finding (by omega)) ?_
      exact P_iret X hQ dX9_text_50 ⟨by rw [if_neg hno, ← hq9], by rw [if_neg hno]; rfl⟩
    · refine P_iload1 X 37 dX9_text_36 rfl ?_
      refine P_iconst X (5) rfl 38 dX9_text_37 rfl ?_
      refine P_irem X (by decide) 39 dX9_text_38 rfl ?_
      refine P_top (rem5 (by omega)) ?_
      refine P_if_eq X 51 42 dX9_text_39 rfl rfl (fun b39 => ?_) (fun b39 => ?_)
      · have hge : ¬ q9 < l := fun z => b33 (nI_lt z (by omega))
        have hw : ftN (h 15) l = l := by omega
        have hm5 : l % 5 = 0 := by
          rcases Nat.eq_zero_or_pos (l % 5) with z | z
          · exact z
          · exact absurd b39 (nI_ne0 z (by omega))
        have hok : okTy (h 15) l = true := by simp [okTy, hw, hm5]
        have h60 := ftN_60 hw
        rw [if_pos hok, if_pos hok] at hQ
        obtain ⟨rr, hrr⟩ : ∃ z9, l / 5 = z9 := ⟨_, rfl⟩
        have hr12 : rr ≤ 12 := by omega
        rw [hrr] at hQ
        have e15 : put h 0 17 0 15 = h 15 := put_n (by decide)
        generalize hH1 : put h 0 17 0 = h1 at e15 hQ ⊢
        have L : ∀ (m i : Nat) (o4 : Option Value), i + m = rr → GW K 5 E (wdY E) A 60 [some (.ref (E.2.2.1 0)), some (.int (nI l)), some (.int (nI q9)), some (.int (nI i)), o4] [] (txH h1 rr i) := by
          intro m
          induction m with
          | zero =>
            intro i o4 hm 
            refine P_iload3 X 61 dX9_text_60 rfl ?_
            refine P_aload0 X 62 dX9_text_61 rfl ?_
            refine gY_0_19 X 65 dX9_text_62 rfl fl_X9_179 ?_
            refine P_icmp_ge X 140 68 dX9_text_65 rfl rfl (fun b65 => ?_) (fun b65 => ?_)
            · obtain rfl : i = rr := by omega
              refine P_aload0 X 141 dX9_text_140 rfl ?_
              refine gY_0_19 X 144 dX9_text_141 rfl fl_X9_179 ?_
              refine P_top (txH_19 _) ?_
              exact P_iret X hQ dX9_text_144 ⟨rfl, rfl⟩
            · exact (geN (txH_19 (h := h1) (rr := rr) i) b65 (by omega) (by omega)).elim
          | succ m ih =>
            intro i o4 hm 
            refine P_iload3 X 61 dX9_text_60 rfl ?_
            refine P_aload0 X 62 dX9_text_61 rfl ?_
            refine gY_0_19 X 65 dX9_text_62 rfl fl_X9_179 ?_
            refine P_icmp_ge X 140 68 dX9_text_65 rfl rfl (fun b65 => ?_) (fun b65 => ?_)
            · exact (geY (txH_19 (h := h1) (rr := rr) i) b65 (by omega) (by omega)).elim
            · refine P_aload0 X 69 dX9_text_68 rfl ?_
              refine gY_0_20 X 72 dX9_text_69 rfl fl_X9_56 ?_
              refine P_iconst X (4) rfl 73 dX9_text_72 rfl ?_
              refine P_iload3 X 74 dX9_text_73 rfl ?_
              refine P_imul X 75 dX9_text_74 rfl ?_
              refine P_aload0 X 76 dX9_text_75 rfl ?_
              refine gY_0_18 X 79 dX9_text_76 rfl fl_X9_53 ?_
              refine P_iconst X (5) rfl 80 dX9_text_79 rfl ?_
              refine P_iload3 X 81 dX9_text_80 rfl ?_
              refine P_imul X 82 dX9_text_81 rfl ?_
              refine lY_15 X 83 dX9_text_82 rfl (ixm0 5 i) (by omega) ?_
              refine P_top (y := h1 15 (5 * i)) (by rw [txH_15]) ?_
              refine P_bipush X (97) rfl 85 dX9_text_83 rfl ?_
              refine P_icmp_ne X 92 88 dX9_text_85 rfl rfl (fun b85 => ?_) (fun b85 => ?_)
              · refine P_iconst X (0) rfl 93 dX9_text_92 rfl ?_
                refine sY_16 X 94 dX9_text_93 rfl (ixm0 4 i) (by omega) ?_
                refine P_iconst X (1) rfl 95 dX9_text_94 rfl ?_
                refine P_istore4 X 97 dX9_text_95 rfl (by decide) rfl ?_
                refine P_iload4 X 99 dX9_text_97 rfl ?_
                refine P_iconst X (4) rfl 100 dX9_text_99 rfl ?_
                refine P_icmp_ge X 134 103 dX9_text_100 rfl rfl (fun b100 => absurd b100 (by decide)) (fun b100 => ?_)
                refine P_aload0 X 104 dX9_text_103 rfl ?_
                refine gY_0_20 X 107 dX9_text_104 rfl fl_X9_56 ?_
                refine P_iconst X (4) rfl 108 dX9_text_107 rfl ?_
                refine P_iload3 X 109 dX9_text_108 rfl ?_
                refine P_imul X 110 dX9_text_109 rfl ?_
                refine P_iload4 X 112 dX9_text_110 rfl ?_
                refine P_iadd X 113 dX9_text_112 rfl ?_
                refine P_aload0 X 114 dX9_text_113 rfl ?_
                refine gY_0_18 X 117 dX9_text_114 rfl fl_X9_53 ?_
                refine P_iconst X (5) rfl 118 dX9_text_117 rfl ?_
                refine P_iload3 X 119 dX9_text_118 rfl ?_
                refine P_imul X 120 dX9_text_119 rfl ?_
                refine P_iload4 X 122 dX9_text_120 rfl ?_
                refine P_iadd X 123 dX9_text_122 rfl ?_
                refine lY_15 X 124 dX9_text_123 rfl (ixm 5 i 1) (by omega) ?_
                refine P_top (y := h1 15 (5 * i + 1)) (by rw [put_n (by decide), txH_15]) ?_
                refine P_bipush X (48) rfl 126 dX9_text_124 rfl ?_
                refine P_isub X 127 dX9_text_126 rfl ?_
                refine sY_16 X 128 dX9_text_127 rfl (ixm 4 i 1) (by omega) ?_
                refine P_iinc4 X (1) rfl 131 dX9_text_128 rfl (by decide) rfl ?_
                rw [show ((1 : Int32) + (1)) = 2 from rfl]
                refine P_goto X 97 dX9_text_131 rfl ?_
                refine P_iload4 X 99 dX9_text_97 rfl ?_
                refine P_iconst X (4) rfl 100 dX9_text_99 rfl ?_
                refine P_icmp_ge X 134 103 dX9_text_100 rfl rfl (fun b100 => absurd b100 (by decide)) (fun b100 => ?_)
                refine P_aload0 X 104 dX9_text_103 rfl ?_
                refine gY_0_20 X 107 dX9_text_104 rfl fl_X9_56 ?_
                refine P_iconst X (4) rfl 108 dX9_text_107 rfl ?_
                refine P_iload3 X 109 dX9_text_108 rfl ?_
                refine P_imul X 110 dX9_text_109 rfl ?_
                refine P_iload4 X 112 dX9_text_110 rfl ?_
                refine P_iadd X 113 dX9_text_112 rfl ?_
                refine P_aload0 X 114 dX9_text_113 rfl ?_
                refine gY_0_18 X 117 dX9_text_114 rfl fl_X9_53 ?_
                refine P_iconst X (5) rfl 118 dX9_text_117 rfl ?_
                refine P_iload3 X 119 dX9_text_118 rfl ?_
                refine P_imul X 120 dX9_text_119 rfl ?_
                refine P_iload4 X 122 dX9_text_120 rfl ?_
                refine P_iadd X 123 dX9_text_122 rfl ?_
                refine lY_15 X 124 dX9_text_123 rfl (ixm 5 i 2) (by omega) ?_
                refine P_top (y := h1 15 (5 * i + 2)) (by rw [put_n (by decide), put_n (by decide), txH_15]) ?_
                refine P_bipush X (48) rfl 126 dX9_text_124 rfl ?_
                refine P_isub X 127 dX9_text_126 rfl ?_
                refine sY_16 X 128 dX9_text_127 rfl (ixm 4 i 2) (by omega) ?_
                refine P_iinc4 X (1) rfl 131 dX9_text_128 rfl (by decide) rfl ?_
                rw [show ((2 : Int32) + (1)) = 3 from rfl]
                refine P_goto X 97 dX9_text_131 rfl ?_
                refine P_iload4 X 99 dX9_text_97 rfl ?_
                refine P_iconst X (4) rfl 100 dX9_text_99 rfl ?_
                refine P_icmp_ge X 134 103 dX9_text_100 rfl rfl (fun b100 => absurd b100 (by decide)) (fun b100 => ?_)
                refine P_aload0 X 104 dX9_text_103 rfl ?_
                refine gY_0_20 X 107 dX9_text_104 rfl fl_X9_56 ?_
                refine P_iconst X (4) rfl 108 dX9_text_107 rfl ?_
                refine P_iload3 X 109 dX9_text_108 rfl ?_
                refine P_imul X 110 dX9_text_109 rfl ?_
                refine P_iload4 X 112 dX9_text_110 rfl ?_
                refine P_iadd X 113 dX9_text_112 rfl ?_
                refine P_aload0 X 114 dX9_text_113 rfl ?_
                refine gY_0_18 X 117 dX9_text_114 rfl fl_X9_53 ?_
                refine P_iconst X (5) rfl 118 dX9_text_117 rfl ?_
                refine P_iload3 X 119 dX9_text_118 rfl ?_
                refine P_imul X 120 dX9_text_119 rfl ?_
                refine P_iload4 X 122 dX9_text_120 rfl ?_
                refine P_iadd X 123 dX9_text_122 rfl ?_
                refine lY_15 X 124 dX9_text_123 rfl (ixm 5 i 3) (by omega) ?_
                refine P_top (y := h1 15 (5 * i + 3)) (by rw [put_n (by decide), put_n (by decide), put_n (by decide), txH_15]) ?_
                refine P_bipush X (48) rfl 126 dX9_text_124 rfl ?_
                refine P_isub X 127 dX9_text_126 rfl ?_
                refine sY_16 X 128 dX9_text_127 rfl (ixm 4 i 3) (by omega) ?_
                refine P_iinc4 X (1) rfl 131 dX9_text_128 rfl (by decide) rfl ?_
                rw [show ((3 : Int32) + (1)) = 4 from rfl]
                refine P_goto X 97 dX9_text_131 rfl ?_
                refine P_iload4 X 99 dX9_text_97 rfl ?_
                refine P_iconst X (4) rfl 100 dX9_text_99 rfl ?_
                refine P_icmp_ge X 134 103 dX9_text_100 rfl rfl (fun b100 => ?_) (fun b100 => absurd b100 (by decide))
                refine P_iinc3 X (1) rfl 137 dX9_text_134 rfl (by decide) rfl ?_
                refine P_goto X 60 dX9_text_137 rfl ?_
                have z := ih (i + 1) (some (.int 4)) (by omega)
                rw [txH, if_neg b85] at z
                rw [nI_1]
                exact z
              · refine P_iconst X (1) rfl 89 dX9_text_88 rfl ?_
                refine P_goto X 93 dX9_text_89 rfl ?_
                refine sY_16 X 94 dX9_text_93 rfl (ixm0 4 i) (by omega) ?_
                refine P_iconst X (1) rfl 95 dX9_text_94 rfl ?_
                refine P_istore4 X 97 dX9_text_95 rfl (by decide) rfl ?_
                refine P_iload4 X 99 dX9_text_97 rfl ?_
                refine P_iconst X (4) rfl 100 dX9_text_99 rfl ?_
                refine P_icmp_ge X 134 103 dX9_text_100 rfl rfl (fun b100 => absurd b100 (by decide)) (fun b100 => ?_)
                refine P_aload0 X 104 dX9_text_103 rfl ?_
                refine gY_0_20 X 107 dX9_text_104 rfl fl_X9_56 ?_
                refine P_iconst X (4) rfl 108 dX9_text_107 rfl ?_
                refine P_iload3 X 109 dX9_text_108 rfl ?_
                refine P_imul X 110 dX9_text_109 rfl ?_
                refine P_iload4 X 112 dX9_text_110 rfl ?_
                refine P_iadd X 113 dX9_text_112 rfl ?_
                refine P_aload0 X 114 dX9_text_113 rfl ?_
                refine gY_0_18 X 117 dX9_text_114 rfl fl_X9_53 ?_
                refine P_iconst X (5) rfl 118 dX9_text_117 rfl ?_
                refine P_iload3 X 119 dX9_text_118 rfl ?_
                refine P_imul X 120 dX9_text_119 rfl ?_
                refine P_iload4 X 122 dX9_text_120 rfl ?_
                refine P_iadd X 123 dX9_text_122 rfl ?_
                refine lY_15 X 124 dX9_text_123 rfl (ixm 5 i 1) (by omega) ?_
                refine P_top (y := h1 15 (5 * i + 1)) (by rw [put_n (by decide), txH_15]) ?_
                refine P_bipush X (48) rfl 126 dX9_text_124 rfl ?_
                refine P_isub X 127 dX9_text_126 rfl ?_
                refine sY_16 X 128 dX9_text_127 rfl (ixm 4 i 1) (by omega) ?_
                refine P_iinc4 X (1) rfl 131 dX9_text_128 rfl (by decide) rfl ?_
                rw [show ((1 : Int32) + (1)) = 2 from rfl]
                refine P_goto X 97 dX9_text_131 rfl ?_
                refine P_iload4 X 99 dX9_text_97 rfl ?_
                refine P_iconst X (4) rfl 100 dX9_text_99 rfl ?_
                refine P_icmp_ge X 134 103 dX9_text_100 rfl rfl (fun b100 => absurd b100 (by decide)) (fun b100 => ?_)
                refine P_aload0 X 104 dX9_text_103 rfl ?_
                refine gY_0_20 X 107 dX9_text_104 rfl fl_X9_56 ?_
                refine P_iconst X (4) rfl 108 dX9_text_107 rfl ?_
                refine P_iload3 X 109 dX9_text_108 rfl ?_
                refine P_imul X 110 dX9_text_109 rfl ?_
                refine P_iload4 X 112 dX9_text_110 rfl ?_
                refine P_iadd X 113 dX9_text_112 rfl ?_
                refine P_aload0 X 114 dX9_text_113 rfl ?_
                refine gY_0_18 X 117 dX9_text_114 rfl fl_X9_53 ?_
                refine P_iconst X (5) rfl 118 dX9_text_117 rfl ?_
                refine P_iload3 X 119 dX9_text_118 rfl ?_
                refine P_imul X 120 dX9_text_119 rfl ?_
                refine P_iload4 X 122 dX9_text_120 rfl ?_
                refine P_iadd X 123 dX9_text_122 rfl ?_
                refine lY_15 X 124 dX9_text_123 rfl (ixm 5 i 2) (by omega) ?_
                refine P_top (y := h1 15 (5 * i + 2)) (by rw [put_n (by decide), put_n (by decide), txH_15]) ?_
                refine P_bipush X (48) rfl 126 dX9_text_124 rfl ?_
                refine P_isub X 127 dX9_text_126 rfl ?_
                refine sY_16 X 128 dX9_text_127 rfl (ixm 4 i 2) (by omega) ?_
                refine P_iinc4 X (1) rfl 131 dX9_text_128 rfl (by decide) rfl ?_
                rw [show ((2 : Int32) + (1)) = 3 from rfl]
                refine P_goto X 97 dX9_text_131 rfl ?_
                refine P_iload4 X 99 dX9_text_97 rfl ?_
                refine P_iconst X (4) rfl 100 dX9_text_99 rfl ?_
                refine P_icmp_ge X 134 103 dX9_text_100 rfl rfl (fun b100 => absurd b100 (by decide)) (fun b100 => ?_)
                refine P_aload0 X 104 dX9_text_103 rfl ?_
                refine gY_0_20 X 107 dX9_text_104 rfl fl_X9_56 ?_
                refine P_iconst X (4) rfl 108 dX9_text_107 rfl ?_
                refine P_iload3 X 109 dX9_text_108 rfl ?_
                refine P_imul X 110 dX9_text_109 rfl ?_
                refine P_iload4 X 112 dX9_text_110 rfl ?_
                refine P_iadd X 113 dX9_text_112 rfl ?_
                refine P_aload0 X 114 dX9_text_113 rfl ?_
                refine gY_0_18 X 117 dX9_text_114 rfl fl_X9_53 ?_
                refine P_iconst X (5) rfl 118 dX9_text_117 rfl ?_
                refine P_iload3 X 119 dX9_text_118 rfl ?_
                refine P_imul X 120 dX9_text_119 rfl ?_
                refine P_iload4 X 122 dX9_text_120 rfl ?_
                refine P_iadd X 123 dX9_text_122 rfl ?_
                refine lY_15 X 124 dX9_text_123 rfl (ixm 5 i 3) (by omega) ?_
                refine P_top (y := h1 15 (5 * i + 3)) (by rw [put_n (by decide), put_n (by decide), put_n (by decide), txH_15]) ?_
                refine P_bipush X (48) rfl 126 dX9_text_124 rfl ?_
                refine P_isub X 127 dX9_text_126 rfl ?_
                refine sY_16 X 128 dX9_text_127 rfl (ixm 4 i 3) (by omega) ?_
                refine P_iinc4 X (1) rfl 131 dX9_text_128 rfl (by decide) rfl ?_
                rw [show ((3 : Int32) + (1)) = 4 from rfl]
                refine P_goto X 97 dX9_text_131 rfl ?_
                refine P_iload4 X 99 dX9_text_97 rfl ?_
                refine P_iconst X (4) rfl 100 dX9_text_99 rfl ?_
                refine P_icmp_ge X 134 103 dX9_text_100 rfl rfl (fun b100 => ?_) (fun b100 => absurd b100 (by decide))
                refine P_iinc3 X (1) rfl 137 dX9_text_134 rfl (by decide) rfl ?_
                refine P_goto X 60 dX9_text_137 rfl ?_
                have z := ih (i + 1) (some (.int 4)) (by omega)
                rw [txH, if_pos b85] at z
                rw [nI_1]
                exact z
        refine P_aload0 X 52 dX9_text_51 rfl ?_
        refine P_iload1 X 53 dX9_text_52 rfl ?_
        refine P_iconst X (5) rfl 54 dX9_text_53 rfl ?_
        refine P_idiv X (by decide) 55 dX9_text_54 rfl ?_
        refine P_top (y := nI rr) (by rw [div5 (by omega), hrr]) ?_
        refine pY_0_19 X 58 dX9_text_55 rfl fw_X9_179 ?_
        refine P_iconst X (0) rfl 59 dX9_text_58 rfl ?_
        refine P_istore3 X 60 dX9_text_59 rfl (by decide) rfl ?_
        exact L rr 0 none (by omega)
      · have hno : ¬ okTy (h 15) l = true := by
          simp only [okTy, Bool.and_eq_true, decide_eq_true_eq, ← hq9]
          intro z
          exact b39 (by rw [z.2]; rfl)
        refine P_aload0 X 43 dX9_text_42 rfl ?_
        refine P_ldc X kc_X9_178 45 dX9_text_43 rfl ?_
        refine P_iload2 X 46 dX9_text_45 rfl ?_
        refine P_isub X 47 dX9_text_46 rfl ?_
        refine V1r X 0 50 dX9_text_47 rfl lk_X9_145 mv_X9_finding rfl (by omega) (Nat.le_of_ble_eq_true rfl) (Nat.le_of_ble_eq_true rfl) rfl rfl (k_X9_finding (by omega)) ?_
        exact P_iret X hQ dX9_text_50 ⟨by rw [if_neg hno, ← hq9], by rw [if_neg hno]; rfl⟩
  have L : ∀ (m i : Nat), i + m = l → (∀ j, j < i → (fun p => !ftB (h 15) p) j = false) → GW K 5 E (wdY E) A 7 [some (.ref (E.2.2.1 0)), some (.int (nI l)), some (.int (nI i)), none, none] [] h := by
    intro m
    induction m with
    | zero =>
      intro i hm hI0
      refine P_iload2 X 8 dX9_text_7 rfl ?_
      refine P_iload1 X 9 dX9_text_8 rfl ?_
      refine P_icmp_ge X 26 12 dX9_text_9 rfl rfl (fun b9 => ?_) (fun b9 => ?_)
      · have e9 : l = i := by omega
        exact E26 i (by rw [e9]; exact (fst_none (fun j hj => hI0 j (by omega))).symm)
      · exact (geN (rfl : nI l = nI l) b9 (by omega) (by omega)).elim
    | succ m ih =>
      intro i hm hI0
      refine P_iload2 X 8 dX9_text_7 rfl ?_
      refine P_iload1 X 9 dX9_text_8 rfl ?_
      refine P_icmp_ge X 26 12 dX9_text_9 rfl rfl (fun b9 => ?_) (fun b9 => ?_)
      · exact (geY (rfl : nI l = nI l) b9 (by omega) (by omega)).elim
      · refine P_aload0 X 13 dX9_text_12 rfl ?_
        refine P_iload2 X 14 dX9_text_13 rfl ?_
        refine V1r X 0 17 dX9_text_14 rfl lk_X9_175 mv_X9_fits rfl (by omega) (Nat.le_of_ble_eq_true rfl) (Nat.le_of_ble_eq_true rfl) rfl rfl (k_X9_fits (by omega) (by omega)) ?_
        refine P_bz X 26 20 dX9_text_17 rfl rfl (fun b17 => ?_) (fun b17 => ?_)
        · exact E26 i (fst_at hI0 (by simp [b17]) (by omega)).symm
        · refine P_iinc2 X (1) rfl 23 dX9_text_20 rfl (by decide) rfl ?_
          refine P_goto X 7 dX9_text_23 rfl ?_
          rw [nI_1]
          exact ih (i + 1) (by omega) (lt_s hI0 (by simp [b17]))
  refine P_aload0 X 1 dX9_text_0 rfl ?_
  refine gY_0_17 X 4 dX9_text_1 rfl fl_X9_170 ?_
  refine P_top hl ?_
  refine P_istore1 X 5 dX9_text_4 rfl (by decide) rfl ?_
  refine P_iconst X (0) rfl 6 dX9_text_5 rfl ?_
  refine P_istore2 X 7 dX9_text_6 rfl (by decide) rfl ?_
  exact L l 0 (by omega) (fun j hj => absurd hj (Nat.not_lt_zero _))
