theorem RelN_join {h g : Hp} {nA nT nL nR T : Nat} {k x y b t : Int32} (hR : RelN h g nA nT nL nR) (hn : nA < 40) (q : QA k x y b t) (hT : T ≤ nT) : RelN (joinH h nA nT k x y b t T) (comeY g nA nT k x y b t T) (nA + 1) (if T < nT then nT else nT + 1) nL nR := by
  obtain ⟨hA, hT0, hD, hM, hS, hf⟩ := hR
  obtain ⟨a1, a2, a3, a4, a5, a6, a7, a8, a9, a10, a11, aB⟩ := hA
  obtain ⟨t1, t2, t3, t4, t5, t6, t7, t8, tB1, tB2, tB3, t9, t10⟩ := hT0
  obtain ⟨⟨x1, x2, x3, x4, x5, x6⟩, x7, x8, x9, x10, x11⟩ := join_at (h := h) (n := nA) (nT := nT) (T := T) (k := k) (x := x) (y := y) (b := b) (t := t)
  obtain ⟨⟨y1, y2, y3, y4, y5, y6⟩, y7, y8, y9, y10, y11, y12⟩ := come_at (h := g) (n := nA) (nT := nT) (T := T) (k := k) (x := x) (y := y) (b := b) (t := t)
  have x22 : joinH h nA nT k x y b t T 22 = h 22 := joinH_n (by omega)
  have x24 : joinH h nA nT k x y b t T 24 = h 24 := joinH_n (by omega)
  have x25 : joinH h nA nT k x y b t T 25 = h 25 := joinH_n (by omega)
  have x18 : joinH h nA nT k x y b t T 18 = h 18 := joinH_n (by omega)
  have x19 : joinH h nA nT k x y b t T 19 = h 19 := joinH_n (by omega)
  have y13 : comeY g nA nT k x y b t T 13 = g 13 := comeY_n (by omega)
  have z7 : comeY g nA nT k x y b t T 7 = g 7 := comeY_n (by omega)
  have z8 : comeY g nA nT k x y b t T 8 = g 8 := comeY_n (by omega)
  refine ⟨?_, ?_, ?_, ?_, ?_, ?_⟩
  · refine ⟨x7, come_1, by omega, ?_, ?_, ?_, ?_, ?_, ?_, ?_, ?_, ?_⟩
    · rw [y1, x1, a4]
    · rw [y2, x2, a5]
    · rw [y3, x3, a6]
    · rw [y4, x4, a7]
    · rw [y5, x5, a8]
    · rw [y6, x6, a9]
    · rw [z7, x18, a10]
    · rw [z8, x19, a11]
    · rw [x1, x2, x3, x4, x5, x18, x19]
      exact AB_upd aB q
  · by_cases e : T < nT
    · rw [if_pos e] at *
      refine ⟨x8.trans t1, y7.trans t2, by omega, ?_, ?_, ?_, ?_, ?_, ?_, ?_, ?_, ?_, ?_⟩
      · rw [y8, x9, t4]
      · rw [y9, x10, t5]
      · rw [y10, x22, t6]
      · rw [y11, x11, t7]
      · rw [y13, x24, t8]
      · rw [x9]; exact tB1
      · rw [x10]; exact tB2
      · rw [x24]; exact tB3
      · rw [x22]; exact t9
      · rw [x10, x25, y12]; exact t10
    · rw [if_neg e] at *
      refine ⟨x8, y7, by omega, ?_, ?_, ?_, ?_, ?_, ?_, ?_, ?_, ?_, ?_⟩
      · rw [y8, x9, t4]
      · rw [y9, x10, t5]
      · rw [y10, x22, t6]; exact upd_id (t9 nT (Nat.le_refl _))
      · rw [y11, x11, t7]
      · rw [y13, x24, t8]
      · rw [x9]; exact Bd_upd tB1 hn rfl
      · rw [x10]; exact Bd_upd (n := 1) tB2 (by decide) rfl
      · rw [x24]; exact tB3
      · rw [x22]; exact fun u hu => t9 u (by omega)
      · rw [x10, x25, y12]
        intro u hu
        by_cases eu : u = nT
        · subst eu
          intro z
          simp [upd] at z
        · intro z
          simp only [upd, if_neg eu] at z ⊢
          exact t10 u (by omega) z
  · refine RD_cong hD ?_ ?_ ?_ ?_ (fun j9 h1 h2 => joinH_n (by omega)) (fun j9 h1 h2 => comeY_n (by omega))
    · rw [joinH_n (by omega)]
    · rw [joinH_n (by omega)]
    · rw [come_0 (by decide) (by decide)]
    · rw [come_0 (by decide) (by decide)]
  · exact RM_cong hM (fun j9 h1 => joinH_n (by omega)) (fun j9 h1 h2 => comeY_n (by omega))
  · exact RS_cong hS (fun j9 h1 => joinH_n (by omega)) (fun j9 h1 h2 => comeY_n (by omega))
  · rw [joinH_n (by omega), come_0 (by decide) (by decide)]; exact hf
theorem nt_eq {h g : Hp} {nA nT nL nR : Nat} (hR : RelN h g nA nT nL nR) (k x y b t : Int32) : ntY g nA nT k x y b t = ntX h nA nT k x y b t := by
  obtain ⟨hA, hT0, -⟩ := hR
  obtain ⟨a1, a2, a3, a4, a5, a6, a7, a8, a9, a10, a11, aB⟩ := hA
  obtain ⟨t1, t2, t3, t4, t5, t6, t7, t8, -⟩ := hT0
  simp only [ntX, ntY, a4, a5, a6, a7, a8, a9, a10, a11, t5]
theorem RelN_rd {fX fY : Nat → Int32} {k dy : Int32} {h g : Hp} {nA nT nL nR n : Nat} (hR : RelN h g nA nT nL nR) (h1 : inB k 0 4 = true) (h2 : inB dy 0 999 = true) (h3 : ∀ i, i < n → inB (fX i) 0 1023 = true) (hf : ∀ i, i < n → fX i = fY i) (hn : nA + n ≤ 40) : ∀ i, i ≤ n → (rdY fY k dy nA (g, nT) i).2 = (rdX fX k dy nA (h, nT) i).2 ∧ RelN (rdX fX k dy nA (h, nT) i).1 (rdY fY k dy nA (g, nT) i).1 (nA + i) (rdX fX k dy nA (h, nT) i).2 nL nR
  | 0, _ => ⟨rfl, hR⟩
  | i + 1, hi => by
    obtain ⟨e, hN⟩ := RelN_rd hR h1 h2 h3 hf hn i (by omega)
    rw [rdX, rdY, stX, stY, e, ← hf i (by omega)]
    have en := nt_eq hN k (fX i / 32) (fX i - fX i / 32 * 32) 0 dy
    refine ⟨?_, ?_⟩
    · show (if ntY _ _ _ _ _ _ _ _ < _ then _ else _) = (if ntX _ _ _ _ _ _ _ _ < _ then _ else _)
      rw [en]
    · show RelN (joinH _ _ _ _ _ _ _ _ _) (comeY _ _ _ _ _ _ _ _ _) (nA + i + 1) _ nL nR
      rw [en]
      exact RelN_join hN (by omega) (QA_read h1 h2 (h3 i (by omega))) (fst_le _ _)
theorem RelN_Rel {h g : Hp} {nA nT nL nR : Nat} (hR : RelN h g nA nT nL nR) : Rel h g := ⟨nA, nT, nL, nR, hR⟩
set_option maxHeartbeats 4000000 in
theorem op_ask {E E2 : Ev} {h g : Hp} (hR : Rel h g) (k : Int32) (x : Int32) (y : Int32) (b : Int32) (t : Int32) : OP yX8_ask cX8_ask 7 yX9_ask cX9_ask 6 E E2 [.int k, .int x, .int y, .int b, .int t] h g := by
  have hR0 := hR
  obtain ⟨nA, nT, nL, nR, hA, hT, hD, hM, hS, hf⟩ := hR
  have hA0 := hA
  have hT0 := hT
  have hD0 := hD
  have hM0 := hM
  obtain ⟨a1, a2, a3, a4, a5, a6, a7, a8, a9, a10, a11, aB⟩ := hA
  obtain ⟨t1, t2, t3, t4, t5, t6, t7, t8, tB1, tB2, tB3, t9, t10⟩ := hT
  obtain ⟨d1, d2, d3, d4, d5, d6, d7, d8, dV, d9⟩ := hD
  obtain ⟨m1, m2, m3, m4, m5, m6, mE⟩ := hM
  have e01 : g 0 1 = h 1 8 := a2.trans a1.symm
  have e010 : g 0 10 = h 2 6 := t2.trans t1.symm
  have e017 : g 0 17 = h 4 1 := d2.trans d1.symm
  have e019 : g 0 19 = h 5 4 := d7.trans d6.symm
  have e00 : g 0 0 = h 0 11 := hf.symm
  have aBY : AB (g 1) (g 2) (g 3) (g 4) (g 5) (g 7) (g 8) := by rw [a4, a5, a6, a7, a8, a10, a11]; exact aB
  have t40 : nT ≤ 40 := Nat.le_trans t3 a3
  have tB1Y : Bd (g 9) 40 := by rw [t4]; exact tB1
  have tB2Y : Bd (g 10) 2 := by rw [t5]; exact tB2
  have tB3Y : Bd (g 13) 6 := by rw [t8]; exact tB3
  have dY : TVY (g 16) nR := by
    intro r hr
    obtain ⟨q1, q2, q3, q4, q5⟩ := d9 r hr
    rw [← q1, ← q2, show d1Y (g 16) r = h 30 r from q3.symm, show d2Y (g 16) r = h 31 r from q4.symm, show d3Y (g 16) r = h 32 r from q5.symm]
    exact dV r hr
  have hN : RelN h g nA nT nL nR := ⟨hA0, hT0, hD0, hM0, hS, hf⟩
  have kX := k_X8_ask (E := E) (k := k) (x := x) (y := y) (db := b) (dy := t) (d := 40) (by decide) a1 a3 t1 t3 aB
  have kY := k_X9_ask (E := E2) (k := k) (x := x) (y := y) (db := b) (dy := t) (d := 40) (by decide) a2 a3 t2 t3 aBY tB2Y
  have en := nt_eq hN k x y b t
  simp only [ntX, ntY] at en
  rw [en, a8] at kY
  by_cases z1 : okAsk (h 16) nA k x y b t = true
  · rw [if_pos z1, if_pos z1] at kX kY
    by_cases z2 : nA < 40
    · rw [if_pos z2, if_pos z2] at kX kY
      rw [okAsk, Bool.and_eq_true, Bool.and_eq_true, Bool.and_eq_true, Bool.and_eq_true, Bool.and_eq_true] at z1
      exact OP_of kX kY rfl (RelN_Rel (RelN_join hN z2 (QA_of z1.1.1.1 z1.1.1.2.1 z1.1.1.2.2 z1.1.2 z1.2.1) (fst_le _ _)))
    · rw [if_neg z2, if_neg z2] at kX kY
      exact OP_of kX kY rfl (Rel_fi hR0)
  · rw [if_neg z1, if_neg z1] at kX kY
    exact OP_of kX kY rfl (Rel_fi hR0)
set_option maxHeartbeats 4000000 in
theorem op_read {E E2 : Ev} {h g : Hp} (hR : Rel h g) (s : Int32) (k : Int32) (dy : Int32) : OP yX8_read cX8_read 6 yX9_read cX9_read 6 E E2 [.int s, .int k, .int dy] h g := by
  have hR0 := hR
  obtain ⟨nA, nT, nL, nR, hA, hT, hD, hM, hS, hf⟩ := hR
  have hA0 := hA
  have hT0 := hT
  have hD0 := hD
  have hM0 := hM
  obtain ⟨a1, a2, a3, a4, a5, a6, a7, a8, a9, a10, a11, aB⟩ := hA
  obtain ⟨t1, t2, t3, t4, t5, t6, t7, t8, tB1, tB2, tB3, t9, t10⟩ := hT
  obtain ⟨d1, d2, d3, d4, d5, d6, d7, d8, dV, d9⟩ := hD
  obtain ⟨m1, m2, m3, m4, m5, m6, mE⟩ := hM
  have e01 : g 0 1 = h 1 8 := a2.trans a1.symm
  have e010 : g 0 10 = h 2 6 := t2.trans t1.symm
  have e017 : g 0 17 = h 4 1 := d2.trans d1.symm
  have e019 : g 0 19 = h 5 4 := d7.trans d6.symm
  have e00 : g 0 0 = h 0 11 := hf.symm
  have aBY : AB (g 1) (g 2) (g 3) (g 4) (g 5) (g 7) (g 8) := by rw [a4, a5, a6, a7, a8, a10, a11]; exact aB
  have t40 : nT ≤ 40 := Nat.le_trans t3 a3
  have tB1Y : Bd (g 9) 40 := by rw [t4]; exact tB1
  have tB2Y : Bd (g 10) 2 := by rw [t5]; exact tB2
  have tB3Y : Bd (g 13) 6 := by rw [t8]; exact tB3
  have dY : TVY (g 16) nR := by
    intro r hr
    obtain ⟨q1, q2, q3, q4, q5⟩ := d9 r hr
    rw [← q1, ← q2, show d1Y (g 16) r = h 30 r from q3.symm, show d2Y (g 16) r = h 31 r from q4.symm, show d3Y (g 16) r = h 32 r from q5.symm]
    exact dV r hr
  have szX : ∀ j, j < 4 → ∃ n, n ≤ 12 ∧ h (43 + j) 2 = nI n := fun j hj => (hS j hj).2.2.1
  have szY : ∀ j, j < 4 → ∃ n, n ≤ 12 ∧ g 24 j = nI n := fun j hj => by rw [← (hS j hj).2.1]; exact szX j hj
  have hN : RelN h g nA nT nL nR := ⟨hA0, hT0, hD0, hM0, hS, hf⟩
  have kX := k_X8_read (E := E) (s := s) (k := k) (dy := dy) (d := 40) (by decide) ⟨a1, t1, t3, aB⟩ a3 szX
  have kY := k_X9_read (E := E2) (s := s) (k := k) (dy := dy) (d := 40) (by decide) ⟨a2, t2, t3, aBY, tB2Y⟩ a3 szY
  rw [a8] at kY
  by_cases z1 : okRd (h 16) nA s k dy = true
  · rw [if_pos z1, if_pos z1] at kX kY
    rw [okRd, Bool.and_eq_true, Bool.and_eq_true, Bool.and_eq_true] at z1
    obtain ⟨j9, hj9, rfl⟩ := inB_ex 3 z1.1.1
    obtain ⟨q1, q2, q3, q4⟩ := hS j9 hj9
    rw [show tn (nI j9) = j9 from nI_clamp (by omega)] at kX kY
    obtain ⟨n9, hn9, en9⟩ := q3
    rw [← q1, ← q2] at kY
    rw [en9, show tn (nI n9) = n9 from nI_clamp (by omega)] at kX kY
    by_cases z2 : h (43 + j9) 1 = 0
    · rw [if_pos z2, if_pos z2] at kX kY
      exact OP_of kX kY rfl (Rel_fi hR0)
    · rw [if_neg z2, if_neg z2] at kX kY
      have ea : alln (fun i => inB (g 25 (12 * j9 + i)) 0 1023) n9 = alln (fun i => inB (h (47 + j9) i) 0 1023) n9 := alln_cong (fun i hi => by rw [q4 z2 i (by omega)])
      rw [ea] at kY
      by_cases z3 : alln (fun i => inB (h (47 + j9) i) 0 1023) n9 = true
      · rw [if_pos z3, if_pos z3] at kX kY
        by_cases z4 : nA + n9 ≤ 40
        · rw [if_pos z4, if_pos z4] at kX kY
          exact OP_of kX kY rfl (RelN_Rel (RelN_rd hN z1.1.2 z1.2.1 (alln_iff.mp z3) (fun i hi => q4 z2 i (by omega)) z4 n9 (Nat.le_refl _)).2)
        · rw [if_neg z4, if_neg z4] at kX kY
          exact OP_of kX kY rfl (Rel_fi hR0)
      · rw [if_neg z3, if_neg z3] at kX kY
        exact OP_of kX kY rfl (Rel_fi hR0)
  · rw [if_neg z1, if_neg z1] at kX kY
    exact OP_of kX kY rfl (Rel_fi hR0)
