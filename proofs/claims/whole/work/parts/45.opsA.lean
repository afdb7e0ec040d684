theorem RA_cong {h h2 g g2 : Hp} {n : Nat} (hA : RA h g n) (e1 : h2 1 8 = h 1 8) (f1 : g2 0 1 = g 0 1) (ek : ∀ k, 12 ≤ k → k ≤ 19 → h2 k = h k) (fk : ∀ k, 1 ≤ k → k ≤ 8 → g2 k = g k) : RA h2 g2 n := by
  simp only [RA] at hA ⊢
  rw [e1, f1, fk 1 (by omega) (by omega), fk 2 (by omega) (by omega), fk 3 (by omega) (by omega), fk 4 (by omega) (by omega), fk 5 (by omega) (by omega), fk 6 (by omega) (by omega), fk 7 (by omega) (by omega), fk 8 (by omega) (by omega), ek 12 (by omega) (by omega), ek 13 (by omega) (by omega), ek 14 (by omega) (by omega), ek 15 (by omega) (by omega), ek 16 (by omega) (by omega), ek 17 (by omega) (by omega), ek 18 (by omega) (by omega), ek 19 (by omega) (by omega)]
  exact hA
theorem RT_cong {h h2 g g2 : Hp} {n t : Nat} (hT : RT h g n t) (e2 : h2 2 6 = h 2 6) (f2 : g2 0 10 = g 0 10) (ek : ∀ k, 20 ≤ k → k ≤ 25 → h2 k = h k) (fk : ∀ k, 9 ≤ k → k ≤ 14 → g2 k = g k) : RT h2 g2 n t := by
  simp only [RT] at hT ⊢
  rw [e2, f2, fk 9 (by omega) (by omega), fk 10 (by omega) (by omega), fk 11 (by omega) (by omega), fk 12 (by omega) (by omega), fk 13 (by omega) (by omega), fk 14 (by omega) (by omega), ek 20 (by omega) (by omega), ek 21 (by omega) (by omega), ek 22 (by omega) (by omega), ek 23 (by omega) (by omega), ek 24 (by omega) (by omega), ek 25 (by omega) (by omega)]
  exact hT
theorem RD_cong {h h2 g g2 : Hp} {n t : Nat} (hD : RD h g n t) (e4 : h2 4 1 = h 4 1) (e5 : h2 5 4 = h 5 4) (f3 : g2 0 17 = g 0 17) (f4 : g2 0 19 = g 0 19) (ek : ∀ k, 28 ≤ k → k ≤ 32 → h2 k = h k) (fk : ∀ k, 15 ≤ k → k ≤ 16 → g2 k = g k) : RD h2 g2 n t := by
  have e29 := ek 29 (by omega) (by omega)
  have egv : gvX h2 = gvX h := by funext r; show decide (h2 29 r = 97) = _; rw [e29]
  have esd : sdX h2 = sdX h := by funext r; show decide (h2 29 r = 115) = _; rw [e29]
  simp only [RD, TVX] at hD ⊢
  rw [egv, esd, e4, f3, e5, f4, fk 15 (by omega) (by omega), fk 16 (by omega) (by omega), ek 28 (by omega) (by omega), ek 30 (by omega) (by omega), ek 31 (by omega) (by omega), ek 32 (by omega) (by omega)]
  exact hD
theorem RM_cong {h h2 g g2 : Hp} (hM : RM h g) (ek : ∀ k, (k = 7 ∨ k = 9 ∨ k = 10 ∨ k = 40 ∨ k = 41 ∨ k = 42) → h2 k = h k) (fk : ∀ k, 17 ≤ k → k ≤ 22 → g2 k = g k) : RM h2 g2 := by
  simp only [RM] at hM ⊢
  rw [fk 17 (by omega) (by omega), fk 18 (by omega) (by omega), fk 19 (by omega) (by omega), fk 20 (by omega) (by omega), fk 21 (by omega) (by omega), fk 22 (by omega) (by omega), ek 7 (by omega), ek 40 (by omega), ek 41 (by omega), ek 42 (by omega), ek 9 (by omega), ek 10 (by omega)]
  exact hM
theorem RS_cong {h h2 g g2 : Hp} (hS : RS h g) (ek : ∀ k, 43 ≤ k → h2 k = h k) (fk : ∀ k, 23 ≤ k → k ≤ 25 → g2 k = g k) : RS h2 g2 := by
  intro j hj
  have := hS j hj
  rw [fk 23 (by omega) (by omega), fk 24 (by omega) (by omega), fk 25 (by omega) (by omega), ek (43 + j) (by omega), ek (47 + j) (by omega)]
  exact this

set_option maxHeartbeats 4000000 in
theorem op_meet {E E2 : Ev} {h g : Hp} (hR : Rel h g) (a : Int32) (b : Int32) : OP yX8_meet cX8_meet 3 yX9_meet cX9_meet 3 E E2 [.int a, .int b] h g := by
  have hR0 := hR
  obtain ⟨nA, nT, nL, nR, hA, hT, hD, hM, hS, hf⟩ := hR
  have hA0 := hA
  have hT0 := hT
  have hD0 := hD
  have hM0 := hM
  obtain ⟨a1, a2, a3, a4, a5, a6, a7, a8, a9, a10, a11, aB⟩ := hA
  obtain ⟨t1, t2, t3, t4, t5, t6, t7, t8, tB1, tB2, tB3, t9, t10⟩ := hT
  obtain ⟨d1, d2, d3, d4, d5, d6, d7, d8, dV, d9⟩ := hD
  obtain ⟨m1, m2, m3, m4, m5, m6, mE⟩ := hM
  have e01 : g 0 1 = h 1 8 := a2.trans a1.symm
  have e010 : g 0 10 = h 2 6 := t2.trans t1.symm
  have e017 : g 0 17 = h 4 1 := d2.trans d1.symm
  have e019 : g 0 19 = h 5 4 := d7.trans d6.symm
  have e00 : g 0 0 = h 0 11 := hf.symm
  have aBY : AB (g 1) (g 2) (g 3) (g 4) (g 5) (g 7) (g 8) := by rw [a4, a5, a6, a7, a8, a10, a11]; exact aB
  have t40 : nT ≤ 40 := Nat.le_trans t3 a3
  have tB1Y : Bd (g 9) 40 := by rw [t4]; exact tB1
  have tB2Y : Bd (g 10) 2 := by rw [t5]; exact tB2
  have tB3Y : Bd (g 13) 6 := by rw [t8]; exact tB3
  have dY : TVY (g 16) nR := by
    intro r hr
    obtain ⟨q1, q2, q3, q4, q5⟩ := d9 r hr
    rw [← q1, ← q2, show d1Y (g 16) r = h 30 r from q3.symm, show d2Y (g 16) r = h 31 r from q4.symm, show d3Y (g 16) r = h 32 r from q5.symm]
    exact dV r hr
  exact OP_of (k_X8_meet (by decide) a1 a3 aB) (k_X9_meet (by decide) a2 a3 aBY) (by simp only [e01, e010, e017, e019, e00, a4, a5, a6, a7, a8, a9, a10, a11, t4, t5, t6, t7, t8, d4, m1, m2, m3, m4, m5, m6]) (Rel_if (by simp only [e01, e010, e017, e019, e00, a4, a5, a6, a7, a8, a9, a10, a11, t4, t5, t6, t7, t8, d4, m1, m2, m3, m4, m5, m6]) (fun _ => hR0) (fun _ => Rel_fi hR0))
set_option maxHeartbeats 4000000 in
theorem op_of {E E2 : Ev} {h g : Hp} (hR : Rel h g) (a : Int32) (w : Int32) : OP yX8_of cX8_of 3 yX9_of cX9_of 3 E E2 [.int a, .int w] h g := by
  have hR0 := hR
  obtain ⟨nA, nT, nL, nR, hA, hT, hD, hM, hS, hf⟩ := hR
  have hA0 := hA
  have hT0 := hT
  have hD0 := hD
  have hM0 := hM
  obtain ⟨a1, a2, a3, a4, a5, a6, a7, a8, a9, a10, a11, aB⟩ := hA
  obtain ⟨t1, t2, t3, t4, t5, t6, t7, t8, tB1, tB2, tB3, t9, t10⟩ := hT
  obtain ⟨d1, d2, d3, d4, d5, d6, d7, d8, dV, d9⟩ := hD
  obtain ⟨m1, m2, m3, m4, m5, m6, mE⟩ := hM
  have e01 : g 0 1 = h 1 8 := a2.trans a1.symm
  have e010 : g 0 10 = h 2 6 := t2.trans t1.symm
  have e017 : g 0 17 = h 4 1 := d2.trans d1.symm
  have e019 : g 0 19 = h 5 4 := d7.trans d6.symm
  have e00 : g 0 0 = h 0 11 := hf.symm
  have aBY : AB (g 1) (g 2) (g 3) (g 4) (g 5) (g 7) (g 8) := by rw [a4, a5, a6, a7, a8, a10, a11]; exact aB
  have t40 : nT ≤ 40 := Nat.le_trans t3 a3
  have tB1Y : Bd (g 9) 40 := by rw [t4]; exact tB1
  have tB2Y : Bd (g 10) 2 := by rw [t5]; exact tB2
  have tB3Y : Bd (g 13) 6 := by rw [t8]; exact tB3
  have dY : TVY (g 16) nR := by
    intro r hr
    obtain ⟨q1, q2, q3, q4, q5⟩ := d9 r hr
    rw [← q1, ← q2, show d1Y (g 16) r = h 30 r from q3.symm, show d2Y (g 16) r = h 31 r from q4.symm, show d3Y (g 16) r = h 32 r from q5.symm]
    exact dV r hr
  exact OP_of (k_X8_of (by decide) a1 a3) (k_X9_of (by decide) a2 a3) (by simp only [e01, e010, e017, e019, e00, a4, a5, a6, a7, a8, a9, a10, a11, t4, t5, t6, t7, t8, d4, m1, m2, m3, m4, m5, m6]) (Rel_if (by simp only [e01, e010, e017, e019, e00, a4, a5, a6, a7, a8, a9, a10, a11, t4, t5, t6, t7, t8, d4, m1, m2, m3, m4, m5, m6]) (fun _ => hR0) (fun _ => Rel_fi hR0))
set_option maxHeartbeats 4000000 in
theorem op_as {E E2 : Ev} {h g : Hp} (hR : Rel h g) (a : Int32) (k : Int32) : OP yX8_as cX8_as 3 yX9_as cX9_as 3 E E2 [.int a, .int k] h g := by
  have hR0 := hR
  obtain ⟨nA, nT, nL, nR, hA, hT, hD, hM, hS, hf⟩ := hR
  have hA0 := hA
  have hT0 := hT
  have hD0 := hD
  have hM0 := hM
  obtain ⟨a1, a2, a3, a4, a5, a6, a7, a8, a9, a10, a11, aB⟩ := hA
  obtain ⟨t1, t2, t3, t4, t5, t6, t7, t8, tB1, tB2, tB3, t9, t10⟩ := hT
  obtain ⟨d1, d2, d3, d4, d5, d6, d7, d8, dV, d9⟩ := hD
  obtain ⟨m1, m2, m3, m4, m5, m6, mE⟩ := hM
  have e01 : g 0 1 = h 1 8 := a2.trans a1.symm
  have e010 : g 0 10 = h 2 6 := t2.trans t1.symm
  have e017 : g 0 17 = h 4 1 := d2.trans d1.symm
  have e019 : g 0 19 = h 5 4 := d7.trans d6.symm
  have e00 : g 0 0 = h 0 11 := hf.symm
  have aBY : AB (g 1) (g 2) (g 3) (g 4) (g 5) (g 7) (g 8) := by rw [a4, a5, a6, a7, a8, a10, a11]; exact aB
  have t40 : nT ≤ 40 := Nat.le_trans t3 a3
  have tB1Y : Bd (g 9) 40 := by rw [t4]; exact tB1
  have tB2Y : Bd (g 10) 2 := by rw [t5]; exact tB2
  have tB3Y : Bd (g 13) 6 := by rw [t8]; exact tB3
  have dY : TVY (g 16) nR := by
    intro r hr
    obtain ⟨q1, q2, q3, q4, q5⟩ := d9 r hr
    rw [← q1, ← q2, show d1Y (g 16) r = h 30 r from q3.symm, show d2Y (g 16) r = h 31 r from q4.symm, show d3Y (g 16) r = h 32 r from q5.symm]
    exact dV r hr
  have k5Y : Bd (g 1) 5 := by rw [a4]; exact aB.1
  exact OP_of (k_X8_as (by decide) a1 a3 aB.1) (k_X9_as (by decide) a2 a3 k5Y) (by simp only [e01, e010, e017, e019, e00, a4, a5, a6, a7, a8, a9, a10, a11, t4, t5, t6, t7, t8, d4, m1, m2, m3, m4, m5, m6]) (Rel_if (by simp only [e01, e010, e017, e019, e00, a4, a5, a6, a7, a8, a9, a10, a11, t4, t5, t6, t7, t8, d4, m1, m2, m3, m4, m5, m6]) (fun _ => Rel_if (by simp only [e01, e010, e017, e019, e00, a4, a5, a6, a7, a8, a9, a10, a11, t4, t5, t6, t7, t8, d4, m1, m2, m3, m4, m5, m6]) (fun _ => hR0) (fun _ => Rel_fi hR0)) (fun _ => Rel_fi hR0))
set_option maxHeartbeats 4000000 in
theorem op_thing {E E2 : Ev} {h g : Hp} (hR : Rel h g) (t : Int32) (w : Int32) : OP yX8_thing cX8_thing 3 yX9_thing cX9_thing 3 E E2 [.int t, .int w] h g := by
  have hR0 := hR
  obtain ⟨nA, nT, nL, nR, hA, hT, hD, hM, hS, hf⟩ := hR
  have hA0 := hA
  have hT0 := hT
  have hD0 := hD
  have hM0 := hM
  obtain ⟨a1, a2, a3, a4, a5, a6, a7, a8, a9, a10, a11, aB⟩ := hA
  obtain ⟨t1, t2, t3, t4, t5, t6, t7, t8, tB1, tB2, tB3, t9, t10⟩ := hT
  obtain ⟨d1, d2, d3, d4, d5, d6, d7, d8, dV, d9⟩ := hD
  obtain ⟨m1, m2, m3, m4, m5, m6, mE⟩ := hM
  have e01 : g 0 1 = h 1 8 := a2.trans a1.symm
  have e010 : g 0 10 = h 2 6 := t2.trans t1.symm
  have e017 : g 0 17 = h 4 1 := d2.trans d1.symm
  have e019 : g 0 19 = h 5 4 := d7.trans d6.symm
  have e00 : g 0 0 = h 0 11 := hf.symm
  have aBY : AB (g 1) (g 2) (g 3) (g 4) (g 5) (g 7) (g 8) := by rw [a4, a5, a6, a7, a8, a10, a11]; exact aB
  have t40 : nT ≤ 40 := Nat.le_trans t3 a3
  have tB1Y : Bd (g 9) 40 := by rw [t4]; exact tB1
  have tB2Y : Bd (g 10) 2 := by rw [t5]; exact tB2
  have tB3Y : Bd (g 13) 6 := by rw [t8]; exact tB3
  have dY : TVY (g 16) nR := by
    intro r hr
    obtain ⟨q1, q2, q3, q4, q5⟩ := d9 r hr
    rw [← q1, ← q2, show d1Y (g 16) r = h 30 r from q3.symm, show d2Y (g 16) r = h 31 r from q4.symm, show d3Y (g 16) r = h 32 r from q5.symm]
    exact dV r hr
  refine OP_of (k_X8_thing (by decide) a1 a3 t1 t40 tB1) (k_X9_thing (by decide) a2 a3 t2 t40 tB1Y) ?_ (Rel_if (by simp only [e01, e010, e017, e019, e00, a4, a5, a6, a7, a8, a9, a10, a11, t4, t5, t6, t7, t8, d4, m1, m2, m3, m4, m5, m6]) (fun _ => hR0) (fun _ => Rel_fi hR0))
  simp only [e01, e010, e017, e019, e00, a4, a5, a6, a7, a8, a9, a10, a11, t4, t5, t6, t7, t8, d4, m1, m2, m3, m4, m5, m6]
  by_cases z : okTh (h 2 6) t w = true
  · rw [if_pos z, if_pos z]
    rw [okTh, Bool.and_eq_true] at z
    obtain ⟨t9', ht9, rfl⟩ := inB_ix t1 z.1 t40
    rw [show tn (nI t9') = t9' from nI_clamp (by omega)]
    simp only [dt2]
    by_cases zo : h 21 t9' = 0
    · rw [t10 t9' ht9 zo]
    · simp [zo]
  · rw [if_neg z, if_neg z]
set_option maxHeartbeats 4000000 in
theorem op_asked {E E2 : Ev} {h g : Hp} (hR : Rel h g) (t : Int32) (i0 : Int32) : OP yX8_asked cX8_asked 3 yX9_asked cX9_asked 5 E E2 [.int t, .int i0] h g := by
  have hR0 := hR
  obtain ⟨nA, nT, nL, nR, hA, hT, hD, hM, hS, hf⟩ := hR
  have hA0 := hA
  have hT0 := hT
  have hD0 := hD
  have hM0 := hM
  obtain ⟨a1, a2, a3, a4, a5, a6, a7, a8, a9, a10, a11, aB⟩ := hA
  obtain ⟨t1, t2, t3, t4, t5, t6, t7, t8, tB1, tB2, tB3, t9, t10⟩ := hT
  obtain ⟨d1, d2, d3, d4, d5, d6, d7, d8, dV, d9⟩ := hD
  obtain ⟨m1, m2, m3, m4, m5, m6, mE⟩ := hM
  have e01 : g 0 1 = h 1 8 := a2.trans a1.symm
  have e010 : g 0 10 = h 2 6 := t2.trans t1.symm
  have e017 : g 0 17 = h 4 1 := d2.trans d1.symm
  have e019 : g 0 19 = h 5 4 := d7.trans d6.symm
  have e00 : g 0 0 = h 0 11 := hf.symm
  have aBY : AB (g 1) (g 2) (g 3) (g 4) (g 5) (g 7) (g 8) := by rw [a4, a5, a6, a7, a8, a10, a11]; exact aB
  have t40 : nT ≤ 40 := Nat.le_trans t3 a3
  have tB1Y : Bd (g 9) 40 := by rw [t4]; exact tB1
  have tB2Y : Bd (g 10) 2 := by rw [t5]; exact tB2
  have tB3Y : Bd (g 13) 6 := by rw [t8]; exact tB3
  have dY : TVY (g 16) nR := by
    intro r hr
    obtain ⟨q1, q2, q3, q4, q5⟩ := d9 r hr
    rw [← q1, ← q2, show d1Y (g 16) r = h 30 r from q3.symm, show d2Y (g 16) r = h 31 r from q4.symm, show d3Y (g 16) r = h 32 r from q5.symm]
    exact dV r hr
  exact OP_of (k_X8_asked (by decide) a1 a3) (k_X9_asked (by decide) a2 a3) (by simp only [e01, e010, e017, e019, e00, a4, a5, a6, a7, a8, a9, a10, a11, t4, t5, t6, t7, t8, d4, m1, m2, m3, m4, m5, m6]) (Rel_if (by simp only [e01, e010, e017, e019, e00, a4, a5, a6, a7, a8, a9, a10, a11, t4, t5, t6, t7, t8, d4, m1, m2, m3, m4, m5, m6]) (fun _ => hR0) (fun _ => Rel_fi hR0))
set_option maxHeartbeats 4000000 in
theorem op_closings {E E2 : Ev} {h g : Hp} (hR : Rel h g) (a : Int32) (w : Int32) : OP yX8_closings cX8_closings 3 yX9_closings cX9_closings 3 E E2 [.int a, .int w] h g := by
  have hR0 := hR
  obtain ⟨nA, nT, nL, nR, hA, hT, hD, hM, hS, hf⟩ := hR
  have hA0 := hA
  have hT0 := hT
  have hD0 := hD
  have hM0 := hM
  obtain ⟨a1, a2, a3, a4, a5, a6, a7, a8, a9, a10, a11, aB⟩ := hA
  obtain ⟨t1, t2, t3, t4, t5, t6, t7, t8, tB1, tB2, tB3, t9, t10⟩ := hT
  obtain ⟨d1, d2, d3, d4, d5, d6, d7, d8, dV, d9⟩ := hD
  obtain ⟨m1, m2, m3, m4, m5, m6, mE⟩ := hM
  have e01 : g 0 1 = h 1 8 := a2.trans a1.symm
  have e010 : g 0 10 = h 2 6 := t2.trans t1.symm
  have e017 : g 0 17 = h 4 1 := d2.trans d1.symm
  have e019 : g 0 19 = h 5 4 := d7.trans d6.symm
  have e00 : g 0 0 = h 0 11 := hf.symm
  have aBY : AB (g 1) (g 2) (g 3) (g 4) (g 5) (g 7) (g 8) := by rw [a4, a5, a6, a7, a8, a10, a11]; exact aB
  have t40 : nT ≤ 40 := Nat.le_trans t3 a3
  have tB1Y : Bd (g 9) 40 := by rw [t4]; exact tB1
  have tB2Y : Bd (g 10) 2 := by rw [t5]; exact tB2
  have tB3Y : Bd (g 13) 6 := by rw [t8]; exact tB3
  have dY : TVY (g 16) nR := by
    intro r hr
    obtain ⟨q1, q2, q3, q4, q5⟩ := d9 r hr
    rw [← q1, ← q2, show d1Y (g 16) r = h 30 r from q3.symm, show d2Y (g 16) r = h 31 r from q4.symm, show d3Y (g 16) r = h 32 r from q5.symm]
    exact dV r hr
  exact OP_of (k_X8_closings (by decide)) (k_X9_closings (by decide)) (by simp only [e01, e010, e017, e019, e00, a4, a5, a6, a7, a8, a9, a10, a11, t4, t5, t6, t7, t8, d4, m1, m2, m3, m4, m5, m6]) (Rel_if (by simp only [e01, e010, e017, e019, e00, a4, a5, a6, a7, a8, a9, a10, a11, t4, t5, t6, t7, t8, d4, m1, m2, m3, m4, m5, m6]) (fun _ => hR0) (fun _ => Rel_fi hR0))
set_option maxHeartbeats 4000000 in
theorem op_quarter {E E2 : Ev} {h g : Hp} (hR : Rel h g) (q : Int32) (w : Int32) : OP yX8_quarter cX8_quarter 3 yX9_quarter cX9_quarter 7 E E2 [.int q, .int w] h g := by
  have hR0 := hR
  obtain ⟨nA, nT, nL, nR, hA, hT, hD, hM, hS, hf⟩ := hR
  have hA0 := hA
  have hT0 := hT
  have hD0 := hD
  have hM0 := hM
  obtain ⟨a1, a2, a3, a4, a5, a6, a7, a8, a9, a10, a11, aB⟩ := hA
  obtain ⟨t1, t2, t3, t4, t5, t6, t7, t8, tB1, tB2, tB3, t9, t10⟩ := hT
  obtain ⟨d1, d2, d3, d4, d5, d6, d7, d8, dV, d9⟩ := hD
  obtain ⟨m1, m2, m3, m4, m5, m6, mE⟩ := hM
  have e01 : g 0 1 = h 1 8 := a2.trans a1.symm
  have e010 : g 0 10 = h 2 6 := t2.trans t1.symm
  have e017 : g 0 17 = h 4 1 := d2.trans d1.symm
  have e019 : g 0 19 = h 5 4 := d7.trans d6.symm
  have e00 : g 0 0 = h 0 11 := hf.symm
  have aBY : AB (g 1) (g 2) (g 3) (g 4) (g 5) (g 7) (g 8) := by rw [a4, a5, a6, a7, a8, a10, a11]; exact aB
  have t40 : nT ≤ 40 := Nat.le_trans t3 a3
  have tB1Y : Bd (g 9) 40 := by rw [t4]; exact tB1
  have tB2Y : Bd (g 10) 2 := by rw [t5]; exact tB2
  have tB3Y : Bd (g 13) 6 := by rw [t8]; exact tB3
  have dY : TVY (g 16) nR := by
    intro r hr
    obtain ⟨q1, q2, q3, q4, q5⟩ := d9 r hr
    rw [← q1, ← q2, show d1Y (g 16) r = h 30 r from q3.symm, show d2Y (g 16) r = h 31 r from q4.symm, show d3Y (g 16) r = h 32 r from q5.symm]
    exact dV r hr
  exact OP_of (k_X8_quarter (by decide) a1 a3 t1 t40 tB1) (k_X9_quarter (by decide) a2 a3 t2 t40 tB1Y) (by simp only [e01, e010, e017, e019, e00, a4, a5, a6, a7, a8, a9, a10, a11, t4, t5, t6, t7, t8, d4, m1, m2, m3, m4, m5, m6]) (Rel_if (by simp only [e01, e010, e017, e019, e00, a4, a5, a6, a7, a8, a9, a10, a11, t4, t5, t6, t7, t8, d4, m1, m2, m3, m4, m5, m6]) (fun _ => Rel_if (by simp only [e01, e010, e017, e019, e00, a4, a5, a6, a7, a8, a9, a10, a11, t4, t5, t6, t7, t8, d4, m1, m2, m3, m4, m5, m6]) (fun _ => Rel_fi hR0) (fun _ => hR0)) (fun _ => Rel_fi hR0))
set_option maxHeartbeats 4000000 in
theorem op_told {E E2 : Ev} {h g : Hp} (hR : Rel h g) (w : Int32) : OP yX8_told cX8_told 2 yX9_told cX9_told 2 E E2 [.int w] h g := by
  have hR0 := hR
  obtain ⟨nA, nT, nL, nR, hA, hT, hD, hM, hS, hf⟩ := hR
  have hA0 := hA
  have hT0 := hT
  have hD0 := hD
  have hM0 := hM
  obtain ⟨a1, a2, a3, a4, a5, a6, a7, a8, a9, a10, a11, aB⟩ := hA
  obtain ⟨t1, t2, t3, t4, t5, t6, t7, t8, tB1, tB2, tB3, t9, t10⟩ := hT
  obtain ⟨d1, d2, d3, d4, d5, d6, d7, d8, dV, d9⟩ := hD
  obtain ⟨m1, m2, m3, m4, m5, m6, mE⟩ := hM
  have e01 : g 0 1 = h 1 8 := a2.trans a1.symm
  have e010 : g 0 10 = h 2 6 := t2.trans t1.symm
  have e017 : g 0 17 = h 4 1 := d2.trans d1.symm
  have e019 : g 0 19 = h 5 4 := d7.trans d6.symm
  have e00 : g 0 0 = h 0 11 := hf.symm
  have aBY : AB (g 1) (g 2) (g 3) (g 4) (g 5) (g 7) (g 8) := by rw [a4, a5, a6, a7, a8, a10, a11]; exact aB
  have t40 : nT ≤ 40 := Nat.le_trans t3 a3
  have tB1Y : Bd (g 9) 40 := by rw [t4]; exact tB1
  have tB2Y : Bd (g 10) 2 := by rw [t5]; exact tB2
  have tB3Y : Bd (g 13) 6 := by rw [t8]; exact tB3
  have dY : TVY (g 16) nR := by
    intro r hr
    obtain ⟨q1, q2, q3, q4, q5⟩ := d9 r hr
    rw [← q1, ← q2, show d1Y (g 16) r = h 30 r from q3.symm, show d2Y (g 16) r = h 31 r from q4.symm, show d3Y (g 16) r = h 32 r from q5.symm]
    exact dV r hr
  exact OP_of (k_X8_told (by decide) a1 a3 t1 t40) (k_X9_told (by decide) a2 a3 t2 t40) (by simp only [e01, e010, e017, e019, e00, a4, a5, a6, a7, a8, a9, a10, a11, t4, t5, t6, t7, t8, d4, m1, m2, m3, m4, m5, m6]) (Rel_if (by simp only [e01, e010, e017, e019, e00, a4, a5, a6, a7, a8, a9, a10, a11, t4, t5, t6, t7, t8, d4, m1, m2, m3, m4, m5, m6]) (fun _ => hR0) (fun _ => Rel_fi hR0))
theorem rowF_cong {gv gv2 : Nat → Bool} {d1 d12 : Nat → Int32} {rr : Nat} (h1 : ∀ r, r < rr → gv r = gv2 r ∧ d1 r = d12 r) (k : Nat) : rowF gv d1 rr k = rowF gv2 d12 rr k := by
  have key : ∀ z : Int32, fsI (jP gv d1 z) rr = fsI (jP gv2 d12 z) rr := by
    intro z
    have e : fst (jP gv d1 z) rr = fst (jP gv2 d12 z) rr := fst_cong (fun j hj => by simp only [jP]; rw [(h1 j hj).1, (h1 j hj).2])
    rw [fsI, fsI, e]
  simp only [rowF, key]
theorem nxt_cong {sd sd2 : Nat → Bool} {d1 d2 d3 d12 d22 d32 : Nat → Int32} {rr : Nat} (h1 : ∀ r, r < rr → sd r = sd2 r ∧ d1 r = d12 r ∧ d2 r = d22 r ∧ d3 r = d32 r) (q k : Int32) : nxt sd d1 d2 d3 rr q k = nxt sd2 d12 d22 d32 rr q k := by
  have e : fst (sP sd d1 d2 k q) rr = fst (sP sd2 d12 d22 k q) rr := fst_cong (fun j hj => by simp only [sP]; rw [(h1 j hj).1, (h1 j hj).2.1, (h1 j hj).2.2.1])
  simp only [nxt, e]
  by_cases z : fst (sP sd2 d12 d22 k q) rr < rr
  · rw [if_pos z, if_pos z, (h1 _ z).2.2.2]
  · rw [if_neg z, if_neg z]
set_option maxHeartbeats 4000000 in
theorem op_whose {E E2 : Ev} {h g : Hp} (hR : Rel h g) (t : Int32) : OP yX8_whose cX8_whose 3 yX9_whose cX9_whose 3 E E2 [.int t] h g := by
  have hR0 := hR
  obtain ⟨nA, nT, nL, nR, hA, hT, hD, hM, hS, hf⟩ := hR
  have hA0 := hA
  have hT0 := hT
  have hD0 := hD
  have hM0 := hM
  obtain ⟨a1, a2, a3, a4, a5, a6, a7, a8, a9, a10, a11, aB⟩ := hA
  obtain ⟨t1, t2, t3, t4, t5, t6, t7, t8, tB1, tB2, tB3, t9, t10⟩ := hT
  obtain ⟨d1, d2, d3, d4, d5, d6, d7, d8, dV, d9⟩ := hD
  obtain ⟨m1, m2, m3, m4, m5, m6, mE⟩ := hM
  have e01 : g 0 1 = h 1 8 := a2.trans a1.symm
  have e010 : g 0 10 = h 2 6 := t2.trans t1.symm
  have e017 : g 0 17 = h 4 1 := d2.trans d1.symm
  have e019 : g 0 19 = h 5 4 := d7.trans d6.symm
  have e00 : g 0 0 = h 0 11 := hf.symm
  have aBY : AB (g 1) (g 2) (g 3) (g 4) (g 5) (g 7) (g 8) := by rw [a4, a5, a6, a7, a8, a10, a11]; exact aB
  have t40 : nT ≤ 40 := Nat.le_trans t3 a3
  have tB1Y : Bd (g 9) 40 := by rw [t4]; exact tB1
  have tB2Y : Bd (g 10) 2 := by rw [t5]; exact tB2
  have tB3Y : Bd (g 13) 6 := by rw [t8]; exact tB3
  have dY : TVY (g 16) nR := by
    intro r hr
    obtain ⟨q1, q2, q3, q4, q5⟩ := d9 r hr
    rw [← q1, ← q2, show d1Y (g 16) r = h 30 r from q3.symm, show d2Y (g 16) r = h 31 r from q4.symm, show d3Y (g 16) r = h 32 r from q5.symm]
    exact dV r hr
  have eRow : ∀ k9, rowYf (g 16) nR k9 = rowX h nR k9 := fun k9 => (rowF_cong (fun r hr => ⟨(d9 r hr).1, (d9 r hr).2.2.1⟩) k9).symm
  have eNx : ∀ q9, nxF (g 16) nR q9 = nxX h nR q9 := fun q9 => by
    funext k9
    exact (nxt_cong (fun r hr => ⟨(d9 r hr).2.1, (d9 r hr).2.2.1, (d9 r hr).2.2.2.1, (d9 r hr).2.2.2.2⟩) q9 k9).symm
  have eOw : ∀ t9', owY g nR t9' = owX h nR t9' := by
    intro t9'
    simp only [owY, owX, ownP, a4, a5, a6, t4, eRow, eNx]
    by_cases z : rowX h nR (tn (h 12 (tn (h 20 t9')))) = -1
    · rw [if_pos z, if_pos z]
    · rw [if_neg z, if_neg z]
      obtain ⟨r9, e9, h9, -⟩ : ∃ r, rowX h nR (tn (h 12 (tn (h 20 t9')))) = nI r ∧ r < nR ∧ gvX h r = true := rowF_cases.resolve_left z
      rw [e9, show tn (nI r9) = r9 from nI_clamp (by omega), show d2Y (g 16) r9 = h 31 r9 from (d9 r9 h9).2.2.2.1.symm]
  have ePr : ∀ t9', prY g nR t9' = prX h nR t9' := by
    intro t9'
    simp only [prY, prX, prP, a4, a8, t4, eRow]
    by_cases z : rowX h nR (tn (h 12 (tn (h 20 t9')))) = -1
    · rw [if_pos z, if_pos z]
    · rw [if_neg z, if_neg z]
      obtain ⟨r9, e9, h9, -⟩ : ∃ r, rowX h nR (tn (h 12 (tn (h 20 t9')))) = nI r ∧ r < nR ∧ gvX h r = true := rowF_cases.resolve_left z
      rw [e9, show tn (nI r9) = r9 from nI_clamp (by omega), show d3Y (g 16) r9 = h 32 r9 from (d9 r9 h9).2.2.2.2.symm]
  have k5 := aB.1
  have k5Y : Bd (g 1) 5 := by rw [a4]; exact aB.1
  exact OP_of (k_X8_whose (by decide) d6 d8 dV t1 t40 tB1 k5) (k_X9_whose (by decide) d7 d8 dY t2 t40 tB1Y k5Y) (by simp only [eOw, ePr, eRow, e01, e010, e017, e019, e00, a4, a5, a6, a7, a8, a9, a10, a11, t4, t5, t6, t7, t8, d4, m1, m2, m3, m4, m5, m6]) (Rel_if (by simp only [eOw, ePr, eRow, e01, e010, e017, e019, e00, a4, a5, a6, a7, a8, a9, a10, a11, t4, t5, t6, t7, t8, d4, m1, m2, m3, m4, m5, m6]) (fun _ => Rel_if (by simp only [eOw, ePr, eRow, e01, e010, e017, e019, e00, a4, a5, a6, a7, a8, a9, a10, a11, t4, t5, t6, t7, t8, d4, m1, m2, m3, m4, m5, m6]) (fun _ => Rel_fi (Rel_went hR0)) (fun _ => Rel_went hR0)) (fun _ => Rel_fi hR0))
set_option maxHeartbeats 4000000 in
theorem op_promise {E E2 : Ev} {h g : Hp} (hR : Rel h g) (t : Int32) : OP yX8_promise cX8_promise 3 yX9_promise cX9_promise 3 E E2 [.int t] h g := by
  have hR0 := hR
  obtain ⟨nA, nT, nL, nR, hA, hT, hD, hM, hS, hf⟩ := hR
  have hA0 := hA
  have hT0 := hT
  have hD0 := hD
  have hM0 := hM
  obtain ⟨a1, a2, a3, a4, a5, a6, a7, a8, a9, a10, a11, aB⟩ := hA
  obtain ⟨t1, t2, t3, t4, t5, t6, t7, t8, tB1, tB2, tB3, t9, t10⟩ := hT
  obtain ⟨d1, d2, d3, d4, d5, d6, d7, d8, dV, d9⟩ := hD
  obtain ⟨m1, m2, m3, m4, m5, m6, mE⟩ := hM
  have e01 : g 0 1 = h 1 8 := a2.trans a1.symm
  have e010 : g 0 10 = h 2 6 := t2.trans t1.symm
  have e017 : g 0 17 = h 4 1 := d2.trans d1.symm
  have e019 : g 0 19 = h 5 4 := d7.trans d6.symm
  have e00 : g 0 0 = h 0 11 := hf.symm
  have aBY : AB (g 1) (g 2) (g 3) (g 4) (g 5) (g 7) (g 8) := by rw [a4, a5, a6, a7, a8, a10, a11]; exact aB
  have t40 : nT ≤ 40 := Nat.le_trans t3 a3
  have tB1Y : Bd (g 9) 40 := by rw [t4]; exact tB1
  have tB2Y : Bd (g 10) 2 := by rw [t5]; exact tB2
  have tB3Y : Bd (g 13) 6 := by rw [t8]; exact tB3
  have dY : TVY (g 16) nR := by
    intro r hr
    obtain ⟨q1, q2, q3, q4, q5⟩ := d9 r hr
    rw [← q1, ← q2, show d1Y (g 16) r = h 30 r from q3.symm, show d2Y (g 16) r = h 31 r from q4.symm, show d3Y (g 16) r = h 32 r from q5.symm]
    exact dV r hr
  have eRow : ∀ k9, rowYf (g 16) nR k9 = rowX h nR k9 := fun k9 => (rowF_cong (fun r hr => ⟨(d9 r hr).1, (d9 r hr).2.2.1⟩) k9).symm
  have eNx : ∀ q9, nxF (g 16) nR q9 = nxX h nR q9 := fun q9 => by
    funext k9
    exact (nxt_cong (fun r hr => ⟨(d9 r hr).2.1, (d9 r hr).2.2.1, (d9 r hr).2.2.2.1, (d9 r hr).2.2.2.2⟩) q9 k9).symm
  have eOw : ∀ t9', owY g nR t9' = owX h nR t9' := by
    intro t9'
    simp only [owY, owX, ownP, a4, a5, a6, t4, eRow, eNx]
    by_cases z : rowX h nR (tn (h 12 (tn (h 20 t9')))) = -1
    · rw [if_pos z, if_pos z]
    · rw [if_neg z, if_neg z]
      obtain ⟨r9, e9, h9, -⟩ : ∃ r, rowX h nR (tn (h 12 (tn (h 20 t9')))) = nI r ∧ r < nR ∧ gvX h r = true := rowF_cases.resolve_left z
      rw [e9, show tn (nI r9) = r9 from nI_clamp (by omega), show d2Y (g 16) r9 = h 31 r9 from (d9 r9 h9).2.2.2.1.symm]
  have ePr : ∀ t9', prY g nR t9' = prX h nR t9' := by
    intro t9'
    simp only [prY, prX, prP, a4, a8, t4, eRow]
    by_cases z : rowX h nR (tn (h 12 (tn (h 20 t9')))) = -1
    · rw [if_pos z, if_pos z]
    · rw [if_neg z, if_neg z]
      obtain ⟨r9, e9, h9, -⟩ : ∃ r, rowX h nR (tn (h 12 (tn (h 20 t9')))) = nI r ∧ r < nR ∧ gvX h r = true := rowF_cases.resolve_left z
      rw [e9, show tn (nI r9) = r9 from nI_clamp (by omega), show d3Y (g 16) r9 = h 32 r9 from (d9 r9 h9).2.2.2.2.symm]
  have k5 := aB.1
  have k5Y : Bd (g 1) 5 := by rw [a4]; exact aB.1
  have dyY : Bd (g 5) 1000 := by rw [a8]; exact aB.2.2.2.2.1
  exact OP_of (k_X8_promise (by decide) d6 d8 dV t1 t40 tB1 k5) (k_X9_promise (by decide) d7 d8 dY t2 t40 tB1Y k5Y dyY) (by simp only [eOw, ePr, eRow, e01, e010, e017, e019, e00, a4, a5, a6, a7, a8, a9, a10, a11, t4, t5, t6, t7, t8, d4, m1, m2, m3, m4, m5, m6]) (Rel_if (by simp only [eOw, ePr, eRow, e01, e010, e017, e019, e00, a4, a5, a6, a7, a8, a9, a10, a11, t4, t5, t6, t7, t8, d4, m1, m2, m3, m4, m5, m6]) (fun _ => Rel_if (by simp only [eOw, ePr, eRow, e01, e010, e017, e019, e00, a4, a5, a6, a7, a8, a9, a10, a11, t4, t5, t6, t7, t8, d4, m1, m2, m3, m4, m5, m6]) (fun _ => Rel_fi hR0) (fun _ => hR0)) (fun _ => Rel_fi hR0))
set_option maxHeartbeats 4000000 in
theorem op_sent {E E2 : Ev} {h g : Hp} (hR : Rel h g) (t : Int32) : OP yX8_sent cX8_sent 3 yX9_sent cX9_sent 2 E E2 [.int t] h g := by
  have hR0 := hR
  obtain ⟨nA, nT, nL, nR, hA, hT, hD, hM, hS, hf⟩ := hR
  have hA0 := hA
  have hT0 := hT
  have hD0 := hD
  have hM0 := hM
  obtain ⟨a1, a2, a3, a4, a5, a6, a7, a8, a9, a10, a11, aB⟩ := hA
  obtain ⟨t1, t2, t3, t4, t5, t6, t7, t8, tB1, tB2, tB3, t9, t10⟩ := hT
  obtain ⟨d1, d2, d3, d4, d5, d6, d7, d8, dV, d9⟩ := hD
  obtain ⟨m1, m2, m3, m4, m5, m6, mE⟩ := hM
  have e01 : g 0 1 = h 1 8 := a2.trans a1.symm
  have e010 : g 0 10 = h 2 6 := t2.trans t1.symm
  have e017 : g 0 17 = h 4 1 := d2.trans d1.symm
  have e019 : g 0 19 = h 5 4 := d7.trans d6.symm
  have e00 : g 0 0 = h 0 11 := hf.symm
  have aBY : AB (g 1) (g 2) (g 3) (g 4) (g 5) (g 7) (g 8) := by rw [a4, a5, a6, a7, a8, a10, a11]; exact aB
  have t40 : nT ≤ 40 := Nat.le_trans t3 a3
  have tB1Y : Bd (g 9) 40 := by rw [t4]; exact tB1
  have tB2Y : Bd (g 10) 2 := by rw [t5]; exact tB2
  have tB3Y : Bd (g 13) 6 := by rw [t8]; exact tB3
  have dY : TVY (g 16) nR := by
    intro r hr
    obtain ⟨q1, q2, q3, q4, q5⟩ := d9 r hr
    rw [← q1, ← q2, show d1Y (g 16) r = h 30 r from q3.symm, show d2Y (g 16) r = h 31 r from q4.symm, show d3Y (g 16) r = h 32 r from q5.symm]
    exact dV r hr
  have eRow : ∀ k9, rowYf (g 16) nR k9 = rowX h nR k9 := fun k9 => (rowF_cong (fun r hr => ⟨(d9 r hr).1, (d9 r hr).2.2.1⟩) k9).symm
  have eNx : ∀ q9, nxF (g 16) nR q9 = nxX h nR q9 := fun q9 => by
    funext k9
    exact (nxt_cong (fun r hr => ⟨(d9 r hr).2.1, (d9 r hr).2.2.1, (d9 r hr).2.2.2.1, (d9 r hr).2.2.2.2⟩) q9 k9).symm
  have eOw : ∀ t9', owY g nR t9' = owX h nR t9' := by
    intro t9'
    simp only [owY, owX, ownP, a4, a5, a6, t4, eRow, eNx]
    by_cases z : rowX h nR (tn (h 12 (tn (h 20 t9')))) = -1
    · rw [if_pos z, if_pos z]
    · rw [if_neg z, if_neg z]
      obtain ⟨r9, e9, h9, -⟩ : ∃ r, rowX h nR (tn (h 12 (tn (h 20 t9')))) = nI r ∧ r < nR ∧ gvX h r = true := rowF_cases.resolve_left z
      rw [e9, show tn (nI r9) = r9 from nI_clamp (by omega), show d2Y (g 16) r9 = h 31 r9 from (d9 r9 h9).2.2.2.1.symm]
  have ePr : ∀ t9', prY g nR t9' = prX h nR t9' := by
    intro t9'
    simp only [prY, prX, prP, a4, a8, t4, eRow]
    by_cases z : rowX h nR (tn (h 12 (tn (h 20 t9')))) = -1
    · rw [if_pos z, if_pos z]
    · rw [if_neg z, if_neg z]
      obtain ⟨r9, e9, h9, -⟩ : ∃ r, rowX h nR (tn (h 12 (tn (h 20 t9')))) = nI r ∧ r < nR ∧ gvX h r = true := rowF_cases.resolve_left z
      rw [e9, show tn (nI r9) = r9 from nI_clamp (by omega), show d3Y (g 16) r9 = h 32 r9 from (d9 r9 h9).2.2.2.2.symm]
  have k5 := aB.1
  have k5Y : Bd (g 1) 5 := by rw [a4]; exact aB.1
  exact OP_of (k_X8_sent (by decide) d6 d8 dV t1 t40 tB1 k5) (k_X9_sent (by decide) d7 d8 dY t2 t40 tB1Y k5Y) (by simp only [eOw, ePr, eRow, e01, e010, e017, e019, e00, a4, a5, a6, a7, a8, a9, a10, a11, t4, t5, t6, t7, t8, d4, m1, m2, m3, m4, m5, m6]) (Rel_if (by simp only [eOw, ePr, eRow, e01, e010, e017, e019, e00, a4, a5, a6, a7, a8, a9, a10, a11, t4, t5, t6, t7, t8, d4, m1, m2, m3, m4, m5, m6]) (fun _ => Rel_if (by simp only [eOw, ePr, eRow, e01, e010, e017, e019, e00, a4, a5, a6, a7, a8, a9, a10, a11, t4, t5, t6, t7, t8, d4, m1, m2, m3, m4, m5, m6]) (fun _ => Rel_fi (Rel_went hR0)) (fun _ => Rel_went hR0)) (fun _ => Rel_fi hR0))
