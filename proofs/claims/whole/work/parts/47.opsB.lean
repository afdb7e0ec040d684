theorem inB_140 {v : Int32} (b : inB v 1 40 = true) : ∃ m, 1 ≤ m ∧ m ≤ 40 ∧ v = nI m := by
  obtain ⟨h1, h2⟩ := inB_iff.mp b
  have h0 : (0 : Int32) ≤ v := Int32.le_trans (by decide) h1
  obtain ⟨j9, hj, e9⟩ := nI_of (Int32.not_lt.mpr h0)
  subst e9
  exact ⟨j9, (nI_leI (a := 1) (by decide) hj).mp h1, (nI_leI (b := 40) hj (by decide)).mp h2, rfl⟩
theorem upd_upd {f : Nat → Int32} {k : Nat} {a b : Int32} : upd (upd f k a) k b = upd f k b := by
  funext x
  by_cases e : x = k <;> simp [upd, e]
theorem upd_id {f : Nat → Int32} {k : Nat} {v : Int32} (h : f k = v) : upd f k v = f := by
  funext x
  by_cases e : x = k
  · subst e; simp [upd, h]
  · simp [upd, e]

set_option maxHeartbeats 4000000 in
theorem op_effort {E E2 : Ev} {h g : Hp} (hR : Rel h g) (k : Int32) (x : Int32) : OP yX8_effort cX8_effort 4 yX9_effort cX9_effort 4 E E2 [.int k, .int x] h g := by
  have hR0 := hR
  obtain ⟨nA, nT, nL, nR, hA, hT, hD, hM, hS, hf⟩ := hR
  have hA0 := hA
  have hT0 := hT
  have hD0 := hD
  have hM0 := hM
  obtain ⟨a1, a2, a3, a4, a5, a6, a7, a8, a9, a10, a11, aB⟩ := hA
  obtain ⟨t1, t2, t3, t4, t5, t6, t7, t8, tB1, tB2, tB3, t9, t10⟩ := hT
  obtain ⟨d1, d2, d3, d4, d5, d6, d7, d8, dV, d9⟩ := hD
  obtain ⟨m1, m2, m3, m4, m5, m6, mE⟩ := hM
  have e01 : g 0 1 = h 1 8 := a2.trans a1.symm
  have e010 : g 0 10 = h 2 6 := t2.trans t1.symm
  have e017 : g 0 17 = h 4 1 := d2.trans d1.symm
  have e019 : g 0 19 = h 5 4 := d7.trans d6.symm
  have e00 : g 0 0 = h 0 11 := hf.symm
  have aBY : AB (g 1) (g 2) (g 3) (g 4) (g 5) (g 7) (g 8) := by rw [a4, a5, a6, a7, a8, a10, a11]; exact aB
  have t40 : nT ≤ 40 := Nat.le_trans t3 a3
  have tB1Y : Bd (g 9) 40 := by rw [t4]; exact tB1
  have tB2Y : Bd (g 10) 2 := by rw [t5]; exact tB2
  have tB3Y : Bd (g 13) 6 := by rw [t8]; exact tB3
  have dY : TVY (g 16) nR := by
    intro r hr
    obtain ⟨q1, q2, q3, q4, q5⟩ := d9 r hr
    rw [← q1, ← q2, show d1Y (g 16) r = h 30 r from q3.symm, show d2Y (g 16) r = h 31 r from q4.symm, show d3Y (g 16) r = h 32 r from q5.symm]
    exact dV r hr
  refine OP_of (k_X8_effort (by decide)) (k_X9_effort (by decide)) (by simp only [e01, e010, e017, e019, e00, a4, a5, a6, a7, a8, a9, a10, a11, t4, t5, t6, t7, t8, d4, m1, m2, m3, m4, m5, m6]) (Rel_if (by simp only [e01, e010, e017, e019, e00, a4, a5, a6, a7, a8, a9, a10, a11, t4, t5, t6, t7, t8, d4, m1, m2, m3, m4, m5, m6]) (fun z => ?_) (fun _ => Rel_fi hR0))
  rw [okEf, Bool.and_eq_true] at z
  obtain ⟨k9, hk9, rfl⟩ := inB_ex 4 z.1
  obtain ⟨x9, hx1, hx2, rfl⟩ := inB_140 z.2
  rw [show tn (nI k9) = k9 from nI_clamp (by omega)]
  refine ⟨nA, nT, nL, nR, RA_cong hA0 (by first | rfl | (repeat (first | rw [put_n (by omega)] | rw [put_i (by omega)]))) (by first | rfl | (repeat (first | rw [put_n (by omega)] | rw [put_i (by omega)]))) (fun kz _ _ => by first | rfl | (repeat (first | rw [put_n (by omega)] | rw [put_i (by omega)]))) (fun kz _ _ => by first | rfl | (repeat (first | rw [put_n (by omega)] | rw [put_i (by omega)]))), RT_cong hT0 (by first | rfl | (repeat (first | rw [put_n (by omega)] | rw [put_i (by omega)]))) (by first | rfl | (repeat (first | rw [put_n (by omega)] | rw [put_i (by omega)]))) (fun kz _ _ => by first | rfl | (repeat (first | rw [put_n (by omega)] | rw [put_i (by omega)]))) (fun kz _ _ => by first | rfl | (repeat (first | rw [put_n (by omega)] | rw [put_i (by omega)]))), RD_cong hD0 (by first | rfl | (repeat (first | rw [put_n (by omega)] | rw [put_i (by omega)]))) (by first | rfl | (repeat (first | rw [put_n (by omega)] | rw [put_i (by omega)]))) (by first | rfl | (repeat (first | rw [put_n (by omega)] | rw [put_i (by omega)]))) (by first | rfl | (repeat (first | rw [put_n (by omega)] | rw [put_i (by omega)]))) (fun kz _ _ => by first | rfl | (repeat (first | rw [put_n (by omega)] | rw [put_i (by omega)]))) (fun kz _ _ => by first | rfl | (repeat (first | rw [put_n (by omega)] | rw [put_i (by omega)]))), ⟨by simp [put, up2, m1], by simp [put, up2, m2], by simp [put, up2, m3], by simp [put, up2, m4], by simp [put, up2, m5], by simp [put, up2, m6], fun kz hkz => ?_⟩, RS_cong hS (fun kz _ => by first | rfl | (repeat (first | rw [put_n (by omega)] | rw [put_i (by omega)]))) (fun kz _ _ => by first | rfl | (repeat (first | rw [put_n (by omega)] | rw [put_i (by omega)]))), (by simp [put, up2, upd, hf])⟩
  by_cases e : kz = k9
  · subst e; exact ⟨x9, hx1, hx2, put_s⟩
  · obtain ⟨n9, h1, h2, h3⟩ := mE kz hkz
    exact ⟨n9, h1, h2, by rw [put_i e]; exact h3⟩
set_option maxHeartbeats 4000000 in
theorem op_marks {E E2 : Ev} {h g : Hp} (hR : Rel h g) (k : Int32) (x : Int32) (y : Int32) : OP yX8_marks cX8_marks 4 yX9_marks cX9_marks 4 E E2 [.int k, .int x, .int y] h g := by
  have hR0 := hR
  obtain ⟨nA, nT, nL, nR, hA, hT, hD, hM, hS, hf⟩ := hR
  have hA0 := hA
  have hT0 := hT
  have hD0 := hD
  have hM0 := hM
  obtain ⟨a1, a2, a3, a4, a5, a6, a7, a8, a9, a10, a11, aB⟩ := hA
  obtain ⟨t1, t2, t3, t4, t5, t6, t7, t8, tB1, tB2, tB3, t9, t10⟩ := hT
  obtain ⟨d1, d2, d3, d4, d5, d6, d7, d8, dV, d9⟩ := hD
  obtain ⟨m1, m2, m3, m4, m5, m6, mE⟩ := hM
  have e01 : g 0 1 = h 1 8 := a2.trans a1.symm
  have e010 : g 0 10 = h 2 6 := t2.trans t1.symm
  have e017 : g 0 17 = h 4 1 := d2.trans d1.symm
  have e019 : g 0 19 = h 5 4 := d7.trans d6.symm
  have e00 : g 0 0 = h 0 11 := hf.symm
  have aBY : AB (g 1) (g 2) (g 3) (g 4) (g 5) (g 7) (g 8) := by rw [a4, a5, a6, a7, a8, a10, a11]; exact aB
  have t40 : nT ≤ 40 := Nat.le_trans t3 a3
  have tB1Y : Bd (g 9) 40 := by rw [t4]; exact tB1
  have tB2Y : Bd (g 10) 2 := by rw [t5]; exact tB2
  have tB3Y : Bd (g 13) 6 := by rw [t8]; exact tB3
  have dY : TVY (g 16) nR := by
    intro r hr
    obtain ⟨q1, q2, q3, q4, q5⟩ := d9 r hr
    rw [← q1, ← q2, show d1Y (g 16) r = h 30 r from q3.symm, show d2Y (g 16) r = h 31 r from q4.symm, show d3Y (g 16) r = h 32 r from q5.symm]
    exact dV r hr
  refine OP_of (k_X8_marks (by decide)) (k_X9_marks (by decide)) (by simp only [e01, e010, e017, e019, e00, a4, a5, a6, a7, a8, a9, a10, a11, t4, t5, t6, t7, t8, d4, m1, m2, m3, m4, m5, m6]) (Rel_if (by simp only [e01, e010, e017, e019, e00, a4, a5, a6, a7, a8, a9, a10, a11, t4, t5, t6, t7, t8, d4, m1, m2, m3, m4, m5, m6]) (fun z => ?_) (fun _ => Rel_fi hR0))
  rw [okMk, Bool.and_eq_true, Bool.and_eq_true] at z
  obtain ⟨x9, hx9, rfl⟩ := inB_ex 20 z.1.2
  obtain ⟨y9, hy9, rfl⟩ := inB_ex 99 z.2
  generalize tn k = k9
  refine ⟨nA, nT, nL, nR, ⟨by simp [put, up2, a1], by simp [put, up2, a2], a3, by simp [put, up2, a4], by simp [put, up2, a5], by simp [put, up2, a6], by simp [put, up2, a7], by simp [put, up2, a8], by simp [put, up2, a9], by simp [put, up2, a10], by simp [put, up2, a11], ?_⟩, RT_cong hT0 (by first | rfl | (repeat (first | rw [put_n (by omega)] | rw [put_i (by omega)]))) (by first | rfl | (repeat (first | rw [put_n (by omega)] | rw [put_i (by omega)]))) (fun kz _ _ => by first | rfl | (repeat (first | rw [put_n (by omega)] | rw [put_i (by omega)]))) (fun kz _ _ => by first | rfl | (repeat (first | rw [put_n (by omega)] | rw [put_i (by omega)]))), RD_cong hD0 (by first | rfl | (repeat (first | rw [put_n (by omega)] | rw [put_i (by omega)]))) (by first | rfl | (repeat (first | rw [put_n (by omega)] | rw [put_i (by omega)]))) (by first | rfl | (repeat (first | rw [put_n (by omega)] | rw [put_i (by omega)]))) (by first | rfl | (repeat (first | rw [put_n (by omega)] | rw [put_i (by omega)]))) (fun kz _ _ => by first | rfl | (repeat (first | rw [put_n (by omega)] | rw [put_i (by omega)]))) (fun kz _ _ => by first | rfl | (repeat (first | rw [put_n (by omega)] | rw [put_i (by omega)]))), RM_cong hM0 (fun kz hkz => by first | rfl | (repeat (first | rw [put_n (by omega)] | rw [put_i (by omega)]))) (fun kz _ _ => by first | rfl | (repeat (first | rw [put_n (by omega)] | rw [put_i (by omega)]))), RS_cong hS (fun kz _ => by first | rfl | (repeat (first | rw [put_n (by omega)] | rw [put_i (by omega)]))) (fun kz _ _ => by first | rfl | (repeat (first | rw [put_n (by omega)] | rw [put_i (by omega)]))), (by simp [put, up2, upd, hf])⟩
  have q1 := Bd_upd (k := k9) aB.2.2.2.2.2.1 hx9 rfl
  have q2 := Bd_upd (k := k9) aB.2.2.2.2.2.2 hy9 rfl
  have q3 : AB (h 12) (h 13) (h 14) (h 15) (h 16) (upd (h 18) k9 (nI x9)) (upd (h 19) k9 (nI y9)) := ⟨aB.1, aB.2.1, aB.2.2.1, aB.2.2.2.1, aB.2.2.2.2.1, q1, q2⟩
  simpa [put, up2] using q3
set_option maxHeartbeats 4000000 in
theorem op_walk {E E2 : Ev} {h g : Hp} (hR : Rel h g) (a : Int32) (x : Int32) (y : Int32) : OP yX8_walk cX8_walk 4 yX9_walk cX9_walk 4 E E2 [.int a, .int x, .int y] h g := by
  have hR0 := hR
  obtain ⟨nA, nT, nL, nR, hA, hT, hD, hM, hS, hf⟩ := hR
  have hA0 := hA
  have hT0 := hT
  have hD0 := hD
  have hM0 := hM
  obtain ⟨a1, a2, a3, a4, a5, a6, a7, a8, a9, a10, a11, aB⟩ := hA
  obtain ⟨t1, t2, t3, t4, t5, t6, t7, t8, tB1, tB2, tB3, t9, t10⟩ := hT
  obtain ⟨d1, d2, d3, d4, d5, d6, d7, d8, dV, d9⟩ := hD
  obtain ⟨m1, m2, m3, m4, m5, m6, mE⟩ := hM
  have e01 : g 0 1 = h 1 8 := a2.trans a1.symm
  have e010 : g 0 10 = h 2 6 := t2.trans t1.symm
  have e017 : g 0 17 = h 4 1 := d2.trans d1.symm
  have e019 : g 0 19 = h 5 4 := d7.trans d6.symm
  have e00 : g 0 0 = h 0 11 := hf.symm
  have aBY : AB (g 1) (g 2) (g 3) (g 4) (g 5) (g 7) (g 8) := by rw [a4, a5, a6, a7, a8, a10, a11]; exact aB
  have t40 : nT ≤ 40 := Nat.le_trans t3 a3
  have tB1Y : Bd (g 9) 40 := by rw [t4]; exact tB1
  have tB2Y : Bd (g 10) 2 := by rw [t5]; exact tB2
  have tB3Y : Bd (g 13) 6 := by rw [t8]; exact tB3
  have dY : TVY (g 16) nR := by
    intro r hr
    obtain ⟨q1, q2, q3, q4, q5⟩ := d9 r hr
    rw [← q1, ← q2, show d1Y (g 16) r = h 30 r from q3.symm, show d2Y (g 16) r = h 31 r from q4.symm, show d3Y (g 16) r = h 32 r from q5.symm]
    exact dV r hr
  refine OP_of (k_X8_walk (by decide)) (k_X9_walk (by decide)) (by simp only [e01, e010, e017, e019, e00, a4, a5, a6, a7, a8, a9, a10, a11, t4, t5, t6, t7, t8, d4, m1, m2, m3, m4, m5, m6]) (Rel_if (by simp only [e01, e010, e017, e019, e00, a4, a5, a6, a7, a8, a9, a10, a11, t4, t5, t6, t7, t8, d4, m1, m2, m3, m4, m5, m6]) (fun z => ?_) (fun _ => Rel_fi hR0))
  exact ⟨nA, nT, nL, nR, RA_cong hA0 (by first | rfl | (repeat (first | rw [put_n (by omega)] | rw [put_i (by omega)]))) (by first | rfl | (repeat (first | rw [put_n (by omega)] | rw [put_i (by omega)]))) (fun kz _ _ => by first | rfl | (repeat (first | rw [put_n (by omega)] | rw [put_i (by omega)]))) (fun kz _ _ => by first | rfl | (repeat (first | rw [put_n (by omega)] | rw [put_i (by omega)]))), RT_cong hT0 (by first | rfl | (repeat (first | rw [put_n (by omega)] | rw [put_i (by omega)]))) (by first | rfl | (repeat (first | rw [put_n (by omega)] | rw [put_i (by omega)]))) (fun kz _ _ => by first | rfl | (repeat (first | rw [put_n (by omega)] | rw [put_i (by omega)]))) (fun kz _ _ => by first | rfl | (repeat (first | rw [put_n (by omega)] | rw [put_i (by omega)]))), RD_cong hD0 (by first | rfl | (repeat (first | rw [put_n (by omega)] | rw [put_i (by omega)]))) (by first | rfl | (repeat (first | rw [put_n (by omega)] | rw [put_i (by omega)]))) (by first | rfl | (repeat (first | rw [put_n (by omega)] | rw [put_i (by omega)]))) (by first | rfl | (repeat (first | rw [put_n (by omega)] | rw [put_i (by omega)]))) (fun kz _ _ => by first | rfl | (repeat (first | rw [put_n (by omega)] | rw [put_i (by omega)]))) (fun kz _ _ => by first | rfl | (repeat (first | rw [put_n (by omega)] | rw [put_i (by omega)]))), ⟨by simp [put, up2, m1], by simp [put, up2, m2], by simp [put, up2, m3], by simp [put, up2, m4], by simp [put, up2, m5], by simp [put, up2, m6], by simpa [put, up2] using mE⟩, RS_cong hS (fun kz _ => by first | rfl | (repeat (first | rw [put_n (by omega)] | rw [put_i (by omega)]))) (fun kz _ _ => by first | rfl | (repeat (first | rw [put_n (by omega)] | rw [put_i (by omega)]))), (by simp [put, up2, upd, hf])⟩
set_option maxHeartbeats 4000000 in
theorem op_close {E E2 : Ev} {h g : Hp} (hR : Rel h g) (t : Int32) (dv : Int32) : OP yX8_close cX8_close 4 yX9_close cX9_close 4 E E2 [.int t, .int dv] h g := by
  have hR0 := hR
  obtain ⟨nA, nT, nL, nR, hA, hT, hD, hM, hS, hf⟩ := hR
  have hA0 := hA
  have hT0 := hT
  have hD0 := hD
  have hM0 := hM
  obtain ⟨a1, a2, a3, a4, a5, a6, a7, a8, a9, a10, a11, aB⟩ := hA
  obtain ⟨t1, t2, t3, t4, t5, t6, t7, t8, tB1, tB2, tB3, t9, t10⟩ := hT
  obtain ⟨d1, d2, d3, d4, d5, d6, d7, d8, dV, d9⟩ := hD
  obtain ⟨m1, m2, m3, m4, m5, m6, mE⟩ := hM
  have e01 : g 0 1 = h 1 8 := a2.trans a1.symm
  have e010 : g 0 10 = h 2 6 := t2.trans t1.symm
  have e017 : g 0 17 = h 4 1 := d2.trans d1.symm
  have e019 : g 0 19 = h 5 4 := d7.trans d6.symm
  have e00 : g 0 0 = h 0 11 := hf.symm
  have aBY : AB (g 1) (g 2) (g 3) (g 4) (g 5) (g 7) (g 8) := by rw [a4, a5, a6, a7, a8, a10, a11]; exact aB
  have t40 : nT ≤ 40 := Nat.le_trans t3 a3
  have tB1Y : Bd (g 9) 40 := by rw [t4]; exact tB1
  have tB2Y : Bd (g 10) 2 := by rw [t5]; exact tB2
  have tB3Y : Bd (g 13) 6 := by rw [t8]; exact tB3
  have dY : TVY (g 16) nR := by
    intro r hr
    obtain ⟨q1, q2, q3, q4, q5⟩ := d9 r hr
    rw [← q1, ← q2, show d1Y (g 16) r = h 30 r from q3.symm, show d2Y (g 16) r = h 31 r from q4.symm, show d3Y (g 16) r = h 32 r from q5.symm]
    exact dV r hr
  have eRow : ∀ k9, rowYf (g 16) nR k9 = rowX h nR k9 := fun k9 => (rowF_cong (fun r hr => ⟨(d9 r hr).1, (d9 r hr).2.2.1⟩) k9).symm
  have eNx : ∀ q9, nxF (g 16) nR q9 = nxX h nR q9 := fun q9 => by
    funext k9
    exact (nxt_cong (fun r hr => ⟨(d9 r hr).2.1, (d9 r hr).2.2.1, (d9 r hr).2.2.2.1, (d9 r hr).2.2.2.2⟩) q9 k9).symm
  have eOw : ∀ t9', owY g nR t9' = owX h nR t9' := by
    intro t9'
    simp only [owY, owX, ownP, a4, a5, a6, t4, eRow, eNx]
    by_cases z : rowX h nR (tn (h 12 (tn (h 20 t9')))) = -1
    · rw [if_pos z, if_pos z]
    · rw [if_neg z, if_neg z]
      obtain ⟨r9, e9, h9, -⟩ : ∃ r, rowX h nR (tn (h 12 (tn (h 20 t9')))) = nI r ∧ r < nR ∧ gvX h r = true := rowF_cases.resolve_left z
      rw [e9, show tn (nI r9) = r9 from nI_clamp (by omega), show d2Y (g 16) r9 = h 31 r9 from (d9 r9 h9).2.2.2.1.symm]
  have ePr : ∀ t9', prY g nR t9' = prX h nR t9' := by
    intro t9'
    simp only [prY, prX, prP, a4, a8, t4, eRow]
    by_cases z : rowX h nR (tn (h 12 (tn (h 20 t9')))) = -1
    · rw [if_pos z, if_pos z]
    · rw [if_neg z, if_neg z]
      obtain ⟨r9, e9, h9, -⟩ : ∃ r, rowX h nR (tn (h 12 (tn (h 20 t9')))) = nI r ∧ r < nR ∧ gvX h r = true := rowF_cases.resolve_left z
      rw [e9, show tn (nI r9) = r9 from nI_clamp (by omega), show d3Y (g 16) r9 = h 32 r9 from (d9 r9 h9).2.2.2.2.symm]
  have k5 := aB.1
  have k5Y : Bd (g 1) 5 := by rw [a4]; exact aB.1
  refine OP_of (k_X8_close (by decide) d6 d8 dV t1 t40 tB1 k5) (k_X9_close (by decide) d7 d8 dY t2 t40 tB1Y k5Y) (by simp only [eOw, ePr, eRow, e01, e010, e017, e019, e00, a4, a5, a6, a7, a8, a9, a10, a11, t4, t5, t6, t7, t8, d4, m1, m2, m3, m4, m5, m6]) (Rel_if (by simp only [eOw, ePr, eRow, e01, e010, e017, e019, e00, a4, a5, a6, a7, a8, a9, a10, a11, t4, t5, t6, t7, t8, d4, m1, m2, m3, m4, m5, m6]) (fun z1 => Rel_if (by simp only [eOw, ePr, eRow, e01, e010, e017, e019, e00, a4, a5, a6, a7, a8, a9, a10, a11, t4, t5, t6, t7, t8, d4, m1, m2, m3, m4, m5, m6]) (fun z2 => Rel_if (by simp only [eOw, ePr, eRow, e01, e010, e017, e019, e00, a4, a5, a6, a7, a8, a9, a10, a11, t4, t5, t6, t7, t8, d4, m1, m2, m3, m4, m5, m6]) (fun _ => Rel_fi (Rel_went hR0)) (fun z3 => ?_)) (fun _ => Rel_fi hR0)) (fun _ => Rel_fi hR0))
  rw [okCl, Bool.and_eq_true] at z1
  obtain ⟨t9', ht9, rfl⟩ := inB_ix t1 z1.1 t40
  rw [show tn (nI t9') = t9' from nI_clamp (by omega)] at z3 ⊢
  rw [eOw]
  obtain ⟨j9, hj9, ej9⟩ : ∃ j, j < 6 ∧ (owX h nR t9').1 = nI j := (ownP_cases (nx := fun q => nxX h nR q) dV (fun k => rowF_cases) d8 (fun q k => nxt_cases dV q k)).resolve_left z3
  rw [ej9]
  generalize nI (owX h nR t9').2 = wv
  simp only [clX, clY, shH, show tn (nI j9) = j9 from nI_clamp (by omega)]
  refine ⟨nA, nT, nL, nR, RA_cong hA0 (by first | rfl | (repeat (first | rw [put_n (by omega)] | rw [put_i (by omega)]))) (by first | rfl | (repeat (first | rw [put_n (by omega)] | rw [put_i (by omega)]))) (fun kz _ _ => by first | rfl | (repeat (first | rw [put_n (by omega)] | rw [put_i (by omega)]))) (fun kz _ _ => by first | rfl | (repeat (first | rw [put_n (by omega)] | rw [put_i (by omega)]))), ⟨by simp [put, up2, t1], by simp [put, up2, upd, t2], t3, by simp [put, up2, t4], by simp [put, up2, t5], by simp [put, up2, t6], by simp [put, up2, t7], by simp [put, up2, t8], by simpa [put, up2] using tB1, ?_, ?_, ?_, ?_⟩, RD_cong hD0 (by first | rfl | (repeat (first | rw [put_n (by omega)] | rw [put_i (by omega)]))) (by first | rfl | (repeat (first | rw [put_n (by omega)] | rw [put_i (by omega)]))) (by first | rfl | (repeat (first | rw [put_n (by omega)] | rw [put_i (by omega)]))) (by first | rfl | (repeat (first | rw [put_n (by omega)] | rw [put_i (by omega)]))) (fun kz _ _ => by first | rfl | (repeat (first | rw [put_n (by omega)] | rw [put_i (by omega)]))) (fun kz _ _ => by first | rfl | (repeat (first | rw [put_n (by omega)] | rw [put_i (by omega)]))), ⟨by simp [put, up2, m1], by simp [put, up2, m2], by simp [put, up2, m3], by simp [put, up2, m4], by simp [put, up2, m5], by simp [put, up2, m6], by simpa [put, up2] using mE⟩, RS_cong hS (fun kz _ => by first | rfl | (repeat (first | rw [put_n (by omega)] | rw [put_i (by omega)]))) (fun kz _ _ => by first | rfl | (repeat (first | rw [put_n (by omega)] | rw [put_i (by omega)]))), (by simp [put, up2, upd, hf])⟩
  · simpa [put, up2] using Bd_upd (k := t9') (n := 0) (v := 0) tB2 (by decide) rfl
  · simpa [put, up2] using Bd_upd (k := t9') tB3 hj9 rfl
  · intro tz htz
    have e : tz ≠ t9' := by omega
    simp [put, up2, upd, e, t9 tz htz]
  · intro tz htz
    by_cases e : tz = t9'
    · subst e; simp [put, up2, upd]
    · simpa [put, up2, upd, e] using t10 tz htz
set_option maxHeartbeats 4000000 in
theorem op_look {E E2 : Ev} {h g : Hp} (hR : Rel h g) (t : Int32) (bb : Bool) : OP yX8_look cX8_look 3 yX9_look cX9_look 3 E E2 [.int t, .int (bI bb)] h g := by
  have hR0 := hR
  obtain ⟨nA, nT, nL, nR, hA, hT, hD, hM, hS, hf⟩ := hR
  have hA0 := hA
  have hT0 := hT
  have hD0 := hD
  have hM0 := hM
  obtain ⟨a1, a2, a3, a4, a5, a6, a7, a8, a9, a10, a11, aB⟩ := hA
  obtain ⟨t1, t2, t3, t4, t5, t6, t7, t8, tB1, tB2, tB3, t9, t10⟩ := hT
  obtain ⟨d1, d2, d3, d4, d5, d6, d7, d8, dV, d9⟩ := hD
  obtain ⟨m1, m2, m3, m4, m5, m6, mE⟩ := hM
  have e01 : g 0 1 = h 1 8 := a2.trans a1.symm
  have e010 : g 0 10 = h 2 6 := t2.trans t1.symm
  have e017 : g 0 17 = h 4 1 := d2.trans d1.symm
  have e019 : g 0 19 = h 5 4 := d7.trans d6.symm
  have e00 : g 0 0 = h 0 11 := hf.symm
  have aBY : AB (g 1) (g 2) (g 3) (g 4) (g 5) (g 7) (g 8) := by rw [a4, a5, a6, a7, a8, a10, a11]; exact aB
  have t40 : nT ≤ 40 := Nat.le_trans t3 a3
  have tB1Y : Bd (g 9) 40 := by rw [t4]; exact tB1
  have tB2Y : Bd (g 10) 2 := by rw [t5]; exact tB2
  have tB3Y : Bd (g 13) 6 := by rw [t8]; exact tB3
  have dY : TVY (g 16) nR := by
    intro r hr
    obtain ⟨q1, q2, q3, q4, q5⟩ := d9 r hr
    rw [← q1, ← q2, show d1Y (g 16) r = h 30 r from q3.symm, show d2Y (g 16) r = h 31 r from q4.symm, show d3Y (g 16) r = h 32 r from q5.symm]
    exact dV r hr
  have eC : ∀ t9', tn (g 13 t9') = tn (h 24 t9') := fun t9' => by rw [t8]
  have eL : ∀ t9', t9' < nT → okL2 (g 10) (g 14) t9' = okL2 (h 21) (h 25) t9' := by
    intro t9' ht
    simp only [okL2, t5]
    by_cases z : h 21 t9' = 0
    · rw [t10 t9' ht z]
    · simp [z]
  have e1 : okT1 (g 0 10) t = okT1 (h 2 6) t := by rw [e010]
  have eLt : okT1 (h 2 6) t = true → okL2 (g 10) (g 14) (tn t) = okL2 (h 21) (h 25) (tn t) := by
    intro z
    obtain ⟨t9', ht9, rfl⟩ := inB_ix t1 z t40
    exact eL _ (by rw [show tn (nI t9') = t9' from nI_clamp (by omega)]; exact ht9)
  refine OP_of (k_X8_look (by decide) t1 t40 tB3) (k_X9_look (by decide) t2 t40 tB3Y) ?_ (Rel_if (by rw [e1]) (fun z1 => Rel_if (by rw [eLt z1]) (fun z2 => ?_) (fun _ => Rel_fi hR0)) (fun _ => Rel_fi hR0))
  · rw [e1]
    by_cases z : okT1 (h 2 6) t = true
    · rw [if_pos z, if_pos z, eLt z]
    · rw [if_neg z, if_neg z]
  · obtain ⟨t9', ht9, rfl⟩ := inB_ix t1 z1 t40
    rw [show tn (nI t9') = t9' from nI_clamp (by omega)]
    simp only [lkX, lkY, lkC, eC]
    generalize tn (h 24 t9') = c9
    cases bb
    · simp only [Bool.false_eq_true, if_false]
      refine ⟨nA, nT, nL, nR, RA_cong hA0 (by first | rfl | (repeat (first | rw [put_n (by omega)] | rw [put_i (by omega)]))) (by first | rfl | (repeat (first | rw [put_n (by omega)] | rw [put_i (by omega)]))) (fun kz _ _ => by first | rfl | (repeat (first | rw [put_n (by omega)] | rw [put_i (by omega)]))) (fun kz _ _ => by first | rfl | (repeat (first | rw [put_n (by omega)] | rw [put_i (by omega)]))), ⟨by simp [put, up2, t1], by simp [put, up2, t2], t3, by simp [put, up2, t4], by simp [put, up2, t5], by simp [put, up2, t6], by simp [put, up2, t7], by simp [put, up2, t8], by simpa [put, up2] using tB1, ?_, by simpa [put, up2] using tB3, by simpa [put, up2] using t9, ?_⟩, RD_cong hD0 (by first | rfl | (repeat (first | rw [put_n (by omega)] | rw [put_i (by omega)]))) (by first | rfl | (repeat (first | rw [put_n (by omega)] | rw [put_i (by omega)]))) (by first | rfl | (repeat (first | rw [put_n (by omega)] | rw [put_i (by omega)]))) (by first | rfl | (repeat (first | rw [put_n (by omega)] | rw [put_i (by omega)]))) (fun kz _ _ => by first | rfl | (repeat (first | rw [put_n (by omega)] | rw [put_i (by omega)]))) (fun kz _ _ => by first | rfl | (repeat (first | rw [put_n (by omega)] | rw [put_i (by omega)]))), ⟨by simp [put, up2, m1], by simp [put, up2, m2], by simp [put, up2, m3], by simp [put, up2, m4], by simp [put, up2, m5], by simp [put, up2, m6], by simpa [put, up2] using mE⟩, RS_cong hS (fun kz _ => by first | rfl | (repeat (first | rw [put_n (by omega)] | rw [put_i (by omega)]))) (fun kz _ _ => by first | rfl | (repeat (first | rw [put_n (by omega)] | rw [put_i (by omega)]))), (by simp [put, up2, upd, hf])⟩
      · simpa [put, up2] using Bd_upd (k := t9') (n := 1) (v := 1) tB2 (by decide) rfl
      · intro tz htz
        by_cases e : tz = t9'
        · subst e; simp [put, up2, upd]
        · simpa [put, up2, upd, e] using t10 tz htz
    · simp only [if_true]
      refine ⟨nA, nT, nL, nR, RA_cong hA0 (by first | rfl | (repeat (first | rw [put_n (by omega)] | rw [put_i (by omega)]))) (by first | rfl | (repeat (first | rw [put_n (by omega)] | rw [put_i (by omega)]))) (fun kz _ _ => by first | rfl | (repeat (first | rw [put_n (by omega)] | rw [put_i (by omega)]))) (fun kz _ _ => by first | rfl | (repeat (first | rw [put_n (by omega)] | rw [put_i (by omega)]))), ⟨by simp [put, up2, t1], by simp [put, up2, t2], t3, by simp [put, up2, t4], by simp [put, up2, t5], by simp [put, up2, t6], by simp [put, up2, t7], by simp [put, up2, t8], by simpa [put, up2] using tB1, by simpa [put, up2] using tB2, by simpa [put, up2] using tB3, by simpa [put, up2] using t9, ?_⟩, RD_cong hD0 (by first | rfl | (repeat (first | rw [put_n (by omega)] | rw [put_i (by omega)]))) (by first | rfl | (repeat (first | rw [put_n (by omega)] | rw [put_i (by omega)]))) (by first | rfl | (repeat (first | rw [put_n (by omega)] | rw [put_i (by omega)]))) (by first | rfl | (repeat (first | rw [put_n (by omega)] | rw [put_i (by omega)]))) (fun kz _ _ => by first | rfl | (repeat (first | rw [put_n (by omega)] | rw [put_i (by omega)]))) (fun kz _ _ => by first | rfl | (repeat (first | rw [put_n (by omega)] | rw [put_i (by omega)]))), ⟨by simp [put, up2, m1], by simp [put, up2, m2], by simp [put, up2, m3], by simp [put, up2, m4], by simp [put, up2, m5], by simp [put, up2, m6], by simpa [put, up2] using mE⟩, RS_cong hS (fun kz _ => by first | rfl | (repeat (first | rw [put_n (by omega)] | rw [put_i (by omega)]))) (fun kz _ _ => by first | rfl | (repeat (first | rw [put_n (by omega)] | rw [put_i (by omega)]))), (by simp [put, up2, upd, hf])⟩
      intro tz htz
      by_cases e : tz = t9'
      · subst e; simp [put, up2, upd]
      · simpa [put, up2, upd, e] using t10 tz htz
theorem appH_n {h : Hp} {l j : Nat} {wv : Int64} (h1 : j ≠ 4) (h2 : j ≠ 28) : ∀ i, appH h l wv i j = h j
  | 0 => rfl
  | i + 1 => by rw [appH, put_n h1, put_n h2]; exact appH_n h1 h2 i
theorem fdY_n {h : Hp} {l j : Nat} {wv : Int64} (h1 : j ≠ 15) : ∀ i, fdY h l wv i j = h j
  | 0 => rfl
  | i + 1 => by rw [fdY, put_n h1]; exact fdY_n h1 i
theorem app_fd {h g : Hp} {l : Nat} {wv : Int64} (e : g 15 = h 28) : ∀ i, i ≤ 8 → fdY g l wv i 15 = appH h l wv i 28
  | 0, _ => e
  | i + 1, hi => by
    rw [fdY, appH, put_k, put_n (by decide), put_k, app_fd e i (by omega), by_eq wv (by omega)]
theorem app_bd {h : Hp} {l : Nat} {wv : Int64} (hb : Bd (h 28) 256) : ∀ i, Bd (appH h l wv i 28) 256
  | 0 => hb
  | i + 1 => by
    rw [appH, put_n (by decide), put_k]
    obtain ⟨m, hm, e⟩ := by_lt wv i
    exact Bd_upd (app_bd hb i) hm e
set_option maxHeartbeats 4000000 in
theorem op_feed {E E2 : Ev} {h g : Hp} (hR : Rel h g) (wv : Int64) (nn : Int32) : OP yX8_feed cX8_feed 4 yX9_feed cX9_feed 5 E E2 [.long wv, .int nn] h g := by
  have hR0 := hR
  obtain ⟨nA, nT, nL, nR, hA, hT, hD, hM, hS, hf⟩ := hR
  have hA0 := hA
  have hT0 := hT
  have hD0 := hD
  have hM0 := hM
  obtain ⟨a1, a2, a3, a4, a5, a6, a7, a8, a9, a10, a11, aB⟩ := hA
  obtain ⟨t1, t2, t3, t4, t5, t6, t7, t8, tB1, tB2, tB3, t9, t10⟩ := hT
  obtain ⟨d1, d2, d3, d4, d5, d6, d7, d8, dV, d9⟩ := hD
  obtain ⟨m1, m2, m3, m4, m5, m6, mE⟩ := hM
  have e01 : g 0 1 = h 1 8 := a2.trans a1.symm
  have e010 : g 0 10 = h 2 6 := t2.trans t1.symm
  have e017 : g 0 17 = h 4 1 := d2.trans d1.symm
  have e019 : g 0 19 = h 5 4 := d7.trans d6.symm
  have e00 : g 0 0 = h 0 11 := hf.symm
  have aBY : AB (g 1) (g 2) (g 3) (g 4) (g 5) (g 7) (g 8) := by rw [a4, a5, a6, a7, a8, a10, a11]; exact aB
  have t40 : nT ≤ 40 := Nat.le_trans t3 a3
  have tB1Y : Bd (g 9) 40 := by rw [t4]; exact tB1
  have tB2Y : Bd (g 10) 2 := by rw [t5]; exact tB2
  have tB3Y : Bd (g 13) 6 := by rw [t8]; exact tB3
  have dY : TVY (g 16) nR := by
    intro r hr
    obtain ⟨q1, q2, q3, q4, q5⟩ := d9 r hr
    rw [← q1, ← q2, show d1Y (g 16) r = h 30 r from q3.symm, show d2Y (g 16) r = h 31 r from q4.symm, show d3Y (g 16) r = h 32 r from q5.symm]
    exact dV r hr
  refine OP_of (k_X8_feed (by decide) d1 d3) (k_X9_feed (by decide) d2 d3) rfl (Rel_if Iff.rfl (fun z1 => Rel_if Iff.rfl (fun z2 => ?_) (fun _ => Rel_fi hR0)) (fun _ => Rel_fi hR0))
  obtain ⟨n9, hn1, hn8, rfl⟩ := inB_18 z1
  rw [show tn (nI n9) = n9 from nI_clamp (by omega)] at z2 ⊢
  refine ⟨nA, nT, nL + n9, nR, RA_cong hA0 (by rw [appH_n (by decide) (by decide)]) (by rw [put_i (by decide), fdY_n (by decide)]) (fun kz h1 h2 => appH_n (by omega) (by omega) _) (fun kz h1 h2 => by rw [put_n (by omega)]; exact fdY_n (by omega) _), RT_cong hT0 (by rw [appH_n (by decide) (by decide)]) (by rw [put_i (by decide), fdY_n (by decide)]) (fun kz h1 h2 => appH_n (by omega) (by omega) _) (fun kz h1 h2 => by rw [put_n (by omega)]; exact fdY_n (by omega) _), ?_, RM_cong hM0 (fun kz hkz => appH_n (by omega) (by omega) _) (fun kz h1 h2 => by rw [put_n (by omega)]; exact fdY_n (by omega) _), RS_cong hS (fun kz h1 => appH_n (by omega) (by omega) _) (fun kz h1 h2 => by rw [put_n (by omega)]; exact fdY_n (by omega) _), by rw [appH_n (by decide) (by decide), put_i (by decide), fdY_n (by decide)]; exact hf⟩
  have q29 : appH h nL wv n9 29 = h 29 := appH_n (by decide) (by decide) _
  have q30 : appH h nL wv n9 30 = h 30 := appH_n (by decide) (by decide) _
  have q31 : appH h nL wv n9 31 = h 31 := appH_n (by decide) (by decide) _
  have q32 : appH h nL wv n9 32 = h 32 := appH_n (by decide) (by decide) _
  have q5 : appH h nL wv n9 5 = h 5 := appH_n (by decide) (by decide) _
  have egv : gvX (appH h nL wv n9) = gvX h := by funext r; show decide (appH h nL wv n9 29 r = 97) = _; rw [q29]
  have esd : sdX (appH h nL wv n9) = sdX h := by funext r; show decide (appH h nL wv n9 29 r = 115) = _; rw [q29]
  refine ⟨appH_len d1 n9, put_s, z2, by rw [put_n (by decide)]; exact app_fd d4 n9 hn8, app_bd d5 n9, by rw [q5]; exact d6, by rw [put_i (by decide), fdY_n (by decide)]; exact d7, d8, ?_, ?_⟩
  · rw [TVX, egv, esd, q30, q31, q32]; exact dV
  · rw [put_n (by decide), fdY_n (by decide), egv, esd, q30, q31, q32]; exact d9
