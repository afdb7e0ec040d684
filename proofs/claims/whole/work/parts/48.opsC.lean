theorem Rel_S {h h2 g g2 : Hp} (hR : Rel h g) (hS : RS h2 g2) (ek : ∀ k, k < 43 → h2 k = h k) (fk : ∀ k, k < 23 → g2 k = g k) : Rel h2 g2 := by
  obtain ⟨nA, nT, nL, nR, hA, hT, hD, hM, -, hf⟩ := hR
  refine ⟨nA, nT, nL, nR, RA_cong hA ?_ ?_ (fun k _ _ => ek k (by omega)) (fun k _ _ => fk k (by omega)), RT_cong hT ?_ ?_ (fun k _ _ => ek k (by omega)) (fun k _ _ => fk k (by omega)), RD_cong hD ?_ ?_ ?_ ?_ (fun k _ _ => ek k (by omega)) (fun k _ _ => fk k (by omega)), RM_cong hM (fun k _ => ek k (by omega)) (fun k _ _ => fk k (by omega)), hS, ?_⟩
  · rw [ek 1 (by omega)]
  · rw [fk 0 (by omega)]
  · rw [ek 2 (by omega)]
  · rw [fk 0 (by omega)]
  · rw [ek 4 (by omega)]
  · rw [ek 5 (by omega)]
  · rw [fk 0 (by omega)]
  · rw [fk 0 (by omega)]
  · rw [ek 0 (by omega), fk 0 (by omega)]; exact hf
theorem zrH_0 {h : Hp} {j : Nat} : ∀ m i, i < m → zrH h j m (47 + j) i = 0
  | 0, i, hi => absurd hi (Nat.not_lt_zero _)
  | m + 1, i, hi => by
    rw [zrH]
    by_cases e : i = m
    · subst e; rw [put_s]
    · rw [put_i e]; exact zrH_0 m i (by omega)
theorem zrY_n {h : Hp} {j k : Nat} (hk : k ≠ 25) : ∀ i, zrY h j i k = h k
  | 0 => rfl
  | i + 1 => by rw [zrY, put_n hk]; exact zrY_n hk i
theorem zrY_0 {h : Hp} {j : Nat} : ∀ m i, i < m → zrY h j m 25 (12 * j + i) = 0
  | 0, i, hi => absurd hi (Nat.not_lt_zero _)
  | m + 1, i, hi => by
    rw [zrY]
    by_cases e : i = m
    · subst e; rw [put_s]
    · rw [put_i (by omega)]; exact zrY_0 m i (by omega)
theorem zrY_o {h : Hp} {j x : Nat} : ∀ m, (x < 12 * j ∨ 12 * j + m ≤ x) → zrY h j m 25 x = h 25 x
  | 0, _ => rfl
  | m + 1, hx => by rw [zrY, put_i (by omega)]; exact zrY_o m (by omega)
theorem RS_sheet {h g : Hp} (hS : RS h g) {j : Nat} (hj : j < 4) {b : Int32} {n : Nat} (hn : n ≤ 12) : RS (bgH h j b (nI n)) (bgY g j b (nI n)) := by
  intro i hi
  obtain ⟨q1, q2, q3, q4⟩ := hS i hi
  by_cases e : i = j
  · subst e
    have x1 : bgH h i b (nI n) (43 + i) 1 = b := by rw [bgH, zrH_n (by omega), put_i (by decide), put_s]
    have x2 : bgH h i b (nI n) (43 + i) 2 = (if b = 0 then 0 else nI n) := by rw [bgH, zrH_n (by omega), put_s]
    by_cases eb : b = 0
    · have y1 : bgY g i b (nI n) 23 i = 0 := by rw [bgY, if_pos eb, put_n (by decide), put_s]
      have y2 : bgY g i b (nI n) 24 i = 0 := by rw [bgY, if_pos eb, put_s]
      rw [x1, x2, y1, y2, if_pos eb]
      exact ⟨eb, rfl, ⟨0, by omega, rfl⟩, fun z => absurd eb z⟩
    · have y1 : bgY g i b (nI n) 23 i = b := by rw [bgY, if_neg eb, zrY_n (by decide), put_n (by decide), put_s]
      have y2 : bgY g i b (nI n) 24 i = nI n := by rw [bgY, if_neg eb, zrY_n (by decide), put_s]
      rw [x1, x2, y1, y2, if_neg eb]
      refine ⟨rfl, rfl, ⟨n, hn, rfl⟩, fun _ k hk => ?_⟩
      rw [bgH, zrH_0 12 k hk, bgY, if_neg eb, zrY_0 12 k hk]
  · have x1 : bgH h j b (nI n) (43 + i) = h (43 + i) := by rw [bgH, zrH_n (by omega), put_n (by omega), put_n (by omega)]
    have x2 : bgH h j b (nI n) (47 + i) = h (47 + i) := by rw [bgH, zrH_n (by omega), put_n (by omega), put_n (by omega)]
    rw [x1, x2]
    have y1 : bgY g j b (nI n) 23 i = g 23 i := by
      rw [bgY]
      by_cases eb : b = 0
      · rw [if_pos eb, put_n (by decide), put_i e]
      · rw [if_neg eb, zrY_n (by decide), put_n (by decide), put_i e]
    have y2 : bgY g j b (nI n) 24 i = g 24 i := by
      rw [bgY]
      by_cases eb : b = 0
      · rw [if_pos eb, put_i e, put_n (by decide)]
      · rw [if_neg eb, zrY_n (by decide), put_i e, put_n (by decide)]
    have y3 : ∀ k, k < 12 → bgY g j b (nI n) 25 (12 * i + k) = g 25 (12 * i + k) := by
      intro k hk
      rw [bgY]
      by_cases eb : b = 0
      · rw [if_pos eb, put_n (by decide), put_n (by decide)]
      · rw [if_neg eb, zrY_o 12 (by omega), put_n (by decide), put_n (by decide)]
    rw [y1, y2]
    exact ⟨q1, q2, q3, fun z k hk => by rw [y3 k hk]; exact q4 z k hk⟩
theorem bgH_n {h : Hp} {j k : Nat} {b n : Int32} (hk : k < 43) : bgH h j b n k = h k := by rw [bgH, zrH_n (by omega), put_n (by omega), put_n (by omega)]
theorem bgY_n {h : Hp} {j k : Nat} {b n : Int32} (hk : k < 23) : bgY h j b n k = h k := by
  rw [bgY]
  by_cases eb : b = 0
  · rw [if_pos eb, put_n (by omega), put_n (by omega)]
  · rw [if_neg eb, zrY_n (by omega), put_n (by omega), put_n (by omega)]

set_option maxHeartbeats 4000000 in
theorem op_sheet {E E2 : Ev} {h g : Hp} (hR : Rel h g) (s : Int32) (b : Int32) (n : Int32) : OP yX8_sheet cX8_sheet 4 yX9_sheet cX9_sheet 5 E E2 [.int s, .int b, .int n] h g := by
  have hR0 := hR
  obtain ⟨nA, nT, nL, nR, hA, hT, hD, hM, hS, hf⟩ := hR
  have hA0 := hA
  have hT0 := hT
  have hD0 := hD
  have hM0 := hM
  obtain ⟨a1, a2, a3, a4, a5, a6, a7, a8, a9, a10, a11, aB⟩ := hA
  obtain ⟨t1, t2, t3, t4, t5, t6, t7, t8, tB1, tB2, tB3, t9, t10⟩ := hT
  obtain ⟨d1, d2, d3, d4, d5, d6, d7, d8, dV, d9⟩ := hD
  obtain ⟨m1, m2, m3, m4, m5, m6, mE⟩ := hM
  have e01 : g 0 1 = h 1 8 := a2.trans a1.symm
  have e010 : g 0 10 = h 2 6 := t2.trans t1.symm
  have e017 : g 0 17 = h 4 1 := d2.trans d1.symm
  have e019 : g 0 19 = h 5 4 := d7.trans d6.symm
  have e00 : g 0 0 = h 0 11 := hf.symm
  have aBY : AB (g 1) (g 2) (g 3) (g 4) (g 5) (g 7) (g 8) := by rw [a4, a5, a6, a7, a8, a10, a11]; exact aB
  have t40 : nT ≤ 40 := Nat.le_trans t3 a3
  have tB1Y : Bd (g 9) 40 := by rw [t4]; exact tB1
  have tB2Y : Bd (g 10) 2 := by rw [t5]; exact tB2
  have tB3Y : Bd (g 13) 6 := by rw [t8]; exact tB3
  have dY : TVY (g 16) nR := by
    intro r hr
    obtain ⟨q1, q2, q3, q4, q5⟩ := d9 r hr
    rw [← q1, ← q2, show d1Y (g 16) r = h 30 r from q3.symm, show d2Y (g 16) r = h 31 r from q4.symm, show d3Y (g 16) r = h 32 r from q5.symm]
    exact dV r hr
  refine OP_of (k_X8_sheet (by decide)) (k_X9_sheet (by decide)) rfl (Rel_if Iff.rfl (fun z1 => Rel_if Iff.rfl (fun z2 => Rel_if Iff.rfl (fun z3 => ?_) (fun _ => Rel_fi hR0)) (fun _ => Rel_fi hR0)) (fun _ => Rel_fi hR0))
  rw [okSh, Bool.and_eq_true] at z1
  obtain ⟨j9, hj9, rfl⟩ := inB_ex 3 z1.1
  obtain ⟨n9, hn9, rfl⟩ := inB_ex 12 (inB_iff.mpr ⟨z2, z3⟩)
  rw [show tn (nI j9) = j9 from nI_clamp (by omega)]
  exact Rel_S hR0 (RS_sheet hS hj9 (by omega)) (fun k hk => bgH_n hk) (fun k hk => bgY_n hk)
set_option maxHeartbeats 4000000 in
theorem op_write {E E2 : Ev} {h g : Hp} (hR : Rel h g) (s : Int32) (i : Int32) (v : Int32) : OP yX8_write cX8_write 4 yX9_write cX9_write 5 E E2 [.int s, .int i, .int v] h g := by
  have hR0 := hR
  obtain ⟨nA, nT, nL, nR, hA, hT, hD, hM, hS, hf⟩ := hR
  have hA0 := hA
  have hT0 := hT
  have hD0 := hD
  have hM0 := hM
  obtain ⟨a1, a2, a3, a4, a5, a6, a7, a8, a9, a10, a11, aB⟩ := hA
  obtain ⟨t1, t2, t3, t4, t5, t6, t7, t8, tB1, tB2, tB3, t9, t10⟩ := hT
  obtain ⟨d1, d2, d3, d4, d5, d6, d7, d8, dV, d9⟩ := hD
  obtain ⟨m1, m2, m3, m4, m5, m6, mE⟩ := hM
  have e01 : g 0 1 = h 1 8 := a2.trans a1.symm
  have e010 : g 0 10 = h 2 6 := t2.trans t1.symm
  have e017 : g 0 17 = h 4 1 := d2.trans d1.symm
  have e019 : g 0 19 = h 5 4 := d7.trans d6.symm
  have e00 : g 0 0 = h 0 11 := hf.symm
  have aBY : AB (g 1) (g 2) (g 3) (g 4) (g 5) (g 7) (g 8) := by rw [a4, a5, a6, a7, a8, a10, a11]; exact aB
  have t40 : nT ≤ 40 := Nat.le_trans t3 a3
  have tB1Y : Bd (g 9) 40 := by rw [t4]; exact tB1
  have tB2Y : Bd (g 10) 2 := by rw [t5]; exact tB2
  have tB3Y : Bd (g 13) 6 := by rw [t8]; exact tB3
  have dY : TVY (g 16) nR := by
    intro r hr
    obtain ⟨q1, q2, q3, q4, q5⟩ := d9 r hr
    rw [← q1, ← q2, show d1Y (g 16) r = h 30 r from q3.symm, show d2Y (g 16) r = h 31 r from q4.symm, show d3Y (g 16) r = h 32 r from q5.symm]
    exact dV r hr
  have szX : ∀ j, j < 4 → ∃ n, n ≤ 12 ∧ h (43 + j) 2 = nI n := fun j hj => (hS j hj).2.2.1
  have szY : ∀ j, j < 4 → ∃ n, n ≤ 12 ∧ g 24 j = nI n := fun j hj => by rw [← (hS j hj).2.1]; exact szX j hj
  by_cases z1 : inB s 0 3 = true
  · obtain ⟨j9, hj9, rfl⟩ := inB_ex 3 z1
    have kX := k_X8_write (E := E) (s := nI j9) (i := i) (v := v) (d := 40) (by decide) szX
    have kY := k_X9_write (E := E2) (s := nI j9) (i := i) (v := v) (d := 40) (by decide) szY
    rw [show tn (nI j9) = j9 from nI_clamp (by omega), if_pos z1, if_pos z1] at kX kY
    obtain ⟨q1, q2, q3, q4⟩ := hS j9 hj9
    rw [← q1, ← q2] at kY
    by_cases z2 : h (43 + j9) 1 = 0
    · rw [if_pos z2, if_pos z2] at kX kY
      exact OP_of kX kY rfl (Rel_fi hR0)
    · rw [if_neg z2, if_neg z2] at kX kY
      by_cases z3 : inB i 0 (h (43 + j9) 2 - 1) = true
      · rw [if_pos z3, if_pos z3] at kX kY
        obtain ⟨n9, hn9, en9⟩ := q3
        obtain ⟨i9, hi9, rfl⟩ := inB_ix en9 z3 (by omega)
        rw [show tn (nI i9) = i9 from nI_clamp (by omega)] at kX kY
        refine OP_of kX kY (q4 z2 i9 (by omega)).symm (Rel_S hR0 ?_ (fun k hk => put_n (by omega)) (fun k hk => put_n (by omega)))
        intro jz hjz
        obtain ⟨p1, p2, p3, p4⟩ := hS jz hjz
        rw [put_n (by omega), put_n (by omega), put_n (by omega)]
        refine ⟨p1, p2, p3, fun zb k hk => ?_⟩
        by_cases e : jz = j9
        · subst e
          by_cases e2 : k = i9
          · subst e2; rw [put_s, put_s]
          · rw [put_i e2, put_i (by omega)]; exact p4 zb k hk
        · rw [put_n (by omega), put_i (by omega)]; exact p4 zb k hk
      · rw [if_neg z3, if_neg z3] at kX kY
        exact OP_of kX kY rfl (Rel_fi hR0)
  · have kX := k_X8_write (E := E) (s := s) (i := i) (v := v) (d := 40) (by decide) szX
    have kY := k_X9_write (E := E2) (s := s) (i := i) (v := v) (d := 40) (by decide) szY
    rw [if_neg z1, if_neg z1] at kX kY
    exact OP_of kX kY rfl (Rel_fi hR0)
theorem cp1_32 {h : Hp} {b : Nat} : ∀ c k, k < c → cp1 h b c 32 k = h 25 (b + k)
  | 0, k, hk => absurd hk (Nat.not_lt_zero _)
  | c + 1, k, hk => by
    rw [cp1]
    by_cases e : k = c
    · subst e; rw [put_s]
    · rw [put_i e]; exact cp1_32 c k (by omega)
theorem cp2_in {h : Hp} {b : Nat} : ∀ c k, k < c → cp2 h b c 25 (b + k) = h 32 k
  | 0, k, hk => absurd hk (Nat.not_lt_zero _)
  | c + 1, k, hk => by
    rw [cp2]
    by_cases e : k = c
    · subst e; rw [put_s]
    · rw [put_i (by omega)]; exact cp2_in c k (by omega)
theorem cp2_out {h : Hp} {b x : Nat} : ∀ c, (x < b ∨ b + c ≤ x) → cp2 h b c 25 x = h 25 x
  | 0, _ => rfl
  | c + 1, hx => by rw [cp2, put_i (by omega)]; exact cp2_out c (by omega)
theorem RS_copy {h g : Hp} (hS : RS h g) {js jt fa gb nc : Nat} (hjs : js < 4) (hjt : jt < 4) (hf : fa + nc ≤ 12) (hg : gb + nc ≤ 12) (hb : ¬ h (43 + js) 1 = 0) : RS (up2 h (47 + jt) (va_cpy (h (47 + js)) (h (47 + jt)) fa gb nc)) (cp2 (cp1 g (12 * js + fa) nc) (12 * jt + gb) nc) := by
  intro i hi
  obtain ⟨p1, p2, p3, p4⟩ := hS i hi
  obtain ⟨s1, s2, s3, s4⟩ := hS js hjs
  rw [up2_n (by omega), cp2_n (by decide), cp2_n (by decide), cp1_n (by decide), cp1_n (by decide)]
  refine ⟨p1, p2, p3, fun zb k hk => ?_⟩
  by_cases e : i = jt
  · subst e
    rw [up2_s]
    by_cases e2 : gb ≤ k ∧ k < gb + nc
    · rw [pk_cpy_in e2.1 e2.2, s4 hb _ (by omega)]
      have := cp2_in (h := cp1 g (12 * js + fa) nc) (b := 12 * i + gb) nc (k - gb) (by omega)
      rw [show 12 * i + gb + (k - gb) = 12 * i + k by omega] at this
      rw [this, cp1_32 nc _ (by omega), show 12 * js + fa + (k - gb) = 12 * js + (fa + (k - gb)) by omega]
    · rw [pk_cpy_out (by omega), cp2_out nc (by omega), cp1_n (by decide)]
      exact p4 zb k hk
  · rw [up2_n (by omega), cp2_out nc (by omega), cp1_n (by decide)]
    exact p4 zb k hk
set_option maxHeartbeats 4000000 in
theorem op_copy {E E2 : Ev} {h g : Hp} (hR : Rel h g) (s : Int32) (f : Int32) (t : Int32) (g0 : Int32) (n : Int32) : OP yX8_copy cX8_copy 8 yX9_copy cX9_copy 7 E E2 [.int s, .int f, .int t, .int g0, .int n] h g := by
  have hR0 := hR
  obtain ⟨nA, nT, nL, nR, hA, hT, hD, hM, hS, hf⟩ := hR
  have hA0 := hA
  have hT0 := hT
  have hD0 := hD
  have hM0 := hM
  obtain ⟨a1, a2, a3, a4, a5, a6, a7, a8, a9, a10, a11, aB⟩ := hA
  obtain ⟨t1, t2, t3, t4, t5, t6, t7, t8, tB1, tB2, tB3, t9, t10⟩ := hT
  obtain ⟨d1, d2, d3, d4, d5, d6, d7, d8, dV, d9⟩ := hD
  obtain ⟨m1, m2, m3, m4, m5, m6, mE⟩ := hM
  have e01 : g 0 1 = h 1 8 := a2.trans a1.symm
  have e010 : g 0 10 = h 2 6 := t2.trans t1.symm
  have e017 : g 0 17 = h 4 1 := d2.trans d1.symm
  have e019 : g 0 19 = h 5 4 := d7.trans d6.symm
  have e00 : g 0 0 = h 0 11 := hf.symm
  have aBY : AB (g 1) (g 2) (g 3) (g 4) (g 5) (g 7) (g 8) := by rw [a4, a5, a6, a7, a8, a10, a11]; exact aB
  have t40 : nT ≤ 40 := Nat.le_trans t3 a3
  have tB1Y : Bd (g 9) 40 := by rw [t4]; exact tB1
  have tB2Y : Bd (g 10) 2 := by rw [t5]; exact tB2
  have tB3Y : Bd (g 13) 6 := by rw [t8]; exact tB3
  have dY : TVY (g 16) nR := by
    intro r hr
    obtain ⟨q1, q2, q3, q4, q5⟩ := d9 r hr
    rw [← q1, ← q2, show d1Y (g 16) r = h 30 r from q3.symm, show d2Y (g 16) r = h 31 r from q4.symm, show d3Y (g 16) r = h 32 r from q5.symm]
    exact dV r hr
  have szX : ∀ j, j < 4 → ∃ n, n ≤ 12 ∧ h (43 + j) 2 = nI n := fun j hj => (hS j hj).2.2.1
  have szY : ∀ j, j < 4 → ∃ n, n ≤ 12 ∧ g 24 j = nI n := fun j hj => by rw [← (hS j hj).2.1]; exact szX j hj
  have kX := k_X8_copy (E := E) (s := s) (f := f) (t := t) (g := g0) (n := n) (d := 40) (by decide) szX
  have kY := k_X9_copy (E := E2) (s := s) (f := f) (t := t) (g := g0) (n := n) (d := 40) (by decide) szY
  by_cases z1 : okCp s t = true
  · rw [if_pos z1, if_pos z1] at kX kY
    rw [okCp, Bool.and_eq_true] at z1
    obtain ⟨js, hjs, rfl⟩ := inB_ex 3 z1.1
    obtain ⟨jt, hjt, rfl⟩ := inB_ex 3 z1.2
    rw [show tn (nI js) = js from nI_clamp (by omega), show tn (nI jt) = jt from nI_clamp (by omega)] at kX kY
    obtain ⟨q1, q2, q3, q4⟩ := hS js hjs
    obtain ⟨r1, r2, r3, r4⟩ := hS jt hjt
    rw [← q1, ← q2, ← r1, ← r2] at kY
    by_cases z2 : okC3 (h (43 + js) 1) (h (43 + jt) 1) = true
    · rw [if_pos z2, if_pos z2] at kX kY
      by_cases z3 : h (43 + js) 1 = h (43 + jt) 1
      · rw [if_pos z3, if_pos z3] at kX kY
        by_cases z4 : (hrB (h (43 + js) 2) f n && hrB (h (43 + jt) 2) g0 n) = true
        · rw [if_pos z4, if_pos z4] at kX kY
          rw [Bool.and_eq_true] at z4
          obtain ⟨ns, hns, ens⟩ := q3
          obtain ⟨nt, hnt, ent⟩ := r3
          obtain ⟨fa, nc, hfn, rfl, rfl⟩ := hrB_ex ens hns z4.1
          obtain ⟨gb, nc2, hgn, rfl, en2⟩ := hrB_ex ent hnt z4.2
          obtain rfl : nc = nc2 := (nI_eq (by omega) (by omega)).mp en2
          rw [show tn (nI fa) = fa from nI_clamp (by omega), show tn (nI gb) = gb from nI_clamp (by omega), show tn (nI nc) = nc from nI_clamp (by omega)] at kX kY
          have hb : ¬ h (43 + js) 1 = 0 := by
            intro z
            rw [okC3, z] at z2
            simp at z2
          refine OP_of kX kY rfl (Rel_S hR0 (RS_copy hS hjs hjt (by omega) (by omega) hb) (fun k hk => up2_n (by omega)) (fun k hk => by rw [cp2_n (by omega), cp1_n (by omega)]))
        · rw [if_neg z4, if_neg z4] at kX kY
          exact OP_of kX kY rfl (Rel_fi hR0)
      · rw [if_neg z3, if_neg z3] at kX kY
        exact OP_of kX kY rfl (Rel_fi hR0)
    · rw [if_neg z2, if_neg z2] at kX kY
      exact OP_of kX kY rfl (Rel_fi hR0)
  · rw [if_neg z1, if_neg z1] at kX kY
    exact OP_of kX kY rfl (Rel_fi hR0)
def RelN (h g : Hp) (nA nT nL nR : Nat) : Prop := RA h g nA ∧ RT h g nA nT ∧ RD h g nL nR ∧ RM h g ∧ RS h g ∧ h 0 11 = g 0 0
theorem come_1 {g : Hp} {n nT T : Nat} {k x y b t : Int32} : comeY g n nT k x y b t T 0 1 = nI (n + 1) := by rw [comeY, put_s]
theorem come_0 {g : Hp} {n nT T i : Nat} {k x y b t : Int32} (h1 : i ≠ 1) (h2 : i ≠ 10) : comeY g n nT k x y b t T 0 i = g 0 i := by
  rw [comeY, put_i h1, put_n (by decide)]
  by_cases e : T < nT
  · rw [if_pos e]; simp [g1Y, put, up2]
  · rw [if_neg e, g2Y, put_i h2]; simp [g1Y, put, up2]
theorem join_at {h : Hp} {n nT T : Nat} {k x y b t : Int32} : (joinH h n nT k x y b t T 12 = upd (h 12) n k ∧ joinH h n nT k x y b t T 13 = upd (h 13) n x ∧ joinH h n nT k x y b t T 14 = upd (h 14) n y ∧ joinH h n nT k x y b t T 15 = upd (h 15) n b ∧ joinH h n nT k x y b t T 16 = upd (h 16) n t ∧ joinH h n nT k x y b t T 17 = upd (h 17) n (nI T)) ∧ joinH h n nT k x y b t T 1 8 = nI (n + 1) ∧ joinH h n nT k x y b t T 2 6 = (if T < nT then h 2 6 else nI (nT + 1)) ∧ joinH h n nT k x y b t T 20 = (if T < nT then h 20 else upd (h 20) nT (nI n)) ∧ joinH h n nT k x y b t T 21 = (if T < nT then h 21 else upd (h 21) nT 1) ∧ joinH h n nT k x y b t T 23 = (if T < nT then h 23 else upd (h 23) nT (-1)) := by
  by_cases e : T < nT
  · simp only [joinH, if_pos e]
    simp [addH, put, up2, upd_upd]
    simp [upd]
  · simp only [joinH, if_neg e]
    simp [addH, begH, put, up2, upd_upd]
    simp [upd]
theorem come_at {h : Hp} {n nT T : Nat} {k x y b t : Int32} : (comeY h n nT k x y b t T 1 = upd (h 1) n k ∧ comeY h n nT k x y b t T 2 = upd (h 2) n x ∧ comeY h n nT k x y b t T 3 = upd (h 3) n y ∧ comeY h n nT k x y b t T 4 = upd (h 4) n b ∧ comeY h n nT k x y b t T 5 = upd (h 5) n t ∧ comeY h n nT k x y b t T 6 = upd (h 6) n (nI T)) ∧ comeY h n nT k x y b t T 0 10 = (if T < nT then h 0 10 else nI (nT + 1)) ∧ comeY h n nT k x y b t T 9 = (if T < nT then h 9 else upd (h 9) nT (nI n)) ∧ comeY h n nT k x y b t T 10 = (if T < nT then h 10 else upd (h 10) nT 1) ∧ comeY h n nT k x y b t T 11 = (if T < nT then h 11 else upd (h 11) nT 0) ∧ comeY h n nT k x y b t T 12 = (if T < nT then h 12 else upd (h 12) nT (-1)) ∧ comeY h n nT k x y b t T 14 = (if T < nT then h 14 else upd (h 14) nT 0) := by
  by_cases e : T < nT
  · simp only [comeY, if_pos e]
    simp [g1Y, put, up2]
    simp [upd]
  · simp only [comeY, if_neg e]
    simp [g1Y, g2Y, put, up2]
    simp [upd]
