/-! a crew's order, the reference's side -/
theorem any1 {p : Nat → Nat} {k9 i : Nat} (h : anyP p k9 i = true) : (1 : Int32) = bI (anyP p (k9 + 1) i) := by rw [anyP, h]; rfl
theorem any2 {p : Nat → Nat} {k9 i : Nat} {v : Int32} (hv : v = nI (p k9)) (hp : p k9 < 7) (hi : i < 7) (h : v = nI i) : (1 : Int32) = bI (anyP p (k9 + 1) i) := by
  have e : p k9 = i := (nI_eq (by omega) (by omega)).mp (hv.symm.trans h)
  rw [anyP, decide_eq_true e, Bool.or_true]; rfl
theorem any0 {p : Nat → Nat} {k9 i : Nat} {v : Int32} (hv : v = nI (p k9)) (h0 : anyP p k9 i = false) (h : ¬ v = nI i) : (0 : Int32) = bI (anyP p (k9 + 1) i) := by
  have e : ¬ p k9 = i := fun z => h (by rw [hv, z])
  rw [anyP, h0, decide_eq_false e]; rfl
set_option maxHeartbeats 4000000 in
set_option maxRecDepth 100000 in
theorem k_X9_isChosen {d : Nat} {E : Ev} {dp i : Nat} {p : Nat → Nat} {h : Hp} (hd : 0 ≤ d) (hdp : dp ≤ 6) (hi : i < 7) (hp : ∀ j9, j9 < dp → h 30 j9 = nI (p j9)) (hp7 : ∀ j9, j9 < dp → p j9 < 7) : Cl d yX9_isChosen cX9_isChosen 5 (some .boolean) E (wdY E) [.ref (E.2.2.1 0), .int (nI dp), .int (nI i)] h (Rt (some (.int (bI (anyP p dp i)))) h) := by
  refine Cl_of [some (.ref (E.2.2.1 0)), some (.int (nI dp)), some (.int (nI i)), none, none] (by decide) rfl (Nat.le_of_ble_eq_true rfl) (fun K A X hQ => ?_)
  have L : ∀ (m k9 : Nat) , k9 + m = dp → GW K 5 E (wdY E) A 5 [some (.ref (E.2.2.1 0)), some (.int (nI dp)), some (.int (nI i)), some (.int (bI (anyP p k9 i))), some (.int (nI k9))] [] h := by
    intro m
    induction m with
    | zero =>
      intro k9  hm 
      refine P_iload4 X 7 dX9_isChosen_5 rfl ?_
      refine P_iload1 X 8 dX9_isChosen_7 rfl ?_
      refine P_icmp_ge X 38 11 dX9_isChosen_8 rfl rfl (fun b8 => ?_) (fun b8 => ?_)
      · obtain rfl : k9 = dp := by omega
        refine P_iload3 X 39 dX9_isChosen_38 rfl ?_
        exact P_zret X hQ dX9_isChosen_39 (bI_01 _) ⟨rfl, rfl⟩
      · exact (geN rfl b8 (by omega) (by omega)).elim
    | succ m ih =>
      intro k9  hm 
      refine P_iload4 X 7 dX9_isChosen_5 rfl ?_
      refine P_iload1 X 8 dX9_isChosen_7 rfl ?_
      refine P_icmp_ge X 38 11 dX9_isChosen_8 rfl rfl (fun b8 => ?_) (fun b8 => ?_)
      · exact (geY rfl b8 (by omega) (by omega)).elim
      · refine P_iload3 X 12 dX9_isChosen_11 rfl ?_
        refine P_bn X 26 15 dX9_isChosen_12 rfl rfl (fun b12 => ?_) (fun b12 => ?_)
        · refine P_iconst X (1) rfl 27 dX9_isChosen_26 rfl ?_
          refine P_goto X 31 dX9_isChosen_27 rfl ?_
          refine P_top (y := bI (anyP p (k9 + 1) i)) (by first | exact any1 b12 | exact any2 (hp k9 (by omega)) (hp7 k9 (by omega)) hi b23 | exact any0 (hp k9 (by omega)) b12 b23) ?_
          refine P_istore3 X 32 dX9_isChosen_31 rfl (by decide) rfl ?_
          refine P_iinc4 X (1) rfl 35 dX9_isChosen_32 rfl (by decide) rfl ?_
          refine P_goto X 5 dX9_isChosen_35 rfl ?_
          rw [nI_1]
          exact ih (k9 + 1) (by omega)
        · refine P_aload0 X 16 dX9_isChosen_15 rfl ?_
          refine gY_0_36 X 19 dX9_isChosen_16 rfl fl_X9_98 ?_
          refine P_iload4 X 21 dX9_isChosen_19 rfl ?_
          refine lY_30 X 22 dX9_isChosen_21 rfl rfl (by omega) ?_
          refine P_iload2 X 23 dX9_isChosen_22 rfl ?_
          refine P_icmp_ne X 30 26 dX9_isChosen_23 rfl rfl (fun b23 => ?_) (fun b23 => ?_)
          · refine P_iconst X (0) rfl 31 dX9_isChosen_30 rfl ?_
            refine P_top (y := bI (anyP p (k9 + 1) i)) (by first | exact any1 b12 | exact any2 (hp k9 (by omega)) (hp7 k9 (by omega)) hi b23 | exact any0 (hp k9 (by omega)) b12 b23) ?_
            refine P_istore3 X 32 dX9_isChosen_31 rfl (by decide) rfl ?_
            refine P_iinc4 X (1) rfl 35 dX9_isChosen_32 rfl (by decide) rfl ?_
            refine P_goto X 5 dX9_isChosen_35 rfl ?_
            rw [nI_1]
            exact ih (k9 + 1) (by omega)
          · refine P_iconst X (1) rfl 27 dX9_isChosen_26 rfl ?_
            refine P_goto X 31 dX9_isChosen_27 rfl ?_
            refine P_top (y := bI (anyP p (k9 + 1) i)) (by first | exact any1 b12 | exact any2 (hp k9 (by omega)) (hp7 k9 (by omega)) hi b23 | exact any0 (hp k9 (by omega)) b12 b23) ?_
            refine P_istore3 X 32 dX9_isChosen_31 rfl (by decide) rfl ?_
            refine P_iinc4 X (1) rfl 35 dX9_isChosen_32 rfl (by decide) rfl ?_
            refine P_goto X 5 dX9_isChosen_35 rfl ?_
            rw [nI_1]
            exact ih (k9 + 1) (by omega)
  refine P_iconst X (0) rfl 1 dX9_isChosen_0 rfl ?_
  refine P_istore3 X 2 dX9_isChosen_1 rfl (by decide) rfl ?_
  refine P_iconst X (0) rfl 3 dX9_isChosen_2 rfl ?_
  refine P_istore4 X 5 dX9_isChosen_3 rfl (by decide) rfl ?_
  exact L dp 0 (by omega)
/-- the members as the cells hold them, and the best so far -/
def MW (nm : Nat) (tt px py ef du : Nat → Nat) (rr : Nat) (g : Hp) : Prop := g 0 34 = nI nm ∧ g 0 19 = nI rr ∧ rr ≤ 12 ∧ Bd (g 9) 40 ∧ Bd (g 1) 5 ∧ ∀ i, i < nm → g 29 i = nI (tt i) ∧ tt i < 40 ∧ g 2 (tn (g 9 (tt i))) = nI (px i) ∧ g 3 (tn (g 9 (tt i))) = nI (py i) ∧ g 17 (tn (g 1 (tn (g 9 (tt i))))) = nI (ef i) ∧ ((prY g rr (tt i) = -1 ∧ du i = 1000000) ∨ (prY g rr (tt i) = nI (du i) ∧ du i < 1010))
def BY (nm : Nat) (g : Hp) (B : Bst) : Prop := (B.1 ≤ nm → g 0 38 = nI B.1 ∧ g 0 39 = nI B.2.1 ∧ ∀ j9, j9 < nm → g 31 j9 = nI (B.2.2 j9)) ∧ (¬ B.1 ≤ nm → g 0 38 = -1)
def FY (g g' : Hp) : Prop := (∀ j9, j9 ≠ 38 → j9 ≠ 39 → g' 0 j9 = g 0 j9) ∧ ∀ k9, k9 ≠ 0 → k9 ≠ 30 → k9 ≠ 31 → g' k9 = g k9
def TM (g g' : Hp) : Prop := (∀ j9, j9 ≠ 38 → j9 ≠ 39 → g' 0 j9 = g 0 j9) ∧ ∀ k9, k9 ≠ 0 → k9 ≠ 31 → g' k9 = g k9
theorem FY_refl {g : Hp} : FY g g := ⟨fun _ _ _ => rfl, fun _ _ _ _ => rfl⟩
theorem TM_refl {g : Hp} : TM g g := ⟨fun _ _ _ => rfl, fun _ _ _ => rfl⟩
theorem FY_put {g g1 : Hp} {i : Nat} {v : Int32} (a : FY g g1) : FY g (put g1 30 i v) := ⟨fun j9 z1 z2 => by rw [put_n (by decide)]; exact a.1 j9 z1 z2, fun k9 z1 z2 z3 => by rw [put_n z2]; exact a.2 k9 z1 z2 z3⟩
theorem FY_tm {g g1 g2 : Hp} (a : FY g g1) (b : TM g1 g2) : FY g g2 := ⟨fun j9 z1 z2 => (b.1 j9 z1 z2).trans (a.1 j9 z1 z2), fun k9 z1 z2 z3 => (b.2 k9 z1 z3).trans (a.2 k9 z1 z2 z3)⟩
theorem prY_eq {g g1 : Hp} {rr t : Nat} (e1 : g1 1 = g 1) (e5 : g1 5 = g 5) (e9 : g1 9 = g 9) (e16 : g1 16 = g 16) : prY g1 rr t = prY g rr t := by
  show prP (g1 1) (g1 5) (g1 9) (fun k => rowYf (g1 16) rr k) (d3Y (g1 16)) t = prP (g 1) (g 5) (g 9) (fun k => rowYf (g 16) rr k) (d3Y (g 16)) t
  rw [e1, e5, e9, e16]
theorem MW_fy {nm : Nat} {tt px py ef du : Nat → Nat} {rr : Nat} {g g1 : Hp} (hM : MW nm tt px py ef du rr g) (a : FY g g1) : MW nm tt px py ef du rr g1 := by
  obtain ⟨m1, m2, m3, m4, m5, m6⟩ := hM
  obtain ⟨a1, a2⟩ := a
  have e1 := a2 1 (by decide) (by decide) (by decide)
  have e2 := a2 2 (by decide) (by decide) (by decide)
  have e3 := a2 3 (by decide) (by decide) (by decide)
  have e5 := a2 5 (by decide) (by decide) (by decide)
  have e9 := a2 9 (by decide) (by decide) (by decide)
  have e16 := a2 16 (by decide) (by decide) (by decide)
  have e17 := a2 17 (by decide) (by decide) (by decide)
  have e29 := a2 29 (by decide) (by decide) (by decide)
  refine ⟨by rw [a1 34 (by decide) (by decide)]; exact m1, by rw [a1 19 (by decide) (by decide)]; exact m2, m3, by rw [e9]; exact m4, by rw [e1]; exact m5, fun i hi => ?_⟩
  rw [prY_eq e1 e5 e9 e16, e1, e2, e3, e9, e17, e29]
  exact m6 i hi
theorem BY_put {nm : Nat} {g : Hp} {B : Bst} {i : Nat} {v : Int32} (h : BY nm g B) : BY nm (put g 30 i v) B := by
  refine ⟨fun z => ?_, fun z => ?_⟩
  · rw [put_n (by decide), put_n (by decide)]
    exact h.1 z
  · rw [put_n (by decide)]
    exact h.2 z
theorem sQ_ok {N : Sst → Nat → Sst} {nm : Nat} (hO : OKN nm N) {s0 : Sst} {p : Nat → Nat} (h0 : s0.2.1 = 0) (h1 : s0.2.2 = 0) : ∀ {k9 : Nat}, (∀ j9, j9 < k9 → p j9 < nm) → (sQ N s0 p k9).2.1 ≤ 50 * k9 ∧ (sQ N s0 p k9).2.2 ≤ k9
  | 0, _ => ⟨by rw [sQ, h0]; exact Nat.zero_le _, by rw [sQ, h1]; exact Nat.zero_le _⟩
  | k9 + 1, h => by
    obtain ⟨z1, z2⟩ := sQ_ok hO h0 h1 (k9 := k9) (fun j9 hj => h j9 (by omega))
    obtain ⟨o1, o2⟩ := hO (sQ N s0 p k9) (p k9) (h k9 (by omega))
    rw [sQ]
    exact ⟨by omega, by omega⟩
theorem thenY {px py ef du : Nat → Nat} {dd nm i : Nat} {s : Sst} {e9 : Int32} (hW : WB px py ef du dd nm) (he : e9 = nI (ef i)) : nI s.2.1 + ((awy (nI (px s.1)) (nI (px i)) + awy (nI (py s.1)) (nI (py i))) / 8 + e9) = nI (Nx px py ef du dd s i).2.1 := by
  have h1 := hW.2.2.1
  have h2 := hW.2.2.2.1
  have h3 := dst_lt (h1 s.1) (h1 i)
  have h4 := dst_lt (h2 s.1) (h2 i)
  rw [awyD _ (h1 _) _ (h1 _), awyD _ (h2 _) _ (h2 _), nI_add, show (nI (dst (px s.1) (px i) + dst (py s.1) (py i)) / (8 : Int32)) = nI ((dst (px s.1) (px i) + dst (py s.1) (py i)) / 8) from pk_div (d := 8) (by omega) (by decide) (by decide), he, nI_add, nI_add, ← Nat.add_assoc]
  rfl
theorem brk_1 {px py ef du : Nat → Nat} {dd nm i dp : Nat} {s : Sst} {v : Int32} (hW : WB px py ef du dd nm) (hs : s.2.1 ≤ 50 * dp) (hdp : dp ≤ 6) (hv : (v = -1 ∧ du i = 1000000) ∨ (v = nI (du i) ∧ du i < 1010)) (b : v < 0) : nI s.2.2 + 0 = nI (Nx px py ef du dd s i).2.2 := by
  rcases hv with ⟨-, hd⟩ | ⟨rfl, hd⟩
  · have h5 := (Nx_ok (m := i + 1) (px := px) (py := py) (ef := ef) (du := du) (day := dd) hW.2.2.1 hW.2.2.2.1 (fun a => (hW.2.2.2.2.1 a).2) s i (by omega)).1
    have h7 := hW.2.1
    have h3 : ¬ du i < dd + ((Nx px py ef du dd s i).2.1 - 1) / 8 := by omega
    show nI s.2.2 + 0 = nI (s.2.2 + (if du i < dd + ((Nx px py ef du dd s i).2.1 - 1) / 8 then 1 else 0))
    rw [if_neg h3]
    exact nI_add s.2.2 0
  · exact absurd b (nI_pos (by omega))
theorem brk_2 {px py ef du : Nat → Nat} {dd nm i : Nat} {s : Sst} {v : Int32} (hW : WB px py ef du dd nm) (hlt : dd + ((Nx px py ef du dd s i).2.1 - 1) / 8 < 2 ^ 31) (hv : (v = -1 ∧ du i = 1000000) ∨ (v = nI (du i) ∧ du i < 1010)) (b0 : ¬ v < 0) (b : nI (dd + ((Nx px py ef du dd s i).2.1 - 1) / 8) ≤ v) : nI s.2.2 + 0 = nI (Nx px py ef du dd s i).2.2 := by
  rcases hv with ⟨rfl, hd⟩ | ⟨rfl, hd⟩
  · exact absurd (by decide) b0
  · rw [← brkN hW hlt b]
    exact nI_add s.2.2 0
theorem brk_3 {px py ef du : Nat → Nat} {dd nm i : Nat} {s : Sst} {v : Int32} (hW : WB px py ef du dd nm) (hv : (v = -1 ∧ du i = 1000000) ∨ (v = nI (du i) ∧ du i < 1010)) (b0 : ¬ v < 0) (b : ¬ nI (dd + ((Nx px py ef du dd s i).2.1 - 1) / 8) ≤ v) : nI s.2.2 + 1 = nI (Nx px py ef du dd s i).2.2 := by
  rcases hv with ⟨rfl, hd⟩ | ⟨rfl, hd⟩
  · exact absurd (by decide) b0
  · exact brkY hW b
theorem BY_keep {nm : Nat} {p : Nat → Nat} {s : Sst} {g : Hp} {f : Nat → Int32} (hs : s.2.2 ≤ nm) (hf : ∀ j9, j9 < nm → f j9 = g 30 j9) (hp : ∀ j9, j9 < nm → g 30 j9 = nI (p j9)) : BY nm (up2 (put (put g 0 38 (nI s.2.2)) 0 39 (nI s.2.1)) 31 f) (s.2.2, s.2.1, p) ∧ TM g (up2 (put (put g 0 38 (nI s.2.2)) 0 39 (nI s.2.1)) 31 f) := by
  refine ⟨⟨fun _ => ⟨?_, ?_, ?_⟩, fun z => absurd hs z⟩, ?_, ?_⟩
  · rw [up2_n (by decide), put_i (by decide), put_s]
  · rw [up2_n (by decide), put_s]
  · intro j9 hj
    rw [up2_s, hf j9 hj, hp j9 hj]
  · intro j9 z1 z2
    rw [up2_n (by decide), put_i z2, put_i z1]
  · intro k9 z1 z3
    rw [up2_n z3, put_n z1, put_n z1]
set_option maxHeartbeats 4000000 in
set_option maxRecDepth 100000 in
theorem k_X9_takes {d : Nat} {E : Ev} {nm : Nat} {tt px py ef du : Nat → Nat} {rr dd p0 : Nat} {p : Nat → Nat} {B : Bst} {h : Hp} (hd : 3 ≤ d) (hW : WB px py ef du dd nm) (hM : MW nm tt px py ef du rr h) (hp0 : p0 < 1024) (hx6 : px 6 = p0 / 32) (hy6 : py 6 = p0 % 32) (hp : ∀ j9, j9 < nm → h 30 j9 = nI (p j9)) (hpn : ∀ j9, j9 < nm → p j9 < nm) (hB : BY nm h B) (hO : OKB nm B) : Cl d yX9_takes cX9_takes 11 none E (wdY E) [.ref (E.2.2.1 0), .int (nI p0), .int (nI dd)] h (fun r h' => r = none ∧ BY nm h' (updB B (sQ (Nx px py ef du dd) (6, 0, 0) p nm) p) ∧ TM h h') := by
  refine Cl_of [some (.ref (E.2.2.1 0)), some (.int (nI p0)), some (.int (nI dd)), none, none, none, none, none, none, none, none] (by decide) rfl (Nat.le_of_ble_eq_true rfl) (fun K A X hQ => ?_)
  have hm6 := hW.1
  have hON : OKN nm (Nx px py ef du dd) := Nx_ok hW.2.2.1 hW.2.2.2.1 (fun a => (hW.2.2.2.2.1 a).2)
  have hSb : ∀ k9, k9 ≤ nm → (sQ (Nx px py ef du dd) (6, 0, 0) p k9).2.1 ≤ 50 * k9 ∧ (sQ (Nx px py ef du dd) (6, 0, 0) p k9).2.2 ≤ k9 := fun k9 hk => sQ_ok hON rfl rfl (fun j9 hj => hpn j9 (by omega))
  have hSn := hSb nm (Nat.le_refl _)
  have hcc : ∀ f, up2 (put (put h 0 38 (nI (sQ (Nx px py ef du dd) (6, 0, 0) p nm).2.2)) 0 39 (nI (sQ (Nx px py ef du dd) (6, 0, 0) p nm).2.1)) 31 f 0 34 = nI nm := fun f => by rw [up2_n (by decide), put_i (by decide), put_i (by decide), hM.1]
  have h30 : ∀ f, up2 (put (put h 0 38 (nI (sQ (Nx px py ef du dd) (6, 0, 0) p nm).2.2)) 0 39 (nI (sQ (Nx px py ef du dd) (6, 0, 0) p nm).2.1)) 31 f 30 = h 30 := fun f => by rw [up2_n (by decide), put_n (by decide), put_n (by decide)]
  have L189 : ∀ (o7 o8 o9 o10 : Option Value), btr (sQ (Nx px py ef du dd) (6, 0, 0) p nm) B → GW K 11 E (wdY E) A 189 [some (.ref (E.2.2.1 0)), some (.int (nI p0)), some (.int (nI dd)), some (.int (nI (sQ (Nx px py ef du dd) (6, 0, 0) p nm).2.1)), some (.int (nI (sQ (Nx px py ef du dd) (6, 0, 0) p nm).2.2)), some (.int (nI (px (sQ (Nx px py ef du dd) (6, 0, 0) p nm).1))), some (.int (nI (py (sQ (Nx px py ef du dd) (6, 0, 0) p nm).1))), o7, o8, o9, o10] [] h := by
    intro o7 o8 o9 o10 hbt
    have L2 : ∀ (m i : Nat) (f : Nat → Int32), i + m = nm → (∀ a, a < i → f a = h 30 a) → GW K 11 E (wdY E) A 203 [some (.ref (E.2.2.1 0)), some (.int (nI p0)), some (.int (nI dd)), some (.int (nI (sQ (Nx px py ef du dd) (6, 0, 0) p nm).2.1)), some (.int (nI (sQ (Nx px py ef du dd) (6, 0, 0) p nm).2.2)), some (.int (nI (px (sQ (Nx px py ef du dd) (6, 0, 0) p nm).1))), some (.int (nI (py (sQ (Nx px py ef du dd) (6, 0, 0) p nm).1))), some (.int (nI i)), o8, o9, o10] [] (up2 (put (put h 0 38 (nI (sQ (Nx px py ef du dd) (6, 0, 0) p nm).2.2)) 0 39 (nI (sQ (Nx px py ef du dd) (6, 0, 0) p nm).2.1)) 31 f) := by
      intro m
      induction m with
      | zero =>
        intro i f hm hI0
        refine P_iload7 X 205 dX9_takes_203 rfl ?_
        refine P_aload0 X 206 dX9_takes_205 rfl ?_
        refine gY_0_34 X 209 dX9_takes_206 rfl fl_X9_199 ?_
        refine P_icmp_ge X 232 212 dX9_takes_209 rfl rfl (fun b209 => ?_) (fun b209 => ?_)
        · have hie : i = nm := by omega
          rw [hie] at hI0
          obtain ⟨z1, z2⟩ := BY_keep (s := (sQ (Nx px py ef du dd) (6, 0, 0) p nm)) hSn.2 hI0 hp
          exact P_ret X hQ dX9_takes_232 ⟨rfl, by rw [updB_y hbt]; exact z1, z2⟩
        · exact (geN (hcc f) b209 (by omega) (by omega)).elim
      | succ m ih =>
        intro i f hm hI0
        refine P_iload7 X 205 dX9_takes_203 rfl ?_
        refine P_aload0 X 206 dX9_takes_205 rfl ?_
        refine gY_0_34 X 209 dX9_takes_206 rfl fl_X9_199 ?_
        refine P_icmp_ge X 232 212 dX9_takes_209 rfl rfl (fun b209 => ?_) (fun b209 => ?_)
        · exact (geY (hcc f) b209 (by omega) (by omega)).elim
        · refine P_aload0 X 213 dX9_takes_212 rfl ?_
          refine gY_0_37 X 216 dX9_takes_213 rfl fl_X9_101 ?_
          refine P_iload7 X 218 dX9_takes_216 rfl ?_
          refine P_aload0 X 219 dX9_takes_218 rfl ?_
          refine gY_0_36 X 222 dX9_takes_219 rfl fl_X9_98 ?_
          refine P_iload7 X 224 dX9_takes_222 rfl ?_
          refine lY_30 X 225 dX9_takes_224 rfl rfl (by omega) ?_
          rw [h30]
          refine sY_31 X 226 dX9_takes_225 rfl rfl (by omega) ?_
          refine P_iinc7 X (1) rfl 229 dX9_takes_226 rfl (by decide) rfl ?_
          refine P_goto X 203 dX9_takes_229 rfl ?_
          rw [nI_1, put_up2]
          exact ih (i + 1) _ (by omega) (lt_s (fx_o hI0) pk_us)
    refine P_aload0 X 190 dX9_takes_189 rfl ?_
    refine P_iload4 X 192 dX9_takes_190 rfl ?_
    refine pY_0_38 X 195 dX9_takes_192 rfl fw_X9_202 ?_
    refine P_aload0 X 196 dX9_takes_195 rfl ?_
    refine P_iload3 X 197 dX9_takes_196 rfl ?_
    refine pY_0_39 X 200 dX9_takes_197 rfl fw_X9_205 ?_
    refine P_iconst X (0) rfl 201 dX9_takes_200 rfl ?_
    refine P_istore7 X 203 dX9_takes_201 rfl (by decide) rfl ?_
    have e31 : ∀ hh : Hp, up2 hh 31 (hh 31) = hh := fun hh => by
      funext j9
      by_cases e : j9 = 31
      · subst e; exact up2_s
      · exact up2_n e
    rw [← e31 (put (put h 0 38 (nI (sQ (Nx px py ef du dd) (6, 0, 0) p nm).2.2)) 0 39 (nI (sQ (Nx px py ef du dd) (6, 0, 0) p nm).2.1))]
    exact L2 nm 0 _ (by omega) (fun a ha => absurd ha (Nat.not_lt_zero _))
  have L156 : ∀ (o7 o8 o9 o10 : Option Value), GW K 11 E (wdY E) A 156 [some (.ref (E.2.2.1 0)), some (.int (nI p0)), some (.int (nI dd)), some (.int (nI (sQ (Nx px py ef du dd) (6, 0, 0) p nm).2.1)), some (.int (nI (sQ (Nx px py ef du dd) (6, 0, 0) p nm).2.2)), some (.int (nI (px (sQ (Nx px py ef du dd) (6, 0, 0) p nm).1))), some (.int (nI (py (sQ (Nx px py ef du dd) (6, 0, 0) p nm).1))), o7, o8, o9, o10] [] h := by
    intro o7 o8 o9 o10
    have hB1 := hO.1
    have hB2 := hO.2.1
    by_cases zb : B.1 ≤ nm
    · obtain ⟨y1, y2, y3⟩ := hB.1 zb
      refine P_aload0 X 157 dX9_takes_156 rfl ?_
      refine gY_0_38 X 160 dX9_takes_157 rfl fl_X9_202 ?_
      refine P_top y1 ?_
      refine P_if_lt X 189 163 dX9_takes_160 rfl rfl (fun b160 => ?_) (fun b160 => ?_)
      · first
          | exact absurd b160 (nI_pos (by omega))
          | exact L189 o7 o8 o9 o10 (Or.inl ((nI_ltI (by omega) (by omega)).mp b169))
          | exact L189 o7 o8 o9 o10 (Or.inr ⟨(nI_eq (by omega) (by omega)).mp b178, Nat.lt_of_not_le (fun z => b186 (nI_le z (by omega)))⟩)
      · refine P_iload4 X 165 dX9_takes_163 rfl ?_
        refine P_aload0 X 166 dX9_takes_165 rfl ?_
        refine gY_0_38 X 169 dX9_takes_166 rfl fl_X9_202 ?_
        refine P_top y1 ?_
        refine P_icmp_lt X 189 172 dX9_takes_169 rfl rfl (fun b169 => ?_) (fun b169 => ?_)
        · first
            | exact absurd b160 (nI_pos (by omega))
            | exact L189 o7 o8 o9 o10 (Or.inl ((nI_ltI (by omega) (by omega)).mp b169))
            | exact L189 o7 o8 o9 o10 (Or.inr ⟨(nI_eq (by omega) (by omega)).mp b178, Nat.lt_of_not_le (fun z => b186 (nI_le z (by omega)))⟩)
        · refine P_iload4 X 174 dX9_takes_172 rfl ?_
          refine P_aload0 X 175 dX9_takes_174 rfl ?_
          refine gY_0_38 X 178 dX9_takes_175 rfl fl_X9_202 ?_
          refine P_top y1 ?_
          refine P_icmp_ne X 232 181 dX9_takes_178 rfl rfl (fun b178 => ?_) (fun b178 => ?_)
          · have hnb : ¬ btr (sQ (Nx px py ef du dd) (6, 0, 0) p nm) B := by
              intro z
              simp only [btr] at z
              first
                | exact absurd ((nI_leI (by omega) (by omega)).mp b186) (by have := (nI_eq (by omega) (by omega)).mp b178; omega)
                | exact b169 (nI_lt (by have : ¬ (sQ (Nx px py ef du dd) (6, 0, 0) p nm).2.2 = B.1 := fun q => b178 (by rw [q]); omega) (by omega))
            exact P_ret X hQ dX9_takes_232 ⟨rfl, by rw [updB_n hnb]; exact hB, TM_refl⟩
          · refine P_iload3 X 182 dX9_takes_181 rfl ?_
            refine P_aload0 X 183 dX9_takes_182 rfl ?_
            refine gY_0_39 X 186 dX9_takes_183 rfl fl_X9_205 ?_
            refine P_top y2 ?_
            refine P_icmp_ge X 232 189 dX9_takes_186 rfl rfl (fun b186 => ?_) (fun b186 => ?_)
            · have hnb : ¬ btr (sQ (Nx px py ef du dd) (6, 0, 0) p nm) B := by
                intro z
                simp only [btr] at z
                first
                  | exact absurd ((nI_leI (by omega) (by omega)).mp b186) (by have := (nI_eq (by omega) (by omega)).mp b178; omega)
                  | exact b169 (nI_lt (by have : ¬ (sQ (Nx px py ef du dd) (6, 0, 0) p nm).2.2 = B.1 := fun q => b178 (by rw [q]); omega) (by omega))
              exact P_ret X hQ dX9_takes_232 ⟨rfl, by rw [updB_n hnb]; exact hB, TM_refl⟩
            · first
                | exact absurd b160 (nI_pos (by omega))
                | exact L189 o7 o8 o9 o10 (Or.inl ((nI_ltI (by omega) (by omega)).mp b169))
                | exact L189 o7 o8 o9 o10 (Or.inr ⟨(nI_eq (by omega) (by omega)).mp b178, Nat.lt_of_not_le (fun z => b186 (nI_le z (by omega)))⟩)
    · have y1 := hB.2 zb
      refine P_aload0 X 157 dX9_takes_156 rfl ?_
      refine gY_0_38 X 160 dX9_takes_157 rfl fl_X9_202 ?_
      refine P_top y1 ?_
      refine P_if_lt X 189 163 dX9_takes_160 rfl rfl (fun b160 => ?_) (fun b160 => ?_)
      · exact L189 o7 o8 o9 o10 (Or.inl (by omega))
      · exact absurd (by decide) b160
  have L : ∀ (m k9 : Nat) (o8 o9 o10 : Option Value), k9 + m = nm → GW K 11 E (wdY E) A 20 [some (.ref (E.2.2.1 0)), some (.int (nI p0)), some (.int (nI dd)), some (.int (nI (sQ (Nx px py ef du dd) (6, 0, 0) p k9).2.1)), some (.int (nI (sQ (Nx px py ef du dd) (6, 0, 0) p k9).2.2)), some (.int (nI (px (sQ (Nx px py ef du dd) (6, 0, 0) p k9).1))), some (.int (nI (py (sQ (Nx px py ef du dd) (6, 0, 0) p k9).1))), some (.int (nI k9)), o8, o9, o10] [] h := by
    intro m
    induction m with
    | zero =>
      intro k9 o8 o9 o10 hm 
      refine P_iload7 X 22 dX9_takes_20 rfl ?_
      refine P_aload0 X 23 dX9_takes_22 rfl ?_
      refine gY_0_34 X 26 dX9_takes_23 rfl fl_X9_199 ?_
      refine P_icmp_ge X 156 29 dX9_takes_26 rfl rfl (fun b26 => ?_) (fun b26 => ?_)
      · have hke : k9 = nm := by omega
        rw [hke]
        exact L156 _ o8 o9 o10
      · exact (geN hM.1 b26 (by omega) (by omega)).elim
    | succ m ih =>
      intro k9 o8 o9 o10 hm 
      refine P_iload7 X 22 dX9_takes_20 rfl ?_
      refine P_aload0 X 23 dX9_takes_22 rfl ?_
      refine gY_0_34 X 26 dX9_takes_23 rfl fl_X9_199 ?_
      refine P_icmp_ge X 156 29 dX9_takes_26 rfl rfl (fun b26 => ?_) (fun b26 => ?_)
      · exact (geY hM.1 b26 (by omega) (by omega)).elim
      · obtain ⟨hh29, htt, hpx, hpy, hef, hpr⟩ := hM.2.2.2.2.2 (p k9) (hpn k9 (by omega))
        obtain ⟨ha40, ea⟩ := tn_lt hM.2.2.2.1 (by omega) (tt (p k9))
        obtain ⟨hk5, ek⟩ := tn_lt hM.2.2.2.2.1 (by omega) (tn (h 9 (tt (p k9))))
        have hSk := hSb k9 (by omega)
        have hp6 := hpn k9 (by omega)
        obtain ⟨hdy, hdl⟩ := dayD (i := p k9) (s := (sQ (Nx px py ef du dd) (6, 0, 0) p k9)) hW hSk.1 (by omega)
        refine P_aload0 X 30 dX9_takes_29 rfl ?_
        refine gY_0_35 X 33 dX9_takes_30 rfl fl_X9_95 ?_
        refine P_aload0 X 34 dX9_takes_33 rfl ?_
        refine gY_0_36 X 37 dX9_takes_34 rfl fl_X9_98 ?_
        refine P_iload7 X 39 dX9_takes_37 rfl ?_
        refine lY_30 X 40 dX9_takes_39 rfl rfl (by omega) ?_
        refine P_top (hp k9 (by omega)) ?_
        refine lY_29 X 41 dX9_takes_40 rfl rfl (by omega) ?_
        refine P_top hh29 ?_
        refine P_istore8 X 43 dX9_takes_41 rfl (by decide) rfl ?_
        refine P_aload0 X 44 dX9_takes_43 rfl ?_
        refine gY_0_11 X 47 dX9_takes_44 rfl fl_X9_34 ?_
        refine P_iload8 X 49 dX9_takes_47 rfl ?_
        refine lY_9 X 50 dX9_takes_49 rfl rfl (by omega) ?_
        refine P_top ea ?_
        refine P_istore9 X 52 dX9_takes_50 rfl (by decide) rfl ?_
        refine P_iload3 X 53 dX9_takes_52 rfl ?_
        refine P_iload5 X 55 dX9_takes_53 rfl ?_
        refine P_aload0 X 56 dX9_takes_55 rfl ?_
        refine gY_0_3 X 59 dX9_takes_56 rfl fl_X9_13 ?_
        refine P_iload9 X 61 dX9_takes_59 rfl ?_
        refine lY_2 X 62 dX9_takes_61 rfl rfl (by omega) ?_
        refine P_top hpx ?_
        refine S2r X 65 dX9_takes_62 rfl lk_X9_125 ms_X9_away rfl (by omega) (Nat.le_of_ble_eq_true rfl) (k_X9_away (by omega)) ?_
        refine P_iload6 X 67 dX9_takes_65 rfl ?_
        refine P_aload0 X 68 dX9_takes_67 rfl ?_
        refine gY_0_4 X 71 dX9_takes_68 rfl fl_X9_16 ?_
        refine P_iload9 X 73 dX9_takes_71 rfl ?_
        refine lY_3 X 74 dX9_takes_73 rfl rfl (by omega) ?_
        refine P_top hpy ?_
        refine S2r X 77 dX9_takes_74 rfl lk_X9_125 ms_X9_away rfl (by omega) (Nat.le_of_ble_eq_true rfl) (k_X9_away (by omega)) ?_
        refine P_iadd X 78 dX9_takes_77 rfl ?_
        refine P_bipush X (8) rfl 80 dX9_takes_78 rfl ?_
        refine P_idiv X (by decide) 81 dX9_takes_80 rfl ?_
        refine P_aload0 X 82 dX9_takes_81 rfl ?_
        refine gY_0_21 X 85 dX9_takes_82 rfl fl_X9_59 ?_
        refine P_aload0 X 86 dX9_takes_85 rfl ?_
        refine gY_0_2 X 89 dX9_takes_86 rfl fl_X9_7 ?_
        refine P_iload9 X 91 dX9_takes_89 rfl ?_
        refine lY_1 X 92 dX9_takes_91 rfl rfl (by omega) ?_
        refine lY_17 X 93 dX9_takes_92 rfl ek hk5 ?_
        refine P_iadd X 94 dX9_takes_93 rfl ?_
        refine P_iadd X 95 dX9_takes_94 rfl ?_
        refine P_top (y := nI ((Nx px py ef du dd) (sQ (Nx px py ef du dd) (6, 0, 0) p k9) (p k9)).2.1) (thenY hW hef) ?_
        refine P_istore3 X 96 dX9_takes_95 rfl (by decide) rfl ?_
        refine P_aload0 X 97 dX9_takes_96 rfl ?_
        refine gY_0_3 X 100 dX9_takes_97 rfl fl_X9_13 ?_
        refine P_iload9 X 102 dX9_takes_100 rfl ?_
        refine lY_2 X 103 dX9_takes_102 rfl rfl (by omega) ?_
        refine P_top hpx ?_
        refine P_istore5 X 105 dX9_takes_103 rfl (by decide) rfl ?_
        refine P_aload0 X 106 dX9_takes_105 rfl ?_
        refine gY_0_4 X 109 dX9_takes_106 rfl fl_X9_16 ?_
        refine P_iload9 X 111 dX9_takes_109 rfl ?_
        refine lY_3 X 112 dX9_takes_111 rfl rfl (by omega) ?_
        refine P_top hpy ?_
        refine P_istore6 X 114 dX9_takes_112 rfl (by decide) rfl ?_
        refine P_aload0 X 115 dX9_takes_114 rfl ?_
        refine P_iload8 X 117 dX9_takes_115 rfl ?_
        refine V1r X 0 120 dX9_takes_117 rfl lk_X9_196 mv_X9_promised rfl (by omega) (Nat.le_of_ble_eq_true rfl) (Nat.le_of_ble_eq_true rfl) rfl rfl (k_X9_promised (by omega) hM.2.1 hM.2.2.1 htt hM.2.2.2.1 hM.2.2.2.2.1) ?_
        refine P_istore10 X 122 dX9_takes_120 rfl (by decide) rfl ?_
        refine P_iload4 X 124 dX9_takes_122 rfl ?_
        refine P_iload10 X 126 dX9_takes_124 rfl ?_
        refine P_if_lt X 146 129 dX9_takes_126 rfl rfl (fun b126 => ?_) (fun b126 => ?_)
        · refine P_iconst X (0) rfl 147 dX9_takes_146 rfl ?_
          refine P_iadd X 148 dX9_takes_147 rfl ?_
          refine P_top (y := nI ((Nx px py ef du dd) (sQ (Nx px py ef du dd) (6, 0, 0) p k9) (p k9)).2.2) (by first | exact brk_1 hW hSk.1 (by omega) hpr b126 | exact brk_2 hW hdl hpr b126 b139 | exact brk_3 hW hpr b126 b139) ?_
          refine P_istore4 X 150 dX9_takes_148 rfl (by decide) rfl ?_
          refine P_iinc7 X (1) rfl 153 dX9_takes_150 rfl (by decide) rfl ?_
          refine P_goto X 20 dX9_takes_153 rfl ?_
          rw [nI_1]
          exact ih (k9 + 1) _ _ _ (by omega)
        · refine P_iload2 X 130 dX9_takes_129 rfl ?_
          refine P_iload3 X 131 dX9_takes_130 rfl ?_
          refine P_iconst X (1) rfl 132 dX9_takes_131 rfl ?_
          refine P_isub X 133 dX9_takes_132 rfl ?_
          refine P_bipush X (8) rfl 135 dX9_takes_133 rfl ?_
          refine P_idiv X (by decide) 136 dX9_takes_135 rfl ?_
          refine P_iadd X 137 dX9_takes_136 rfl ?_
          refine P_top hdy ?_
          refine P_iload10 X 139 dX9_takes_137 rfl ?_
          refine P_icmp_le X 146 142 dX9_takes_139 rfl rfl (fun b139 => ?_) (fun b139 => ?_)
          · refine P_iconst X (0) rfl 147 dX9_takes_146 rfl ?_
            refine P_iadd X 148 dX9_takes_147 rfl ?_
            refine P_top (y := nI ((Nx px py ef du dd) (sQ (Nx px py ef du dd) (6, 0, 0) p k9) (p k9)).2.2) (by first | exact brk_1 hW hSk.1 (by omega) hpr b126 | exact brk_2 hW hdl hpr b126 b139 | exact brk_3 hW hpr b126 b139) ?_
            refine P_istore4 X 150 dX9_takes_148 rfl (by decide) rfl ?_
            refine P_iinc7 X (1) rfl 153 dX9_takes_150 rfl (by decide) rfl ?_
            refine P_goto X 20 dX9_takes_153 rfl ?_
            rw [nI_1]
            exact ih (k9 + 1) _ _ _ (by omega)
          · refine P_iconst X (1) rfl 143 dX9_takes_142 rfl ?_
            refine P_goto X 147 dX9_takes_143 rfl ?_
            refine P_iadd X 148 dX9_takes_147 rfl ?_
            refine P_top (y := nI ((Nx px py ef du dd) (sQ (Nx px py ef du dd) (6, 0, 0) p k9) (p k9)).2.2) (by first | exact brk_1 hW hSk.1 (by omega) hpr b126 | exact brk_2 hW hdl hpr b126 b139 | exact brk_3 hW hpr b126 b139) ?_
            refine P_istore4 X 150 dX9_takes_148 rfl (by decide) rfl ?_
            refine P_iinc7 X (1) rfl 153 dX9_takes_150 rfl (by decide) rfl ?_
            refine P_goto X 20 dX9_takes_153 rfl ?_
            rw [nI_1]
            exact ih (k9 + 1) _ _ _ (by omega)
  refine P_iconst X (0) rfl 1 dX9_takes_0 rfl ?_
  refine P_istore3 X 2 dX9_takes_1 rfl (by decide) rfl ?_
  refine P_iconst X (0) rfl 3 dX9_takes_2 rfl ?_
  refine P_istore4 X 5 dX9_takes_3 rfl (by decide) rfl ?_
  refine P_iload1 X 6 dX9_takes_5 rfl ?_
  refine P_bipush X (32) rfl 8 dX9_takes_6 rfl ?_
  refine P_idiv X (by decide) 9 dX9_takes_8 rfl ?_
  refine P_top (y := nI (px 6)) (by rw [hx6]; exact pk_div (d := 32) (by omega) (by decide) (by decide)) ?_
  refine P_istore5 X 11 dX9_takes_9 rfl (by decide) rfl ?_
  refine P_iload1 X 12 dX9_takes_11 rfl ?_
  refine P_bipush X (32) rfl 14 dX9_takes_12 rfl ?_
  refine P_irem X (by decide) 15 dX9_takes_14 rfl ?_
  refine P_top (y := nI (py 6)) (by rw [hy6]; exact pk_rem (d := 32) (by omega) (by decide) (by decide)) ?_
  refine P_istore6 X 17 dX9_takes_15 rfl (by decide) rfl ?_
  refine P_iconst X (0) rfl 18 dX9_takes_17 rfl ?_
  refine P_istore7 X 20 dX9_takes_18 rfl (by decide) rfl ?_
  exact L nm 0 none none none (by omega)
/-- where the search stands -/
def IY (dp : Nat) (p : Nat → Nat) (i : Nat) (g : Hp) : Prop := (∀ j9, j9 < dp → g 30 j9 = nI (p j9)) ∧ g 30 dp + 1 = nI i
theorem IY_put {dp i : Nat} {p : Nat → Nat} {g : Hp} (h : ∀ j9, j9 < dp → g 30 j9 = nI (p j9)) : (∀ j9, j9 < dp → put g 30 dp (nI i) 30 j9 = nI (p j9)) ∧ put g 30 dp (nI i) 30 dp = nI i := ⟨fun j9 hj => by rw [put_i (by omega)]; exact h j9 hj, put_s⟩
theorem IY_nx {dp i : Nat} {p : Nat → Nat} {g : Hp} (h : ∀ j9, j9 < dp → g 30 j9 = nI (p j9)) (e : g 30 dp = nI i) : IY dp p (i + 1) g := ⟨h, by rw [e, nI_1]⟩
theorem cx_put {dp i : Nat} {p : Nat → Nat} {g : Hp} (h : ∀ j9, j9 < dp → g 30 j9 = nI (p j9)) : ∀ j9, j9 < dp + 1 → put g 30 dp (nI i) 30 j9 = nI (cx p dp i j9) := by
  intro j9 hj
  by_cases e : j9 = dp
  · subst e; rw [put_s, cx_s]
  · rw [put_i e, cx_n e]; exact h j9 (by omega)
theorem IY_in {dp i : Nat} {p : Nat → Nat} {g : Hp} (h : ∀ j9, j9 < dp → g 30 j9 = nI (p j9)) : IY (dp + 1) (cx p dp i) 0 (put (put g 30 dp (nI i)) 30 (dp + 1) (-1)) := by
  refine ⟨fun j9 hj => ?_, ?_⟩
  · rw [put_i (by omega)]; exact cx_put h j9 hj
  · rw [put_s]; rfl
theorem IY_out {dp i : Nat} {p : Nat → Nat} {g : Hp} (h : ∀ j9, j9 < dp + 1 → g 30 j9 = nI (cx p dp i j9)) : IY dp p (i + 1) g := by
  refine ⟨fun j9 hj => ?_, ?_⟩
  · rw [h j9 (by omega), cx_n (by omega)]
  · rw [h dp (by omega), cx_s, nI_1]
theorem fl_no {N : Sst → Nat → Sst} {nm r9 dp i : Nat} {p : Nat → Nat} {s : Sst} {B : Bst} (ha : anyP p dp i = true) : fl (Fs N nm r9 dp p s) (i + 1) B = fl (Fs N nm r9 dp p s) i B := by
  rw [fl, Fs, if_pos ha]
theorem fl_0 {N : Sst → Nat → Sst} {nm dp i : Nat} {p : Nat → Nat} {s0 : Sst} {B : Bst} (hm : dp + 1 = nm) (ha : anyP p dp i = false) : fl (Fs N nm 0 dp p (sQ N s0 p dp)) (i + 1) B = updB (fl (Fs N nm 0 dp p (sQ N s0 p dp)) i B) (sQ N s0 (cx p dp i) nm) (cx p dp i) := by
  rw [fl, Fs, if_neg (by rw [ha]; decide), srch, ← hm, sQ_cx]
theorem fl_S {N : Sst → Nat → Sst} {nm r9 dp i : Nat} {p : Nat → Nat} {s0 : Sst} {B : Bst} (ha : anyP p dp i = false) : fl (Fs N nm (r9 + 1) dp p (sQ N s0 p dp)) (i + 1) B = fl (Fs N nm r9 (dp + 1) (cx p dp i) (sQ N s0 (cx p dp i) (dp + 1))) nm (fl (Fs N nm (r9 + 1) dp p (sQ N s0 p dp)) i B) := by
  rw [fl, Fs, if_neg (by rw [ha]; decide), srch, sQ_cx]
theorem BsT_e {N : Sst → Nat → Sst} {nm r0 : Nat} (h : r0 + 1 = nm) : BsT N nm = fl (Fs N nm r0 0 (fun _ => 0) (6, 0, 0)) nm (nm + 1, 0, fun _ => 0) := by
  subst h
  rfl
set_option maxHeartbeats 4000000 in
set_option maxRecDepth 100000 in
theorem k_X9_findOrder {d : Nat} {E : Ev} {nm : Nat} {tt px py ef du : Nat → Nat} {rr dd p0 : Nat} {h : Hp} (hd : 5 ≤ d) (hW : WB px py ef du dd nm) (hM : MW nm tt px py ef du rr h) (h1m : 1 ≤ nm) (hp0 : p0 < 1024) (hx6 : px 6 = p0 / 32) (hy6 : py 6 = p0 % 32) : Cl d yX9_findOrder cX9_findOrder 4 none E (wdY E) [.ref (E.2.2.1 0), .int (nI p0), .int (nI dd)] h (fun r h' => r = none ∧ BY nm h' (BsT (Nx px py ef du dd) nm) ∧ FY h h') := by
  refine Cl_of [some (.ref (E.2.2.1 0)), some (.int (nI p0)), some (.int (nI dd)), none] (by decide) rfl (Nat.le_of_ble_eq_true rfl) (fun K A X hQ => ?_)
  have hm6 := hW.1
  have hON : OKN nm (Nx px py ef du dd) := Nx_ok hW.2.2.1 hW.2.2.2.1 (fun a => (hW.2.2.2.2.1 a).2)
  have L : ∀ (r9 dp : Nat) (p : Nat → Nat) (B0 : Bst), dp + r9 + 1 = nm → OKB nm B0 → (∀ j9, j9 < dp → p j9 < nm) → ∀ (q9 i : Nat) (g1 : Hp), i + q9 = nm → IY dp p i g1 → BY nm g1 (fl (Fs (Nx px py ef du dd) nm r9 dp p (sQ (Nx px py ef du dd) (6, 0, 0) p dp)) i B0) → FY h g1 → (∀ g2 : Hp, (∀ j9, j9 < dp → g2 30 j9 = nI (p j9)) → BY nm g2 (fl (Fs (Nx px py ef du dd) nm r9 dp p (sQ (Nx px py ef du dd) (6, 0, 0) p dp)) nm B0) → FY h g2 → GW K 4 E (wdY E) A 19 [some (.ref (E.2.2.1 0)), some (.int (nI p0)), some (.int (nI dd)), some (.int (nI dp + (-1)))] [] g2) → GW K 4 E (wdY E) A 19 [some (.ref (E.2.2.1 0)), some (.int (nI p0)), some (.int (nI dd)), some (.int (nI dp))] [] g1 := by
    intro r9
    induction r9 with
    | zero =>
      intro dp p B0 hm hOK hpp q9
      induction q9 with
      | zero =>
        intro i g1 hi hI hB hF hK
        have hM1 := MW_fy hM (FY_put (i := dp) (v := nI i) hF)
        have hsb := sQ_ok hON (s0 := (6, 0, 0)) rfl rfl hpp
        have hOi := (fl_ok (r := 0) hON (by omega) hsb.1 hsb.2 hpp hOK i (by omega)).1
        refine P_iload3 X 20 dX9_findOrder_19 rfl ?_
        refine P_if_lt X 101 23 dX9_findOrder_20 rfl rfl (fun b20 => ?_) (fun b20 => ?_)
        · exact absurd b20 (nI_pos (by omega))
        · refine P_aload0 X 24 dX9_findOrder_23 rfl ?_
          refine gY_0_36 X 27 dX9_findOrder_24 rfl fl_X9_98 ?_
          refine P_iload3 X 28 dX9_findOrder_27 rfl ?_
          refine P_dup2 X rfl rfl 29 dX9_findOrder_28 rfl ?_
          refine lY_30 X 30 dX9_findOrder_29 rfl rfl (by omega) ?_
          refine P_iconst X (1) rfl 31 dX9_findOrder_30 rfl ?_
          refine P_iadd X 32 dX9_findOrder_31 rfl ?_
          refine P_top hI.2 ?_
          refine sY_30 X 33 dX9_findOrder_32 rfl rfl (by omega) ?_
          refine P_aload0 X 34 dX9_findOrder_33 rfl ?_
          refine gY_0_36 X 37 dX9_findOrder_34 rfl fl_X9_98 ?_
          refine P_iload3 X 38 dX9_findOrder_37 rfl ?_
          refine lY_30 X 39 dX9_findOrder_38 rfl rfl (by omega) ?_
          refine P_top put_s ?_
          refine P_aload0 X 40 dX9_findOrder_39 rfl ?_
          refine gY_0_34 X 43 dX9_findOrder_40 rfl fl_X9_199 ?_
          refine P_top hM1.1 ?_
          refine P_icmp_ne X 52 46 dX9_findOrder_43 rfl rfl (fun b43 => ?_) (fun b43 => ?_)
          · exact absurd (by rw [show i = nm by omega]) b43
          · refine P_iinc3 X (-1) rfl 49 dX9_findOrder_46 rfl (by decide) rfl ?_
            refine P_goto X 19 dX9_findOrder_49 rfl ?_
            have hie : i = nm := by omega
            rw [hie] at hB
            exact hK _ (IY_put hI.1).1 (BY_put hB) (FY_put hF)
      | succ q9 ih =>
        intro i g1 hi hI hB hF hK
        have hM1 := MW_fy hM (FY_put (i := dp) (v := nI i) hF)
        have hsb := sQ_ok hON (s0 := (6, 0, 0)) rfl rfl hpp
        have hOi := (fl_ok (r := 0) hON (by omega) hsb.1 hsb.2 hpp hOK i (by omega)).1
        refine P_iload3 X 20 dX9_findOrder_19 rfl ?_
        refine P_if_lt X 101 23 dX9_findOrder_20 rfl rfl (fun b20 => ?_) (fun b20 => ?_)
        · exact absurd b20 (nI_pos (by omega))
        · refine P_aload0 X 24 dX9_findOrder_23 rfl ?_
          refine gY_0_36 X 27 dX9_findOrder_24 rfl fl_X9_98 ?_
          refine P_iload3 X 28 dX9_findOrder_27 rfl ?_
          refine P_dup2 X rfl rfl 29 dX9_findOrder_28 rfl ?_
          refine lY_30 X 30 dX9_findOrder_29 rfl rfl (by omega) ?_
          refine P_iconst X (1) rfl 31 dX9_findOrder_30 rfl ?_
          refine P_iadd X 32 dX9_findOrder_31 rfl ?_
          refine P_top hI.2 ?_
          refine sY_30 X 33 dX9_findOrder_32 rfl rfl (by omega) ?_
          refine P_aload0 X 34 dX9_findOrder_33 rfl ?_
          refine gY_0_36 X 37 dX9_findOrder_34 rfl fl_X9_98 ?_
          refine P_iload3 X 38 dX9_findOrder_37 rfl ?_
          refine lY_30 X 39 dX9_findOrder_38 rfl rfl (by omega) ?_
          refine P_top put_s ?_
          refine P_aload0 X 40 dX9_findOrder_39 rfl ?_
          refine gY_0_34 X 43 dX9_findOrder_40 rfl fl_X9_199 ?_
          refine P_top hM1.1 ?_
          refine P_icmp_ne X 52 46 dX9_findOrder_43 rfl rfl (fun b43 => ?_) (fun b43 => ?_)
          · refine P_aload0 X 53 dX9_findOrder_52 rfl ?_
            refine P_iload3 X 54 dX9_findOrder_53 rfl ?_
            refine P_aload0 X 55 dX9_findOrder_54 rfl ?_
            refine gY_0_36 X 58 dX9_findOrder_55 rfl fl_X9_98 ?_
            refine P_iload3 X 59 dX9_findOrder_58 rfl ?_
            refine lY_30 X 60 dX9_findOrder_59 rfl rfl (by omega) ?_
            refine P_top put_s ?_
            refine V2r X 0 63 dX9_findOrder_60 rfl lk_X9_208 mv_X9_isChosen rfl (by omega) (Nat.le_of_ble_eq_true rfl) (Nat.le_of_ble_eq_true rfl) rfl rfl (k_X9_isChosen (by omega) (by omega) (by omega) (IY_put hI.1).1 (fun j9 hj => by have := hpp j9 hj; omega)) ?_
            refine P_bz X 69 66 dX9_findOrder_63 rfl rfl (fun b63 => ?_) (fun b63 => ?_)
            · refine P_iload3 X 70 dX9_findOrder_69 rfl ?_
              refine P_iconst X (1) rfl 71 dX9_findOrder_70 rfl ?_
              refine P_iadd X 72 dX9_findOrder_71 rfl ?_
              refine P_aload0 X 73 dX9_findOrder_72 rfl ?_
              refine gY_0_34 X 76 dX9_findOrder_73 rfl fl_X9_199 ?_
              rw [nI_1]
              refine P_top hM1.1 ?_
              refine P_icmp_ne X 88 79 dX9_findOrder_76 rfl rfl (fun b76 => ?_) (fun b76 => ?_)
              · exact absurd (by rw [show dp + 1 = nm by omega]) b76
              · refine P_aload0 X 80 dX9_findOrder_79 rfl ?_
                refine P_iload1 X 81 dX9_findOrder_80 rfl ?_
                refine P_iload2 X 82 dX9_findOrder_81 rfl ?_
                refine V2g X 0 85 dX9_findOrder_82 rfl lk_X9_211 mv_X9_takes rfl (by omega) (Nat.le_of_ble_eq_true rfl) (Nat.le_of_ble_eq_true rfl) rfl rfl (k_X9_takes (by omega) hW hM1 hp0 hx6 hy6 (fun j9 hj => cx_put hI.1 j9 (by omega)) (fun j9 hj => cx_lt hpp (by omega) j9 (by omega)) (BY_put hB) hOi) (fun r h2 hp => ?_)
                obtain ⟨rfl, hB2, hT2⟩ := hp
                change GW K 4 E (wdY E) A 85 [some (.ref (E.2.2.1 0)), some (.int (nI p0)), some (.int (nI dd)), some (.int (nI dp))] [] h2
                refine P_goto X 19 dX9_findOrder_85 rfl ?_
                first
                  | exact ih (i + 1) _ (by omega) (IY_nx (IY_put hI.1).1 (IY_put hI.1).2) (by rw [fl_no b63]; exact BY_put hB) (FY_put hF) hK
                  | exact ih (i + 1) _ (by omega) (IY_nx (fun j9 hj => by rw [hT2.2 30 (by decide) (by decide)]; exact (IY_put hI.1).1 j9 hj) (by rw [hT2.2 30 (by decide) (by decide)]; exact (IY_put hI.1).2)) (by rw [fl_0 (by omega) b63]; exact hB2) (FY_tm (FY_put hF) hT2) hK
            · refine P_goto X 19 dX9_findOrder_66 rfl ?_
              first
                | exact ih (i + 1) _ (by omega) (IY_nx (IY_put hI.1).1 (IY_put hI.1).2) (by rw [fl_no b63]; exact BY_put hB) (FY_put hF) hK
                | exact ih (i + 1) _ (by omega) (IY_nx (fun j9 hj => by rw [hT2.2 30 (by decide) (by decide)]; exact (IY_put hI.1).1 j9 hj) (by rw [hT2.2 30 (by decide) (by decide)]; exact (IY_put hI.1).2)) (by rw [fl_0 (by omega) b63]; exact hB2) (FY_tm (FY_put hF) hT2) hK
          · exact absurd ((nI_eq (by omega) (by omega)).mp b43) (by omega)
    | succ r9 ihr =>
      intro dp p B0 hm hOK hpp q9
      induction q9 with
      | zero =>
        intro i g1 hi hI hB hF hK
        have hM1 := MW_fy hM (FY_put (i := dp) (v := nI i) hF)
        have hsb := sQ_ok hON (s0 := (6, 0, 0)) rfl rfl hpp
        have hOi := (fl_ok (r := (r9 + 1)) hON (by omega) hsb.1 hsb.2 hpp hOK i (by omega)).1
        refine P_iload3 X 20 dX9_findOrder_19 rfl ?_
        refine P_if_lt X 101 23 dX9_findOrder_20 rfl rfl (fun b20 => ?_) (fun b20 => ?_)
        · exact absurd b20 (nI_pos (by omega))
        · refine P_aload0 X 24 dX9_findOrder_23 rfl ?_
          refine gY_0_36 X 27 dX9_findOrder_24 rfl fl_X9_98 ?_
          refine P_iload3 X 28 dX9_findOrder_27 rfl ?_
          refine P_dup2 X rfl rfl 29 dX9_findOrder_28 rfl ?_
          refine lY_30 X 30 dX9_findOrder_29 rfl rfl (by omega) ?_
          refine P_iconst X (1) rfl 31 dX9_findOrder_30 rfl ?_
          refine P_iadd X 32 dX9_findOrder_31 rfl ?_
          refine P_top hI.2 ?_
          refine sY_30 X 33 dX9_findOrder_32 rfl rfl (by omega) ?_
          refine P_aload0 X 34 dX9_findOrder_33 rfl ?_
          refine gY_0_36 X 37 dX9_findOrder_34 rfl fl_X9_98 ?_
          refine P_iload3 X 38 dX9_findOrder_37 rfl ?_
          refine lY_30 X 39 dX9_findOrder_38 rfl rfl (by omega) ?_
          refine P_top put_s ?_
          refine P_aload0 X 40 dX9_findOrder_39 rfl ?_
          refine gY_0_34 X 43 dX9_findOrder_40 rfl fl_X9_199 ?_
          refine P_top hM1.1 ?_
          refine P_icmp_ne X 52 46 dX9_findOrder_43 rfl rfl (fun b43 => ?_) (fun b43 => ?_)
          · exact absurd (by rw [show i = nm by omega]) b43
          · refine P_iinc3 X (-1) rfl 49 dX9_findOrder_46 rfl (by decide) rfl ?_
            refine P_goto X 19 dX9_findOrder_49 rfl ?_
            have hie : i = nm := by omega
            rw [hie] at hB
            exact hK _ (IY_put hI.1).1 (BY_put hB) (FY_put hF)
      | succ q9 ih =>
        intro i g1 hi hI hB hF hK
        have hM1 := MW_fy hM (FY_put (i := dp) (v := nI i) hF)
        have hsb := sQ_ok hON (s0 := (6, 0, 0)) rfl rfl hpp
        have hOi := (fl_ok (r := (r9 + 1)) hON (by omega) hsb.1 hsb.2 hpp hOK i (by omega)).1
        refine P_iload3 X 20 dX9_findOrder_19 rfl ?_
        refine P_if_lt X 101 23 dX9_findOrder_20 rfl rfl (fun b20 => ?_) (fun b20 => ?_)
        · exact absurd b20 (nI_pos (by omega))
        · refine P_aload0 X 24 dX9_findOrder_23 rfl ?_
          refine gY_0_36 X 27 dX9_findOrder_24 rfl fl_X9_98 ?_
          refine P_iload3 X 28 dX9_findOrder_27 rfl ?_
          refine P_dup2 X rfl rfl 29 dX9_findOrder_28 rfl ?_
          refine lY_30 X 30 dX9_findOrder_29 rfl rfl (by omega) ?_
          refine P_iconst X (1) rfl 31 dX9_findOrder_30 rfl ?_
          refine P_iadd X 32 dX9_findOrder_31 rfl ?_
          refine P_top hI.2 ?_
          refine sY_30 X 33 dX9_findOrder_32 rfl rfl (by omega) ?_
          refine P_aload0 X 34 dX9_findOrder_33 rfl ?_
          refine gY_0_36 X 37 dX9_findOrder_34 rfl fl_X9_98 ?_
          refine P_iload3 X 38 dX9_findOrder_37 rfl ?_
          refine lY_30 X 39 dX9_findOrder_38 rfl rfl (by omega) ?_
          refine P_top put_s ?_
          refine P_aload0 X 40 dX9_findOrder_39 rfl ?_
          refine gY_0_34 X 43 dX9_findOrder_40 rfl fl_X9_199 ?_
          refine P_top hM1.1 ?_
          refine P_icmp_ne X 52 46 dX9_findOrder_43 rfl rfl (fun b43 => ?_) (fun b43 => ?_)
          · refine P_aload0 X 53 dX9_findOrder_52 rfl ?_
            refine P_iload3 X 54 dX9_findOrder_53 rfl ?_
            refine P_aload0 X 55 dX9_findOrder_54 rfl ?_
            refine gY_0_36 X 58 dX9_findOrder_55 rfl fl_X9_98 ?_
            refine P_iload3 X 59 dX9_findOrder_58 rfl ?_
            refine lY_30 X 60 dX9_findOrder_59 rfl rfl (by omega) ?_
            refine P_top put_s ?_
            refine V2r X 0 63 dX9_findOrder_60 rfl lk_X9_208 mv_X9_isChosen rfl (by omega) (Nat.le_of_ble_eq_true rfl) (Nat.le_of_ble_eq_true rfl) rfl rfl (k_X9_isChosen (by omega) (by omega) (by omega) (IY_put hI.1).1 (fun j9 hj => by have := hpp j9 hj; omega)) ?_
            refine P_bz X 69 66 dX9_findOrder_63 rfl rfl (fun b63 => ?_) (fun b63 => ?_)
            · refine P_iload3 X 70 dX9_findOrder_69 rfl ?_
              refine P_iconst X (1) rfl 71 dX9_findOrder_70 rfl ?_
              refine P_iadd X 72 dX9_findOrder_71 rfl ?_
              refine P_aload0 X 73 dX9_findOrder_72 rfl ?_
              refine gY_0_34 X 76 dX9_findOrder_73 rfl fl_X9_199 ?_
              rw [nI_1]
              refine P_top hM1.1 ?_
              refine P_icmp_ne X 88 79 dX9_findOrder_76 rfl rfl (fun b76 => ?_) (fun b76 => ?_)
              · refine P_iinc3 X (1) rfl 91 dX9_findOrder_88 rfl (by decide) rfl ?_
                rw [nI_1]
                refine P_aload0 X 92 dX9_findOrder_91 rfl ?_
                refine gY_0_36 X 95 dX9_findOrder_92 rfl fl_X9_98 ?_
                refine P_iload3 X 96 dX9_findOrder_95 rfl ?_
                refine P_iconst X (-1) rfl 97 dX9_findOrder_96 rfl ?_
                refine sY_30 X 98 dX9_findOrder_97 rfl rfl (by omega) ?_
                refine P_goto X 19 dX9_findOrder_98 rfl ?_
                first
                  | exact ih (i + 1) _ (by omega) (IY_nx (IY_put hI.1).1 (IY_put hI.1).2) (by rw [fl_no b63]; exact BY_put hB) (FY_put hF) hK
                  | exact ihr (dp + 1) (cx p dp i) _ (by omega) hOi (cx_lt hpp (by omega)) nm 0 _ (by omega) (IY_in hI.1) (BY_put (BY_put hB)) (FY_put (FY_put hF)) (fun g2 z1 z2 z3 => by rw [pk_m1]; exact ih (i + 1) g2 (by omega) (IY_out z1) (by rw [fl_S b63]; exact z2) z3 hK)
              · exact absurd ((nI_eq (by omega) (by omega)).mp b76) (by omega)
            · refine P_goto X 19 dX9_findOrder_66 rfl ?_
              first
                | exact ih (i + 1) _ (by omega) (IY_nx (IY_put hI.1).1 (IY_put hI.1).2) (by rw [fl_no b63]; exact BY_put hB) (FY_put hF) hK
                | exact ihr (dp + 1) (cx p dp i) _ (by omega) hOi (cx_lt hpp (by omega)) nm 0 _ (by omega) (IY_in hI.1) (BY_put (BY_put hB)) (FY_put (FY_put hF)) (fun g2 z1 z2 z3 => by rw [pk_m1]; exact ih (i + 1) g2 (by omega) (IY_out z1) (by rw [fl_S b63]; exact z2) z3 hK)
          · exact absurd ((nI_eq (by omega) (by omega)).mp b43) (by omega)
  refine P_aload0 X 1 dX9_findOrder_0 rfl ?_
  refine P_iconst X (-1) rfl 2 dX9_findOrder_1 rfl ?_
  refine pY_0_38 X 5 dX9_findOrder_2 rfl fw_X9_202 ?_
  refine P_aload0 X 6 dX9_findOrder_5 rfl ?_
  refine P_iconst X (0) rfl 7 dX9_findOrder_6 rfl ?_
  refine pY_0_39 X 10 dX9_findOrder_7 rfl fw_X9_205 ?_
  refine P_iconst X (0) rfl 11 dX9_findOrder_10 rfl ?_
  refine P_istore3 X 12 dX9_findOrder_11 rfl (by decide) rfl ?_
  refine P_aload0 X 13 dX9_findOrder_12 rfl ?_
  refine gY_0_36 X 16 dX9_findOrder_13 rfl fl_X9_98 ?_
  refine P_iconst X (0) rfl 17 dX9_findOrder_16 rfl ?_
  refine P_iconst X (-1) rfl 18 dX9_findOrder_17 rfl ?_
  refine sY_30 X 19 dX9_findOrder_18 rfl (show (0 : Int32) = nI 0 from rfl) (by decide) ?_
  obtain ⟨r0, hr0⟩ : ∃ r0, r0 + 1 = nm := ⟨nm - 1, by omega⟩
  rw [BsT_e hr0] at hQ
  refine L r0 0 (fun _ => 0) (nm + 1, 0, fun _ => 0) (by omega) OKB_0 (fun j9 hj => absurd hj (Nat.not_lt_zero _)) nm 0 _ (by omega) ⟨fun j9 hj => absurd hj (Nat.not_lt_zero _), by rw [put_s]; rfl⟩ (BY_put ⟨fun z => absurd z (by show ¬ nm + 1 ≤ nm; omega), fun _ => by rw [put_i (by decide), put_s]⟩) (FY_put ⟨fun j9 z1 z2 => by rw [put_i z2, put_i z1], fun k9 z1 z2 z3 => by rw [put_n z1, put_n z1]⟩) (fun g2 z1 z2 z3 => ?_)
  refine P_iload3 X 20 dX9_findOrder_19 rfl ?_
  refine P_if_lt X 101 23 dX9_findOrder_20 rfl rfl (fun b20 => ?_) (fun b20 => absurd (by decide) b20)
  exact P_ret X hQ dX9_findOrder_101 ⟨rfl, z2, z3⟩
