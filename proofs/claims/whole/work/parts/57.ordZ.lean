/-! a crew's order: what it answers -/
def mT (fr s c9 : Nat) : Nat := fr + bp (tb s) c9
def pxO (xs fa : Nat → Int32) (fr s v c9 : Nat) : Nat := if c9 < 6 then tn (xs (tn (fa (mT fr s c9)))) else v
def efO (ef kd fa : Nat → Int32) (fr s c9 : Nat) : Nat := tn (ef (tn (kd (tn (fa (mT fr s c9))))))
def duO (pr : Nat → Int32) (fr s c9 : Nat) : Nat := if pr (mT fr s c9) = -1 then 1000000 else tn (pr (mT fr s c9))
noncomputable def BsO (kd xs ys fa ef pr : Nat → Int32) (fr s p0 dd : Nat) : Bst := BsT (Nx (pxO xs fa fr s (p0 / 32)) (pxO ys fa fr s (p0 % 32)) (efO ef kd fa fr s) (duO pr fr s) dd) (cnt (tb s) 8)
noncomputable def ansB (nm : Nat) (tt : Nat → Nat) (B : Bst) (w9 : Nat) : Int32 := if w9 = 0 then nI B.1 else if w9 = 1 then nI B.2.1 else if w9 - 2 < nm then nI (tt (B.2.2 (w9 - 2))) else -1
noncomputable def ordV (kd xs ys fa ef pr : Nat → Int32) (fr s p0 dd w9 : Nat) : Int32 := ansB (cnt (tb s) 8) (mT fr s) (BsO kd xs ys fa ef pr fr s p0 dd) w9
def okP (nT : Nat) (f st pl dy wh : Int32) (fr s p0 dd w9 : Nat) : Prop := f = nI fr ∧ st = nI s ∧ pl = nI p0 ∧ dy = nI dd ∧ wh = nI w9 ∧ fr < 2 ^ 31 ∧ 1 ≤ s ∧ s < 256 ∧ p0 < 1024 ∧ dd < 1000 ∧ w9 < 2 ^ 31 ∧ ∀ k9, s.testBit k9 = true → fr + k9 < nT
def okO (nT : Nat) (f st pl dy wh : Int32) : Prop := ∃ fr s p0 dd w9, okP nT f st pl dy wh fr s p0 dd w9
def PO (nT : Nat) (f st pl dy wh : Int32) (V : Nat → Nat → Nat → Nat → Nat → Int32) (hf : Hp) (Fm : Hp → Prop) : Option Value → Hp → Prop := fun r h' => (¬ okO nT f st pl dy wh ∧ r = some (.int (-1000001)) ∧ h' = hf) ∨ (∃ fr s p0 dd w9, okP nT f st pl dy wh fr s p0 dd w9 ∧ 6 < cnt (tb s) 8 ∧ r = some (.int (-1000006)) ∧ h' = hf) ∨ (∃ fr s p0 dd w9, okP nT f st pl dy wh fr s p0 dd w9 ∧ cnt (tb s) 8 ≤ 6 ∧ r = some (.int (V fr s p0 dd w9)) ∧ Fm h')
theorem in_of {v k9 : Nat} (h : v ≤ k9) (hk : k9 < 2 ^ 31) : inB (nI v) 0 (nI k9) = true := inB_iff.mpr ⟨nI_pos' (by omega), nI_le h hk⟩
theorem okO_pl {nT : Nat} {f st pl dy wh : Int32} (b : inB pl 0 1023 = false) : ¬ okO nT f st pl dy wh := by
  rintro ⟨fr, s, p0, dd, w9, h1, h2, rfl, h4, h5, h6, h7, h8, h9, -⟩
  rw [show inB (nI p0) 0 1023 = true from in_of (k9 := 1023) (by omega) (by decide)] at b
  cases b
theorem okO_dy {nT : Nat} {f st pl dy wh : Int32} (b : inB dy 0 999 = false) : ¬ okO nT f st pl dy wh := by
  rintro ⟨fr, s, p0, dd, w9, h1, h2, h3, rfl, h5, h6, h7, h8, h9, h10, -⟩
  rw [show inB (nI dd) 0 999 = true from in_of (k9 := 999) (by omega) (by decide)] at b
  cases b
theorem okO_f {nT : Nat} {f st pl dy wh : Int32} (b : f < 0) : ¬ okO nT f st pl dy wh := by
  rintro ⟨fr, s, p0, dd, w9, rfl, h2, h3, h4, h5, h6, -⟩
  exact nI_pos h6 b
theorem okO_w {nT : Nat} {f st pl dy wh : Int32} (b : wh < 0) : ¬ okO nT f st pl dy wh := by
  rintro ⟨fr, s, p0, dd, w9, h1, h2, h3, h4, rfl, h6, h7, h8, h9, h10, h11, -⟩
  exact nI_pos h11 b
theorem okO_s {nT fr : Nat} {st pl dy wh : Int32} (hfr : fr < 2 ^ 31) (b : ¬ okS nT fr st) : ¬ okO nT (nI fr) st pl dy wh := by
  rintro ⟨fr', s, p0, dd, w9, h1, h2, h3, h4, h5, h6, h7, h8, h9, h10, h11, h12⟩
  obtain rfl : fr = fr' := (nI_eq hfr h6).mp h1
  exact b ⟨s, h2, h7, h8, h12⟩
theorem w_ne {w9 : Nat} (hw : w9 < 2 ^ 31) (h0 : ¬ w9 = 0) (h1 : ¬ w9 = 1) : Op.lookupswitch.offset [(0, 27), (1, 32)] 37 (nI w9).toInt = 37 := by
  rw [Op.lookupswitch.offset_cons, Op.lookupswitch.offset_cons, Op.lookupswitch.offset_nil, nI_toInt hw, if_neg (by omega), if_neg (by omega)]
theorem in_w {w9 nm : Nat} (hm : nm ≤ 6) (hw : w9 < 2 ^ 31) : inB (nI w9) 0 (nI nm - 1) = decide (w9 < nm) := by
  by_cases z : w9 < nm
  · rw [decide_eq_true z]
    obtain ⟨n9, rfl⟩ : ∃ n9, nm = n9 + 1 := ⟨nm - 1, by omega⟩
    rw [nI_pred]
    exact in_of (by omega) (by omega)
  · rw [decide_eq_false z]
    cases e : inB (nI w9) 0 (nI nm - 1)
    · rfl
    · obtain ⟨m9, h1, h2⟩ := inB_ix (n := nm) rfl e (by omega)
      have := (nI_eq hw (by omega)).mp h2
      omega
theorem ans0 {nm : Nat} {tt : Nat → Nat} {B : Bst} : ansB nm tt B 0 = nI B.1 := if_pos rfl
theorem ans1 {nm : Nat} {tt : Nat → Nat} {B : Bst} : ansB nm tt B 1 = nI B.2.1 := by rw [ansB, if_neg (by decide), if_pos rfl]
theorem ansY {nm w9 : Nat} {tt : Nat → Nat} {B : Bst} (h0 : ¬ w9 = 0) (h1 : ¬ w9 = 1) (h2 : w9 - 2 < nm) : ansB nm tt B w9 = nI (tt (B.2.2 (w9 - 2))) := by rw [ansB, if_neg h0, if_neg h1, if_pos h2]
theorem ansN {nm w9 : Nat} {tt : Nat → Nat} {B : Bst} (h0 : ¬ w9 = 0) (h1 : ¬ w9 = 1) (h2 : ¬ w9 - 2 < nm) : ansB nm tt B w9 = -1 := by rw [ansB, if_neg h0, if_neg h1, if_neg h2]
set_option maxHeartbeats 4000000 in
set_option maxRecDepth 100000 in
theorem k_X1_detail {d : Nat} {E : Ev} {nm w9 : Nat} {tt : Nat → Nat} {B : Bst} {h : Hp} (hd : 1 ≤ d) (hw : w9 < 2 ^ 31) (hc : h 6 7 = nI nm) (hm6 : nm ≤ 6) (hB : BX nm h B) (hb : B.1 ≤ nm) (hO : OKB nm B) (htt : ∀ c9, c9 < nm → h 33 c9 = nI (tt c9)) : Cl d yX1_detail cX1_detail 2 (some .int) E (wdX E) [.ref (E.2.2.1 6), .int (nI w9)] h (Rt (some (.int (ansB nm tt B w9))) h) := by
  refine Cl_of [some (.ref (E.2.2.1 6)), some (.int (nI w9))] (by decide) rfl (Nat.le_of_ble_eq_true rfl) (fun K A X hQ => ?_)
  refine P_iload1 X 1 dX1_detail_0 rfl ?_
  by_cases z0 : w9 = 0
  · subst z0
    refine P_lookup X (off := 27) 28 dX1_detail_1 rfl rfl rfl ?_
    refine P_aload0 X 29 dX1_detail_28 rfl ?_
    refine gX_6_9 X 32 dX1_detail_29 rfl fl_X1_40 ?_
    exact P_iret X hQ dX1_detail_32 (rti (hB.1.trans ans0.symm))
  · by_cases z1 : w9 = 1
    · subst z1
      refine P_lookup X (off := 32) 33 dX1_detail_1 rfl rfl rfl ?_
      refine P_aload0 X 34 dX1_detail_33 rfl ?_
      refine gX_6_10 X 37 dX1_detail_34 rfl fl_X1_43 ?_
      exact P_iret X hQ dX1_detail_37 (rti (hB.2.1.trans ans1.symm))
    · refine P_lookup X (off := 37) 38 dX1_detail_1 rfl (w_ne hw z0 z1) rfl ?_
      refine P_iload1 X 39 dX1_detail_38 rfl ?_
      refine P_iconst X (2) rfl 40 dX1_detail_39 rfl ?_
      refine P_isub X 41 dX1_detail_40 rfl ?_
      refine P_top (y := nI (w9 - 2)) (pk_sub (b := 2) (by omega)) ?_
      refine P_iconst X (0) rfl 42 dX1_detail_41 rfl ?_
      refine P_aload0 X 43 dX1_detail_42 rfl ?_
      refine gX_6_7 X 46 dX1_detail_43 rfl fl_X1_33 ?_
      refine P_top hc ?_
      refine P_iconst X (1) rfl 47 dX1_detail_46 rfl ?_
      refine P_isub X 48 dX1_detail_47 rfl ?_
      refine S3r X 51 dX1_detail_48 rfl lk_X1_62 ms_X8_within rfl (by omega) (Nat.le_of_ble_eq_true rfl) (k_X8_within (by omega)) ?_
      rw [in_w hm6 (by omega)]
      refine P_bz X 70 54 dX1_detail_51 rfl rfl (fun b51 => ?_) (fun b51 => ?_)
      · refine P_iconst X (-1) rfl 71 dX1_detail_70 rfl ?_
        first
          | exact P_iret X hQ dX1_detail_71 (rti (ansY z0 z1 hlt).symm)
          | exact P_iret X hQ dX1_detail_71 (rti (ansN z0 z1 (of_decide_eq_false b51)).symm)
      · have hlt : w9 - 2 < nm := of_decide_eq_true b51
        have h39 := hB.2.2 hb _ hlt
        have hob := hO.2.2 hb _ hlt
        refine P_aload0 X 55 dX1_detail_54 rfl ?_
        refine gX_6_0 X 58 dX1_detail_55 rfl fl_X1_9 ?_
        refine P_aload0 X 59 dX1_detail_58 rfl ?_
        refine gX_6_6 X 62 dX1_detail_59 rfl fl_X1_30 ?_
        refine P_iload1 X 63 dX1_detail_62 rfl ?_
        refine P_iconst X (2) rfl 64 dX1_detail_63 rfl ?_
        refine P_isub X 65 dX1_detail_64 rfl ?_
        refine P_top (y := nI (w9 - 2)) (pk_sub (b := 2) (by omega)) ?_
        refine lX_39 X 66 dX1_detail_65 rfl rfl (by omega) ?_
        refine P_top h39 ?_
        refine lX_33 X 67 dX1_detail_66 rfl rfl (by omega) ?_
        refine P_top (htt _ hob) ?_
        refine P_goto X 71 dX1_detail_67 rfl ?_
        first
          | exact P_iret X hQ dX1_detail_71 (rti (ansY z0 z1 hlt).symm)
          | exact P_iret X hQ dX1_detail_71 (rti (ansN z0 z1 (of_decide_eq_false b51)).symm)
/-- what is given to the crew, bit by bit -/
def CIo (h h1 : Hp) (rr fr s : Nat) (dy : Int32) (i : Nat) : Prop := h1 6 7 = nI (cnt (tb s) i) ∧ h1 6 8 = dy ∧ (∀ c9, c9 < cnt (tb s) i → h1 33 c9 = nI (mT fr s c9) ∧ h1 34 c9 = h 13 (tn (h 20 (mT fr s c9))) ∧ h1 35 c9 = h 14 (tn (h 20 (mT fr s c9))) ∧ h1 36 c9 = h 7 (tn (h 12 (tn (h 20 (mT fr s c9))))) ∧ h1 37 c9 = duI h rr (tn (h 12 (tn (h 20 (mT fr s c9))))) (tn (h 20 (mT fr s c9)))) ∧ ∀ k9, k9 ≠ 6 → (k9 < 33 ∨ 37 < k9) → h1 k9 = h k9
theorem CIo_0 {h : Hp} {rr fr s : Nat} {dy : Int32} : CIo h (put (put h 6 7 0) 6 8 dy) rr fr s dy 0 := by
  refine ⟨?_, put_s, fun c9 hc => absurd hc (Nat.not_lt_zero _), fun k9 z1 z2 => ?_⟩
  · rw [put_i (by decide), put_s]; rfl
  · rw [put_n z1, put_n z1]
theorem rowX_eq {h h1 : Hp} {rr kk : Nat} (e29 : h1 29 = h 29) (e30 : h1 30 = h 30) : rowX h1 rr kk = rowX h rr kk := by
  show rowF (fun r => decide (h1 29 r = 97)) (h1 30) rr kk = rowF (fun r => decide (h 29 r = 97)) (h 30) rr kk
  rw [e29, e30]
theorem TVX_eq {h h1 : Hp} {rr : Nat} (e29 : h1 29 = h 29) (e30 : h1 30 = h 30) (e31 : h1 31 = h 31) (e32 : h1 32 = h 32) (hV : TVX h rr) : TVX h1 rr := by
  show TV (fun r => decide (h1 29 r = 97)) (fun r => decide (h1 29 r = 115)) (h1 30) (h1 31) (h1 32) rr
  rw [e29, e30, e31, e32]
  exact hV
theorem CIo_pre {h h1 : Hp} {rr fr s i : Nat} {dy : Int32} (hI : CIo h h1 rr fr s dy i) (hR : h 5 4 = nI rr) (hV : TVX h rr) (hfa : Bd (h 20) 40) (hk5 : Bd (h 12) 5) : h1 5 4 = nI rr ∧ TVX h1 rr ∧ Bd (h1 20) 40 ∧ Bd (h1 12) 5 := by
  obtain ⟨-, -, -, hF⟩ := hI
  refine ⟨by rw [hF 5 (by decide) (by decide)]; exact hR, TVX_eq (hF 29 (by decide) (by decide)) (hF 30 (by decide) (by decide)) (hF 31 (by decide) (by decide)) (hF 32 (by decide) (by decide)) hV, by rw [hF 20 (by decide) (by decide)]; exact hfa, by rw [hF 12 (by decide) (by decide)]; exact hk5⟩
theorem cnt_yy {q : Nat → Bool} {i : Nat} (h : q i = true) : cnt q (i + 1) = cnt q i + 1 := by rw [cnt, h]; rfl
theorem cnt_nn {q : Nat → Bool} {i : Nat} (h : q i = false) : cnt q (i + 1) = cnt q i := by rw [cnt, h]; rfl
theorem CIo_no {h h1 : Hp} {rr fr s i : Nat} {dy : Int32} (hI : CIo h h1 rr fr s dy i) (hb : s.testBit i = false) : CIo h h1 rr fr s dy (i + 1) := by
  rw [CIo, cnt_nn (q := tb s) hb]
  exact hI
theorem CIo_go {h h1 : Hp} {rr fr s i : Nat} {dy : Int32} (hI : CIo h h1 rr fr s dy i) (hi : i < 8) (hb : s.testBit i = true) : CIo h (gcX h1 rr (cnt (tb s) i) (fr + i)) rr fr s dy (i + 1) := by
  obtain ⟨i1, i2, i3, hF⟩ := hI
  have eb : mT fr s (cnt (tb s) i) = fr + i := by rw [mT, bp_of hi hb]
  have e7 := hF 7 (by decide) (by decide)
  have e12 := hF 12 (by decide) (by decide)
  have e13 := hF 13 (by decide) (by decide)
  have e14 := hF 14 (by decide) (by decide)
  have e16 := hF 16 (by decide) (by decide)
  have e20 := hF 20 (by decide) (by decide)
  have e32 := hF 32 (by decide) (by decide)
  have eRow : ∀ kk, rowX h1 rr kk = rowX h rr kk := fun kk => rowX_eq (hF 29 (by decide) (by decide)) (hF 30 (by decide) (by decide))
  have eDu : ∀ kk a, duI h1 rr kk a = duI h rr kk a := fun kk a => by rw [duI, duI, eRow, e16, e32]
  rw [CIo, cnt_yy (q := tb s) hb]
  refine ⟨?_, ?_, ?_, ?_⟩
  · rw [gcX, tkX, put_s]
  · rw [gcX, tkX, put_i (by decide), put_n (by decide), put_n (by decide), put_n (by decide), put_n (by decide), put_n (by decide), i2]
  · intro c9 hc
    by_cases e : c9 = cnt (tb s) i
    · subst e
      rw [eb, gcX, tkX, e20, e12, e13, e14, e7, eDu]
      refine ⟨?_, ?_, ?_, ?_, ?_⟩
      · rw [put_n (by decide), put_n (by decide), put_n (by decide), put_n (by decide), put_n (by decide), put_s]
      · rw [put_n (by decide), put_n (by decide), put_n (by decide), put_n (by decide), put_s]
      · rw [put_n (by decide), put_n (by decide), put_n (by decide), put_s]
      · rw [put_n (by decide), put_n (by decide), put_s]
      · rw [put_n (by decide), put_s]
    · obtain ⟨j1, j2, j3, j4, j5⟩ := i3 c9 (by omega)
      rw [gcX, tkX]
      refine ⟨?_, ?_, ?_, ?_, ?_⟩
      · rw [put_n (by decide), put_n (by decide), put_n (by decide), put_n (by decide), put_n (by decide), put_i e, j1]
      · rw [put_n (by decide), put_n (by decide), put_n (by decide), put_n (by decide), put_i e, put_n (by decide), j2]
      · rw [put_n (by decide), put_n (by decide), put_n (by decide), put_i e, put_n (by decide), put_n (by decide), j3]
      · rw [put_n (by decide), put_n (by decide), put_i e, put_n (by decide), put_n (by decide), put_n (by decide), j4]
      · rw [put_n (by decide), put_i e, put_n (by decide), put_n (by decide), put_n (by decide), put_n (by decide), j5]
  · intro k9 z1 z2
    rw [gcX, tkX, put_n z1, put_n (by omega), put_n (by omega), put_n (by omega), put_n (by omega), put_n (by omega), hF k9 z1 z2]
theorem tn_lt {f : Nat → Int32} {m9 : Nat} (hB : Bd f m9) (hm : m9 < 2 ^ 31) (a : Nat) : tn (f a) < m9 ∧ f a = nI (tn (f a)) := by
  obtain ⟨n9, h1, h2⟩ := hB a
  rw [h2, show tn (nI n9) = n9 from nI_clamp (by omega)]
  exact ⟨h1, rfl⟩
/-- what was promised: a day, or nothing -/
theorem prP_cases {h : Hp} {rr : Nat} (hr : rr ≤ 12) (hV : TVX h rr) (hdy : Bd (h 16) 1000) (t : Nat) : (prX h rr t = -1 ∧ rowX h rr (tn (h 12 (tn (h 20 t)))) = -1) ∨ (¬ rowX h rr (tn (h 12 (tn (h 20 t)))) = -1 ∧ ∃ j9, j9 < 1010 ∧ prX h rr t = nI j9) := by
  by_cases z : rowX h rr (tn (h 12 (tn (h 20 t)))) = -1
  · exact Or.inl ⟨if_pos z, z⟩
  · refine Or.inr ⟨z, ?_⟩
    obtain ⟨r9, e9, h9, hg9⟩ : ∃ r, rowX h rr (tn (h 12 (tn (h 20 t)))) = nI r ∧ r < rr ∧ gvX h r = true := rowF_cases.resolve_left z
    obtain ⟨d9, hd9, hd8, ed9⟩ : ∃ k, 1 ≤ k ∧ k < 10 ∧ h 32 r9 = nI k := by
      rcases hV r9 h9 with z | z
      · exact z.2.2.2.2
      · rw [z.1] at hg9; cases hg9
    obtain ⟨n9, h1, h2⟩ := hdy (tn (h 20 t))
    refine ⟨n9 + d9, by omega, ?_⟩
    rw [prX, prP, if_neg z, e9, show tn (nI r9) = r9 from nI_clamp (by omega), ed9, h2, nI_add]
theorem duI_O {h : Hp} {rr fr s c9 : Nat} (hr : rr ≤ 12) (hV : TVX h rr) (hdy : Bd (h 16) 1000) : duI h rr (tn (h 12 (tn (h 20 (mT fr s c9))))) (tn (h 20 (mT fr s c9))) = nI (duO (prX h rr) fr s c9) := by
  rcases prP_cases hr hV hdy (mT fr s c9) with ⟨z1, z2⟩ | ⟨z1, j9, z2, z3⟩
  · rw [duI, if_pos z2, duO, if_pos z1]; rfl
  · have e1 : duI h rr (tn (h 12 (tn (h 20 (mT fr s c9))))) (tn (h 20 (mT fr s c9))) = prX h rr (mT fr s c9) := by
      rw [duI, if_neg z1, prX, prP, if_neg z1]
    rw [e1, duO, z3, if_neg (nI_nm1 (by omega)), show tn (nI j9) = j9 from nI_clamp (by omega)]
theorem duO_le {pr : Nat → Int32} {fr s c9 : Nat} (hp : ∀ t, pr t = -1 ∨ ∃ j9, j9 < 1010 ∧ pr t = nI j9) : duO pr fr s c9 ≤ 1000000 := by
  rw [duO]
  rcases hp (mT fr s c9) with z | ⟨j9, h1, h2⟩
  · rw [if_pos z]; exact Nat.le_refl _
  · rw [h2, if_neg (nI_nm1 (by omega)), show tn (nI j9) = j9 from nI_clamp (by omega)]
    omega
theorem WB_O {kd xs ys fa ef pr : Nat → Int32} {fr s p0 dd : Nat} (hx : Bd xs 32) (hy : Bd ys 32) (hk : Bd kd 5) (hE : ∀ k9, k9 < 5 → ∃ n, 1 ≤ n ∧ n ≤ 40 ∧ ef k9 = nI n) (hp : ∀ t, pr t = -1 ∨ ∃ j9, j9 < 1010 ∧ pr t = nI j9) (h6 : cnt (tb s) 8 ≤ 6) (h0 : p0 < 1024) (hd : dd < 1000) : WB (pxO xs fa fr s (p0 / 32)) (pxO ys fa fr s (p0 % 32)) (efO ef kd fa fr s) (duO pr fr s) dd (cnt (tb s) 8) := by
  refine ⟨h6, hd, fun a => ?_, fun a => ?_, fun a => ?_, fun a => duO_le hp⟩
  · rw [pxO]
    split
    · exact (tn_lt hx (by omega) _).1
    · omega
  · rw [pxO]
    split
    · exact (tn_lt hy (by omega) _).1
    · omega
  · obtain ⟨n9, h1, h2, h3⟩ := hE _ (tn_lt hk (by omega) (tn (fa (mT fr s a)))).1
    rw [efO, h3, show tn (nI n9) = n9 from nI_clamp (by omega)]
    exact ⟨h1, h2⟩
theorem CIo_CW {h h1 : Hp} {rr fr s p0 dd : Nat} (hI : CIo h h1 rr fr s (nI dd) 8) (hr : rr ≤ 12) (hV : TVX h rr) (hB : AB (h 12) (h 13) (h 14) (h 15) (h 16) (h 18) (h 19)) (hE : ∀ k9, k9 < 5 → ∃ n, 1 ≤ n ∧ n ≤ 40 ∧ h 7 k9 = nI n) (h6 : cnt (tb s) 8 ≤ 6) : CW (cnt (tb s) 8) (pxO (h 13) (h 20) fr s (p0 / 32)) (pxO (h 14) (h 20) fr s (p0 % 32)) (efO (h 7) (h 12) (h 20) fr s) (duO (prX h rr) fr s) dd h1 := by
  obtain ⟨i1, i2, i3, -⟩ := hI
  refine ⟨i1, i2, fun i hi => ?_⟩
  obtain ⟨j1, j2, j3, j4, j5⟩ := i3 i hi
  refine ⟨?_, ?_, ?_, ?_⟩
  · rw [j2, pxO, if_pos (by omega)]
    exact (tn_lt hB.2.1 (by omega) _).2
  · rw [j3, pxO, if_pos (by omega)]
    exact (tn_lt hB.2.2.1 (by omega) _).2
  · obtain ⟨n9, h1', h2', h3'⟩ := hE _ (tn_lt hB.1 (by omega) (tn (h 20 (mT fr s i)))).1
    rw [j4, efO, h3', show tn (nI n9) = n9 from nI_clamp (by omega)]
  · rw [j5, duI_O hr hV hB.2.2.2.2.1]
theorem hasS {s i : Nat} (hs : s < 256) (hi : i < 8) : hasB (nI s) (nI i) = s.testBit i := by
  rw [hasB, tb_sh (by omega) (by omega)]
  cases s.testBit i <;> decide
theorem cnt_7 {s i : Nat} (h6 : cnt (tb s) 8 ≤ 6) (hi : i < 8) (hb : s.testBit i = true) : cnt (tb s) i < 6 := by
  have h1 := cnt_mono (q := tb s) (show i + 1 ≤ 8 by omega)
  rw [cnt_yy (q := tb s) hb] at h1
  omega
def FmX (h : Hp) : Hp → Prop := fun h' => ∀ k9, k9 ≠ 6 → (k9 < 33 ∨ 39 < k9) → h' k9 = h k9
set_option maxHeartbeats 4000000 in
set_option maxRecDepth 100000 in
theorem k_X8_order {d : Nat} {E : Ev} {rr nT : Nat} {f st pl dy wh : Int32} {h : Hp} (hd : 12 ≤ d) (hR : h 5 4 = nI rr) (hr12 : rr ≤ 12) (hV : TVX h rr) (hT : h 2 6 = nI nT) (hnT : nT ≤ 40) (hfa : Bd (h 20) 40) (hB : AB (h 12) (h 13) (h 14) (h 15) (h 16) (h 18) (h 19)) (hE : ∀ k9, k9 < 5 → ∃ n, 1 ≤ n ∧ n ≤ 40 ∧ h 7 k9 = nI n) : Cl d yX8_order cX8_order 8 (some .int) E (wdX E) [.ref (E.2.2.1 0), .int f, .int st, .int pl, .int dy, .int wh] h (PO nT f st pl dy wh (ordV (h 12) (h 13) (h 14) (h 20) (h 7) (prX h rr)) (fiX h) (FmX h)) := by
  refine Cl_of [some (.ref (E.2.2.1 0)), some (.int f), some (.int st), some (.int pl), some (.int dy), some (.int wh), none, none] (by decide) rfl (Nat.le_of_ble_eq_true rfl) (fun K A X hQ => ?_)
  refine P_iload3 X 1 dX8_order_0 rfl ?_
  refine S1r X 4 dX8_order_1 rfl lk_X8_188 ms_X8_isPlace rfl (by omega) (Nat.le_of_ble_eq_true rfl) (k_X8_isPlace (by omega)) ?_
  refine P_bz X 19 7 dX8_order_4 rfl rfl (fun b4 => ?_) (fun b4 => ?_)
  · refine P_iconst X (0) rfl 20 dX8_order_19 rfl ?_
    refine P_istore6 X 22 dX8_order_20 rfl (by decide) rfl ?_
    refine P_iload1 X 23 dX8_order_22 rfl ?_
    refine P_if_lt X 45 26 dX8_order_23 rfl rfl (fun b23 => ?_) (fun b23 => ?_)
    · refine P_aload0 X 46 dX8_order_45 rfl ?_
      refine P_ldc X kc_X8_90 48 dX8_order_46 rfl ?_
      refine V1r X 0 51 dX8_order_48 rfl lk_X8_91 mv_X8_finding rfl (by omega) (Nat.le_of_ble_eq_true rfl) (Nat.le_of_ble_eq_true rfl) rfl rfl (k_X8_finding (by omega)) ?_
      exact P_iret X hQ dX8_order_51 (Or.inl ⟨(by first | exact okO_pl b4 | exact okO_dy b12 | exact okO_f b23 | exact okO_w b33 | exact okO_s hfr (arT_n b42)), rfl, rfl⟩)
    · refine P_iload6 X 28 dX8_order_26 rfl ?_
      refine P_if_eq X 45 31 dX8_order_28 rfl rfl (fun b28 => ?_) (fun b28 => absurd b28 (by decide))
      refine P_aload0 X 46 dX8_order_45 rfl ?_
      refine P_ldc X kc_X8_90 48 dX8_order_46 rfl ?_
      refine V1r X 0 51 dX8_order_48 rfl lk_X8_91 mv_X8_finding rfl (by omega) (Nat.le_of_ble_eq_true rfl) (Nat.le_of_ble_eq_true rfl) rfl rfl (k_X8_finding (by omega)) ?_
      exact P_iret X hQ dX8_order_51 (Or.inl ⟨(by first | exact okO_pl b4 | exact okO_dy b12 | exact okO_f b23 | exact okO_w b33 | exact okO_s hfr (arT_n b42)), rfl, rfl⟩)
  · refine P_iload4 X 9 dX8_order_7 rfl ?_
    refine S1r X 12 dX8_order_9 rfl lk_X8_191 ms_X8_isDay rfl (by omega) (Nat.le_of_ble_eq_true rfl) (k_X8_isDay (by omega)) ?_
    refine P_bz X 19 15 dX8_order_12 rfl rfl (fun b12 => ?_) (fun b12 => ?_)
    · refine P_iconst X (0) rfl 20 dX8_order_19 rfl ?_
      refine P_istore6 X 22 dX8_order_20 rfl (by decide) rfl ?_
      refine P_iload1 X 23 dX8_order_22 rfl ?_
      refine P_if_lt X 45 26 dX8_order_23 rfl rfl (fun b23 => ?_) (fun b23 => ?_)
      · refine P_aload0 X 46 dX8_order_45 rfl ?_
        refine P_ldc X kc_X8_90 48 dX8_order_46 rfl ?_
        refine V1r X 0 51 dX8_order_48 rfl lk_X8_91 mv_X8_finding rfl (by omega) (Nat.le_of_ble_eq_true rfl) (Nat.le_of_ble_eq_true rfl) rfl rfl (k_X8_finding (by omega)) ?_
        exact P_iret X hQ dX8_order_51 (Or.inl ⟨(by first | exact okO_pl b4 | exact okO_dy b12 | exact okO_f b23 | exact okO_w b33 | exact okO_s hfr (arT_n b42)), rfl, rfl⟩)
      · refine P_iload6 X 28 dX8_order_26 rfl ?_
        refine P_if_eq X 45 31 dX8_order_28 rfl rfl (fun b28 => ?_) (fun b28 => absurd b28 (by decide))
        refine P_aload0 X 46 dX8_order_45 rfl ?_
        refine P_ldc X kc_X8_90 48 dX8_order_46 rfl ?_
        refine V1r X 0 51 dX8_order_48 rfl lk_X8_91 mv_X8_finding rfl (by omega) (Nat.le_of_ble_eq_true rfl) (Nat.le_of_ble_eq_true rfl) rfl rfl (k_X8_finding (by omega)) ?_
        exact P_iret X hQ dX8_order_51 (Or.inl ⟨(by first | exact okO_pl b4 | exact okO_dy b12 | exact okO_f b23 | exact okO_w b33 | exact okO_s hfr (arT_n b42)), rfl, rfl⟩)
    · refine P_iconst X (1) rfl 16 dX8_order_15 rfl ?_
      refine P_goto X 20 dX8_order_16 rfl ?_
      refine P_istore6 X 22 dX8_order_20 rfl (by decide) rfl ?_
      refine P_iload1 X 23 dX8_order_22 rfl ?_
      refine P_if_lt X 45 26 dX8_order_23 rfl rfl (fun b23 => ?_) (fun b23 => ?_)
      · refine P_aload0 X 46 dX8_order_45 rfl ?_
        refine P_ldc X kc_X8_90 48 dX8_order_46 rfl ?_
        refine V1r X 0 51 dX8_order_48 rfl lk_X8_91 mv_X8_finding rfl (by omega) (Nat.le_of_ble_eq_true rfl) (Nat.le_of_ble_eq_true rfl) rfl rfl (k_X8_finding (by omega)) ?_
        exact P_iret X hQ dX8_order_51 (Or.inl ⟨(by first | exact okO_pl b4 | exact okO_dy b12 | exact okO_f b23 | exact okO_w b33 | exact okO_s hfr (arT_n b42)), rfl, rfl⟩)
      · refine P_iload6 X 28 dX8_order_26 rfl ?_
        refine P_if_eq X 45 31 dX8_order_28 rfl rfl (fun b28 => absurd b28 (by decide)) (fun b28 => ?_)
        refine P_iload5 X 33 dX8_order_31 rfl ?_
        refine P_if_lt X 45 36 dX8_order_33 rfl rfl (fun b33 => ?_) (fun b33 => ?_)
        · refine P_aload0 X 46 dX8_order_45 rfl ?_
          refine P_ldc X kc_X8_90 48 dX8_order_46 rfl ?_
          refine V1r X 0 51 dX8_order_48 rfl lk_X8_91 mv_X8_finding rfl (by omega) (Nat.le_of_ble_eq_true rfl) (Nat.le_of_ble_eq_true rfl) rfl rfl (k_X8_finding (by omega)) ?_
          exact P_iret X hQ dX8_order_51 (Or.inl ⟨(by first | exact okO_pl b4 | exact okO_dy b12 | exact okO_f b23 | exact okO_w b33 | exact okO_s hfr (arT_n b42)), rfl, rfl⟩)
        · obtain ⟨fr, hfr, rfl⟩ := nI_of b23
          obtain ⟨w9, hw9, rfl⟩ := nI_of b33
          refine P_aload0 X 37 dX8_order_36 rfl ?_
          refine P_iload1 X 38 dX8_order_37 rfl ?_
          refine P_iload2 X 39 dX8_order_38 rfl ?_
          refine V2r X 0 42 dX8_order_39 rfl lk_X8_194 mv_X8_areThings rfl (by omega) (Nat.le_of_ble_eq_true rfl) (Nat.le_of_ble_eq_true rfl) rfl rfl (k_X8_areThings (by omega) hT hnT hfr) ?_
          refine P_bn X 52 45 dX8_order_42 rfl rfl (fun b42 => ?_) (fun b42 => ?_)
          · obtain ⟨s, rfl, hs1, hs2, hs3⟩ := arT_y b42
            obtain ⟨p0, hp0, rfl⟩ := inB_ex 1023 b4
            obtain ⟨dd, hdd, rfl⟩ := inB_ex 999 b12
            have hok : okP nT (nI fr) (nI s) (nI p0) (nI dd) (nI w9) fr s p0 dd w9 := ⟨rfl, rfl, rfl, rfl, rfl, hfr, hs1, hs2, hp0, hdd, hw9, hs3⟩
            refine P_iload2 X 53 dX8_order_52 rfl ?_
            refine S1r X 56 dX8_order_53 rfl lk_X8_197 ms_J6_bitCount_0f7a4 rfl (by omega) (Nat.le_of_ble_eq_true rfl) (k_J6_bitCount_0f7a4 (by omega) hs2) ?_
            refine P_bipush X (6) rfl 58 dX8_order_56 rfl ?_
            refine P_icmp_le X 68 61 dX8_order_58 rfl rfl (fun b58 => ?_) (fun b58 => ?_)
            · have h6 : cnt (tb s) 8 ≤ 6 := (nI_leI (b := 6) (Nat.lt_of_le_of_lt (cnt_le _ 8) (by decide)) (by decide)).mp b58
              refine P_aload0 X 69 dX8_order_68 rfl ?_
              refine gX_0_5 X 72 dX8_order_69 rfl fl_X8_47 ?_
              refine P_iload4 X 74 dX8_order_72 rfl ?_
              refine V1v X 6 77 dX8_order_74 rfl lk_X8_202 mv_X1_begin rfl (by omega) (Nat.le_of_ble_eq_true rfl) (Nat.le_of_ble_eq_true rfl) rfl rfl (k_X1_begin (by omega)) ?_
              refine P_iconst X (0) rfl 78 dX8_order_77 rfl ?_
              refine P_istore7 X 80 dX8_order_78 rfl (by decide) rfl ?_
              have L : ∀ (m i : Nat) (h1 : Hp), i + m = 8 → (CIo h h1 rr fr s (nI dd) i) → GW K 8 E (wdX E) A 80 [some (.ref (E.2.2.1 0)), some (.int (nI fr)), some (.int (nI s)), some (.int (nI p0)), some (.int (nI dd)), some (.int (nI w9)), some (.int 1), some (.int (nI i))] [] h1 := by
                intro m
                induction m with
                | zero =>
                  intro i h1 hm hI0
                  refine P_iload7 X 82 dX8_order_80 rfl ?_
                  refine P_bipush X (8) rfl 84 dX8_order_82 rfl ?_
                  refine P_icmp_ge X 110 87 dX8_order_84 rfl rfl (fun b84 => ?_) (fun b84 => ?_)
                  · have hie : i = 8 := by omega
                    rw [hie] at hI0
                    have hCW := CIo_CW (p0 := p0) hI0 hr12 hV hB hE h6
                    have hWB := WB_O (fa := h 20) (fr := fr) (pr := prX h rr) hB.2.1 hB.2.2.1 hB.1 hE (fun t => (prP_cases hr12 hV hB.2.2.2.2.1 t).elim (fun z => Or.inl z.1) (fun z => Or.inr z.2)) h6 hp0 hdd
                    refine P_aload0 X 111 dX8_order_110 rfl ?_
                    refine gX_0_5 X 114 dX8_order_111 rfl fl_X8_47 ?_
                    refine P_iload3 X 115 dX8_order_114 rfl ?_
                    refine P_bipush X (32) rfl 117 dX8_order_115 rfl ?_
                    refine P_idiv X (by decide) 118 dX8_order_117 rfl ?_
                    refine P_top (y := nI (pxO (h 13) (h 20) fr s (p0 / 32) 6)) (pk_div (d := 32) (by omega) (by decide) (by decide)) ?_
                    refine P_iload3 X 119 dX8_order_118 rfl ?_
                    refine P_bipush X (32) rfl 121 dX8_order_119 rfl ?_
                    refine P_irem X (by decide) 122 dX8_order_121 rfl ?_
                    refine P_top (y := nI (pxO (h 14) (h 20) fr s (p0 % 32) 6)) (pk_rem (d := 32) (by omega) (by decide) (by decide)) ?_
                    refine V2g X 6 125 dX8_order_122 rfl lk_X8_212 mv_X1_findOrder rfl (by omega) (Nat.le_of_ble_eq_true rfl) (Nat.le_of_ble_eq_true rfl) rfl rfl (k_X1_findOrder (by omega) hWB hCW) (fun r h2 hp => ?_)
                    obtain ⟨rfl, hBX, hS⟩ := hp
                    change GW K 8 E (wdX E) A 125 [some (.ref (E.2.2.1 0)), some (.int (nI fr)), some (.int (nI s)), some (.int (nI p0)), some (.int (nI dd)), some (.int (nI w9)), some (.int 1), some (.int (nI i))] [] h2
                    have hc2 := (CW_sm hCW hS).1
                    have hBO := BsT_ok hWB
                    have htt : ∀ c9, c9 < cnt (tb s) 8 → h2 33 c9 = nI (mT fr s c9) := fun c9 hc => by rw [hS.2.2 33 (by decide) (by decide) (by decide)]; exact (hI0.2.2.1 c9 hc).1
                    refine P_aload0 X 126 dX8_order_125 rfl ?_
                    refine gX_0_5 X 129 dX8_order_126 rfl fl_X8_47 ?_
                    refine P_iload5 X 131 dX8_order_129 rfl ?_
                    refine V1r X 6 134 dX8_order_131 rfl lk_X8_216 mv_X1_detail rfl (by omega) (Nat.le_of_ble_eq_true rfl) (Nat.le_of_ble_eq_true rfl) rfl rfl (k_X1_detail (by omega) hw9 hc2 h6 hBX hBO.2 hBO.1 htt) ?_
                    exact P_iret X hQ dX8_order_134 (Or.inr (Or.inr ⟨fr, s, p0, dd, w9, hok, h6, rfl, fun k9 z1 z2 => by rw [hS.2.2 k9 z1 (by omega) (by omega)]; exact hI0.2.2.2 k9 z1 (by omega)⟩))
                  · exact (geN (show (8 : Int32) = nI 8 from rfl) b84 (by omega) (by omega)).elim
                | succ m ih =>
                  intro i h1 hm hI0
                  refine P_iload7 X 82 dX8_order_80 rfl ?_
                  refine P_bipush X (8) rfl 84 dX8_order_82 rfl ?_
                  refine P_icmp_ge X 110 87 dX8_order_84 rfl rfl (fun b84 => ?_) (fun b84 => ?_)
                  · exact (geY (show (8 : Int32) = nI 8 from rfl) b84 (by omega) (by omega)).elim
                  · refine P_iload2 X 88 dX8_order_87 rfl ?_
                    refine P_iload7 X 90 dX8_order_88 rfl ?_
                    refine S2r X 93 dX8_order_90 rfl lk_X8_206 ms_X8_hasBit rfl (by omega) (Nat.le_of_ble_eq_true rfl) (k_X8_hasBit (by omega)) ?_
                    rw [hasS hs2 (by omega)]
                    refine P_bz X 104 96 dX8_order_93 rfl rfl (fun b93 => ?_) (fun b93 => ?_)
                    · refine P_iinc7 X (1) rfl 107 dX8_order_104 rfl (by decide) rfl ?_
                      refine P_goto X 80 dX8_order_107 rfl ?_
                      rw [nI_1]
                      first | exact ih (i + 1) _ (by omega) (CIo_go hI0 (by omega) b93) | exact ih (i + 1) _ (by omega) (CIo_no hI0 b93)
                    · obtain ⟨q1, q2, q3, q4⟩ := CIo_pre hI0 hR hV hfa hB.1
                      have hlt := hs3 i b93
                      refine P_aload0 X 97 dX8_order_96 rfl ?_
                      refine P_iload1 X 98 dX8_order_97 rfl ?_
                      refine P_iload7 X 100 dX8_order_98 rfl ?_
                      refine P_iadd X 101 dX8_order_100 rfl ?_
                      rw [nI_add]
                      refine V1v X 0 104 dX8_order_101 rfl lk_X8_209 mv_X8_giveToCrew rfl (by omega) (Nat.le_of_ble_eq_true rfl) (Nat.le_of_ble_eq_true rfl) rfl rfl (k_X8_giveToCrew (by omega) q1 hr12 q2 (by omega) q3 q4 hI0.1 (cnt_7 h6 (by omega) b93)) ?_
                      refine P_iinc7 X (1) rfl 107 dX8_order_104 rfl (by decide) rfl ?_
                      refine P_goto X 80 dX8_order_107 rfl ?_
                      rw [nI_1]
                      first | exact ih (i + 1) _ (by omega) (CIo_go hI0 (by omega) b93) | exact ih (i + 1) _ (by omega) (CIo_no hI0 b93)
              exact L 8 0 _ (by omega) CIo_0
            · refine P_aload0 X 62 dX8_order_61 rfl ?_
              refine P_ldc X kc_X8_130 64 dX8_order_62 rfl ?_
              refine V1r X 0 67 dX8_order_64 rfl lk_X8_91 mv_X8_finding rfl (by omega) (Nat.le_of_ble_eq_true rfl) (Nat.le_of_ble_eq_true rfl) rfl rfl (k_X8_finding (by omega)) ?_
              exact P_iret X hQ dX8_order_67 (Or.inr (Or.inl ⟨fr, s, p0, dd, w9, hok, Nat.lt_of_not_le (fun z => b58 (nI_le (b := 6) z (by decide))), rfl, rfl⟩))
          · refine P_aload0 X 46 dX8_order_45 rfl ?_
            refine P_ldc X kc_X8_90 48 dX8_order_46 rfl ?_
            refine V1r X 0 51 dX8_order_48 rfl lk_X8_91 mv_X8_finding rfl (by omega) (Nat.le_of_ble_eq_true rfl) (Nat.le_of_ble_eq_true rfl) rfl rfl (k_X8_finding (by omega)) ?_
            exact P_iret X hQ dX8_order_51 (Or.inl ⟨(by first | exact okO_pl b4 | exact okO_dy b12 | exact okO_f b23 | exact okO_w b33 | exact okO_s hfr (arT_n b42)), rfl, rfl⟩)
