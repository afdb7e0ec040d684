/-- an ask as it may come -/
def QA (k x y db dy : Int32) : Prop := (∃ m, m < 5 ∧ k = nI m) ∧ (∃ m, m < 32 ∧ x = nI m) ∧ (∃ m, m < 32 ∧ y = nI m) ∧ (∃ m, m < 10 ∧ db = nI m) ∧ (∃ m, m < 1000 ∧ dy = nI m)
theorem AB_upd {kd xs ys db dy nr ap : Nat → Int32} {k x y b t : Int32} {n : Nat} (h : AB kd xs ys db dy nr ap) (q : QA k x y b t) : AB (upd kd n k) (upd xs n x) (upd ys n y) (upd db n b) (upd dy n t) nr ap := by
  obtain ⟨⟨m1, q1, e1⟩, ⟨m2, q2, e2⟩, ⟨m3, q3, e3⟩, ⟨m4, q4, e4⟩, ⟨m5, q5, e5⟩⟩ := q
  exact ⟨Bd_upd h.1 q1 e1, Bd_upd h.2.1 q2 e2, Bd_upd h.2.2.1 q3 e3, Bd_upd h.2.2.2.1 q4 e4, Bd_upd h.2.2.2.2.1 q5 e5, h.2.2.2.2.2.1, h.2.2.2.2.2.2⟩
def newT (kd xs ys db dy nr ap th op : Nat → Int32) (n nT : Nat) (k x y b t : Int32) : Nat := fst (fun i => cand (upd kd n k) (upd xs n x) (upd ys n y) (upd db n b) (upd dy n t) nr ap th op n n i) nT
theorem cand_m1 {kd xs ys db dy nr ap th op : Nat → Int32} {n t : Nat} (ht : t < 2 ^ 31) : cand kd xs ys db dy nr ap (upd th n (-1)) op (n + 1) n t = cand kd xs ys db dy nr ap th op n n t := by
  have e1 : ¬ (-1 : Int32) = nI t := fun z => by
    have h1 := nI_pos ht
    rw [← z] at h1
    exact h1 (by decide)
  have e2 : alln (fun o => !decide (upd th n (-1) o = nI t) || mtB kd xs ys db dy nr ap o n) n = alln (fun o => !decide (th o = nI t) || mtB kd xs ys db dy nr ap o n) n := alln_cong (fun j hj => by
    have : upd th n (-1) j = th j := by simp [upd]; intro z; omega
    simp only [this])
  have e3 : (!decide (upd th n (-1) n = nI t) || mtB kd xs ys db dy nr ap n n) = true := by
    have : upd th n (-1) n = -1 := by simp [upd]
    rw [this, decide_eq_false e1]; rfl
  simp only [cand, alln]
  rw [e2, e3, Bool.and_true]
def joinH (h : Hp) (n nT : Nat) (k x y db dy : Int32) (T : Nat) : Hp := put (if T < nT then addH h n k x y db dy else begH (addH h n k x y db dy) nT n) 17 n (nI T)
theorem nI_nm1 {t : Nat} (ht : t < 2 ^ 31) : ¬ nI t = -1 := fun z => by
  have h1 := nI_pos ht
  rw [z] at h1
  exact h1 (by decide)

set_option maxHeartbeats 4000000 in
set_option maxRecDepth 100000 in
theorem k_X8_join {d : Nat} {E : Ev} {n nT : Nat} {k x y db dy : Int32} {h : Hp} (hd : 6 ≤ d) (hc : h 1 8 = nI n) (hn : n < 40) (hT : h 2 6 = nI nT) (hnT : nT ≤ n) (hB : AB (h 12) (h 13) (h 14) (h 15) (h 16) (h 18) (h 19)) (hq : QA k x y db dy) : Cl d yX8_join cX8_join 8 (some .int) E (wdX E) [.ref (E.2.2.1 0), .int k, .int x, .int y, .int db, .int dy] h (Rt (some (.int (nI (newT (h 12) (h 13) (h 14) (h 15) (h 16) (h 18) (h 19) (h 17) (h 21) n nT k x y db dy)))) (joinH h n nT k x y db dy (newT (h 12) (h 13) (h 14) (h 15) (h 16) (h 18) (h 19) (h 17) (h 21) n nT k x y db dy))) := by
  refine Cl_of [some (.ref (E.2.2.1 0)), some (.int k), some (.int x), some (.int y), some (.int db), some (.int dy), none, none] (by decide) rfl (Nat.le_of_ble_eq_true rfl) (fun K A X hQ => ?_)
  have f1 : addH h n k x y db dy 1 8 = nI (n + 1) := by simp [addH, put, up2, upd]
  have f2 : addH h n k x y db dy 2 6 = nI nT := by simp [addH, put, up2, upd, hT]
  have a12 : addH h n k x y db dy 12 = upd (h 12) n k := by simp [addH, put, up2]
  have a13 : addH h n k x y db dy 13 = upd (h 13) n x := by simp [addH, put, up2]
  have a14 : addH h n k x y db dy 14 = upd (h 14) n y := by simp [addH, put, up2]
  have a15 : addH h n k x y db dy 15 = upd (h 15) n db := by simp [addH, put, up2]
  have a16 : addH h n k x y db dy 16 = upd (h 16) n dy := by simp [addH, put, up2]
  have a17 : addH h n k x y db dy 17 = upd (h 17) n (-1) := by simp [addH, put, up2]
  have a18 : addH h n k x y db dy 18 = h 18 := by simp [addH, put, up2]
  have a19 : addH h n k x y db dy 19 = h 19 := by simp [addH, put, up2]
  have a21 : addH h n k x y db dy 21 = h 21 := by simp [addH, put, up2]
  have f3 : AB (addH h n k x y db dy 12) (addH h n k x y db dy 13) (addH h n k x y db dy 14) (addH h n k x y db dy 15) (addH h n k x y db dy 16) (addH h n k x y db dy 18) (addH h n k x y db dy 19) := by rw [a12, a13, a14, a15, a16, a18, a19]; exact AB_upd hB hq
  have eT : fst (fun t => cand (addH h n k x y db dy 12) (addH h n k x y db dy 13) (addH h n k x y db dy 14) (addH h n k x y db dy 15) (addH h n k x y db dy 16) (addH h n k x y db dy 18) (addH h n k x y db dy 19) (addH h n k x y db dy 17) (addH h n k x y db dy 21) (n + 1) n t) nT = newT (h 12) (h 13) (h 14) (h 15) (h 16) (h 18) (h 19) (h 17) (h 21) n nT k x y db dy := by
    rw [a12, a13, a14, a15, a16, a17, a18, a19, a21]
    exact fst_cong (fun j hj => cand_m1 (by omega))
  have hle : newT (h 12) (h 13) (h 14) (h 15) (h 16) (h 18) (h 19) (h 17) (h 21) n nT k x y db dy ≤ nT := fst_le _ _
  generalize hTT : newT (h 12) (h 13) (h 14) (h 15) (h 16) (h 18) (h 19) (h 17) (h 21) n nT k x y db dy = T at eT hle hQ
  refine P_aload0 X 1 dX8_join_0 rfl ?_
  refine gX_0_0 X 4 dX8_join_1 rfl fl_X8_10 ?_
  refine P_iload1 X 5 dX8_join_4 rfl ?_
  refine P_iload2 X 6 dX8_join_5 rfl ?_
  refine P_iload3 X 7 dX8_join_6 rfl ?_
  refine P_iload4 X 9 dX8_join_7 rfl ?_
  refine P_iload5 X 11 dX8_join_9 rfl ?_
  refine V5r X 1 14 dX8_join_11 rfl lk_X8_311 mv_X0_add rfl (by omega) (Nat.le_of_ble_eq_true rfl) (Nat.le_of_ble_eq_true rfl) rfl rfl (k_X0_add (by omega) hc hn) ?_
  refine P_istore6 X 16 dX8_join_14 rfl (by decide) rfl ?_
  refine P_aload0 X 17 dX8_join_16 rfl ?_
  refine P_iload6 X 19 dX8_join_17 rfl ?_
  refine V1r X 0 22 dX8_join_19 rfl lk_X8_314 mv_X8_firstOpenThingFor rfl (by omega) (Nat.le_of_ble_eq_true rfl) (Nat.le_of_ble_eq_true rfl) rfl rfl (k_X8_firstOpenThingFor (n := n + 1) (nT := nT) (a := n) (by omega) f1 (by omega) f2 (by omega) (by omega) f3) ?_
  rw [fsI, eT]
  refine P_istore7 X 24 dX8_join_22 rfl (by decide) rfl ?_
  by_cases hlt : T < nT
  · rw [if_pos hlt]
    refine P_iload7 X 26 dX8_join_24 rfl ?_
    refine P_iconst X (-1) rfl 27 dX8_join_26 rfl ?_
    refine P_icmp_ne X 41 30 dX8_join_27 rfl rfl (fun b27 => ?_) (fun b27 => ?_)
    · refine P_aload0 X 42 dX8_join_41 rfl ?_
      refine gX_0_0 X 45 dX8_join_42 rfl fl_X8_10 ?_
      refine gX_1_5 X 48 dX8_join_45 rfl fl_X8_127 ?_
      refine P_iload6 X 50 dX8_join_48 rfl ?_
      refine P_iload7 X 52 dX8_join_50 rfl ?_
      refine sX_17 X 53 dX8_join_52 rfl rfl (by omega) ?_
      refine P_iload7 X 55 dX8_join_53 rfl ?_
      exact P_iret X hQ dX8_join_55 ⟨rfl, by rw [joinH, if_pos hlt]⟩
    · exact absurd b27 (nI_nm1 (by omega))
  · rw [if_neg hlt]
    have hge : T = nT := by omega
    refine P_iload7 X 26 dX8_join_24 rfl ?_
    refine P_iconst X (-1) rfl 27 dX8_join_26 rfl ?_
    refine P_icmp_ne X 41 30 dX8_join_27 rfl rfl (fun b27 => ?_) (fun b27 => ?_)
    · exact absurd rfl b27
    · refine P_aload0 X 31 dX8_join_30 rfl ?_
      refine gX_0_1 X 34 dX8_join_31 rfl fl_X8_19 ?_
      refine P_iload6 X 36 dX8_join_34 rfl ?_
      refine V1r X 2 39 dX8_join_36 rfl lk_X8_317 mv_X7_begin rfl (by omega) (Nat.le_of_ble_eq_true rfl) (Nat.le_of_ble_eq_true rfl) rfl rfl (k_X7_begin (by omega) f2 (by omega)) ?_
      refine P_istore7 X 41 dX8_join_39 rfl (by decide) rfl ?_
      refine P_aload0 X 42 dX8_join_41 rfl ?_
      refine gX_0_0 X 45 dX8_join_42 rfl fl_X8_10 ?_
      refine gX_1_5 X 48 dX8_join_45 rfl fl_X8_127 ?_
      refine P_iload6 X 50 dX8_join_48 rfl ?_
      refine P_iload7 X 52 dX8_join_50 rfl ?_
      refine sX_17 X 53 dX8_join_52 rfl rfl (by omega) ?_
      refine P_iload7 X 55 dX8_join_53 rfl ?_
      exact P_iret X hQ dX8_join_55 ⟨by rw [hge], by rw [joinH, if_neg (by omega), hge]⟩
def g1Y (g : Hp) (n : Nat) (k x y db dy : Int32) : Hp := put (put (put (put (put g 1 n k) 2 n x) 3 n y) 4 n db) 5 n dy
def g2Y (g : Hp) (n nT : Nat) : Hp := put (put (put (put (put (put g 9 nT (nI n)) 10 nT 1) 11 nT 0) 12 nT (-1)) 14 nT 0) 0 10 (nI (nT + 1))
def comeY (g : Hp) (n nT : Nat) (k x y db dy : Int32) (T : Nat) : Hp := put (put (if T < nT then g1Y g n k x y db dy else g2Y (g1Y g n k x y db dy) n nT) 6 n (nI T)) 0 1 (nI (n + 1))
theorem ge0_nI {T : Nat} (h : T < 2 ^ 31) : (0 : Int32) ≤ nI T := nI_pos' h
theorem bI_of01 {v : Int32} (h : ∃ m, m < 2 ∧ v = nI m) : v = bI (!decide (v = 0)) := by
  obtain ⟨m, h1, rfl⟩ := h
  rcases (show m = 0 ∨ m = 1 by omega) with rfl | rfl <;> decide

set_option maxHeartbeats 4000000 in
set_option maxRecDepth 100000 in
theorem k_X9_comes {d : Nat} {E : Ev} {n nT : Nat} {k x y db dy : Int32} {h : Hp} (hd : 3 ≤ d) (hc : h 0 1 = nI n) (hn : n < 40) (hT : h 0 10 = nI nT) (hnT : nT ≤ n) (hB : AB (h 1) (h 2) (h 3) (h 4) (h 5) (h 7) (h 8)) (hop : Bd (h 10) 2) (hq : QA k x y db dy) : Cl d yX9_comes cX9_comes 10 (some .int) E (wdY E) [.ref (E.2.2.1 0), .int k, .int x, .int y, .int db, .int dy] h (Rt (some (.int (nI (newT (h 1) (h 2) (h 3) (h 4) (h 5) (h 7) (h 8) (h 6) (h 10) n nT k x y db dy)))) (comeY h n nT k x y db dy (newT (h 1) (h 2) (h 3) (h 4) (h 5) (h 7) (h 8) (h 6) (h 10) n nT k x y db dy))) := by
  refine Cl_of [some (.ref (E.2.2.1 0)), some (.int k), some (.int x), some (.int y), some (.int db), some (.int dy), none, none, none, none] (by decide) rfl (Nat.le_of_ble_eq_true rfl) (fun K A X hQ => ?_)
  refine P_aload0 X 1 dX9_comes_0 rfl ?_
  refine gY_0_2 X 4 dX9_comes_1 rfl fl_X9_7 ?_
  refine P_aload0 X 5 dX9_comes_4 rfl ?_
  refine gY_0_1 X 8 dX9_comes_5 rfl fl_X9_115 ?_
  refine P_top hc ?_
  refine P_iload1 X 9 dX9_comes_8 rfl ?_
  refine sY_1 X 10 dX9_comes_9 rfl rfl (by omega) ?_
  refine P_aload0 X 11 dX9_comes_10 rfl ?_
  refine gY_0_3 X 14 dX9_comes_11 rfl fl_X9_13 ?_
  refine P_aload0 X 15 dX9_comes_14 rfl ?_
  refine gY_0_1 X 18 dX9_comes_15 rfl fl_X9_115 ?_
  refine P_top (y := nI n) (by simp [put, up2, upd, hc]) ?_
  refine P_iload2 X 19 dX9_comes_18 rfl ?_
  refine sY_2 X 20 dX9_comes_19 rfl rfl (by omega) ?_
  refine P_aload0 X 21 dX9_comes_20 rfl ?_
  refine gY_0_4 X 24 dX9_comes_21 rfl fl_X9_16 ?_
  refine P_aload0 X 25 dX9_comes_24 rfl ?_
  refine gY_0_1 X 28 dX9_comes_25 rfl fl_X9_115 ?_
  refine P_top (y := nI n) (by simp [put, up2, upd, hc]) ?_
  refine P_iload3 X 29 dX9_comes_28 rfl ?_
  refine sY_3 X 30 dX9_comes_29 rfl rfl (by omega) ?_
  refine P_aload0 X 31 dX9_comes_30 rfl ?_
  refine gY_0_5 X 34 dX9_comes_31 rfl fl_X9_19 ?_
  refine P_aload0 X 35 dX9_comes_34 rfl ?_
  refine gY_0_1 X 38 dX9_comes_35 rfl fl_X9_115 ?_
  refine P_top (y := nI n) (by simp [put, up2, upd, hc]) ?_
  refine P_iload4 X 40 dX9_comes_38 rfl ?_
  refine sY_4 X 41 dX9_comes_40 rfl rfl (by omega) ?_
  refine P_aload0 X 42 dX9_comes_41 rfl ?_
  refine gY_0_6 X 45 dX9_comes_42 rfl fl_X9_22 ?_
  refine P_aload0 X 46 dX9_comes_45 rfl ?_
  refine gY_0_1 X 49 dX9_comes_46 rfl fl_X9_115 ?_
  refine P_top (y := nI n) (by simp [put, up2, upd, hc]) ?_
  refine P_iload5 X 51 dX9_comes_49 rfl ?_
  refine sY_5 X 52 dX9_comes_51 rfl rfl (by omega) ?_
  have f1 : g1Y h n k x y db dy 0 1 = nI n := by simp [g1Y, put, up2, hc]
  have f2 : g1Y h n k x y db dy 0 10 = nI nT := by simp [g1Y, put, up2, hT]
  have a1 : g1Y h n k x y db dy 1 = upd (h 1) n k := by simp [g1Y, put, up2]
  have a2 : g1Y h n k x y db dy 2 = upd (h 2) n x := by simp [g1Y, put, up2]
  have a3 : g1Y h n k x y db dy 3 = upd (h 3) n y := by simp [g1Y, put, up2]
  have a4 : g1Y h n k x y db dy 4 = upd (h 4) n db := by simp [g1Y, put, up2]
  have a5 : g1Y h n k x y db dy 5 = upd (h 5) n dy := by simp [g1Y, put, up2]
  have a6 : g1Y h n k x y db dy 6 = h 6 := by simp [g1Y, put, up2]
  have a7 : g1Y h n k x y db dy 7 = h 7 := by simp [g1Y, put, up2]
  have a8 : g1Y h n k x y db dy 8 = h 8 := by simp [g1Y, put, up2]
  have a10 : g1Y h n k x y db dy 10 = h 10 := by simp [g1Y, put, up2]
  have f3 : AB (g1Y h n k x y db dy 1) (g1Y h n k x y db dy 2) (g1Y h n k x y db dy 3) (g1Y h n k x y db dy 4) (g1Y h n k x y db dy 5) (g1Y h n k x y db dy 7) (g1Y h n k x y db dy 8) := by rw [a1, a2, a3, a4, a5, a7, a8]; exact AB_upd hB hq
  have f4 : Bd (g1Y h n k x y db dy 10) 2 := by rw [a10]; exact hop
  have eT : fst (fun t => cand (g1Y h n k x y db dy 1) (g1Y h n k x y db dy 2) (g1Y h n k x y db dy 3) (g1Y h n k x y db dy 4) (g1Y h n k x y db dy 5) (g1Y h n k x y db dy 7) (g1Y h n k x y db dy 8) (g1Y h n k x y db dy 6) (g1Y h n k x y db dy 10) n n t) nT = newT (h 1) (h 2) (h 3) (h 4) (h 5) (h 7) (h 8) (h 6) (h 10) n nT k x y db dy := by rw [a1, a2, a3, a4, a5, a6, a7, a8, a10]; rfl
  have hle : newT (h 1) (h 2) (h 3) (h 4) (h 5) (h 7) (h 8) (h 6) (h 10) n nT k x y db dy ≤ nT := fst_le _ _
  generalize hTT : newT (h 1) (h 2) (h 3) (h 4) (h 5) (h 7) (h 8) (h 6) (h 10) n nT k x y db dy = T at eT hle hQ
  show GW K 10 E (wdY E) A 52 [some (.ref (E.2.2.1 0)), some (.int k), some (.int x), some (.int y), some (.int db), some (.int dy), none, none, none, none] [] (g1Y h n k x y db dy)
  generalize hg1 : g1Y h n k x y db dy = g1 at f1 f2 f3 f4 eT ⊢
  clear a1 a2 a3 a4 a5 a6 a7 a8 a10
  have E1 : T < nT → ∀ o7 o8 o9, GW K 10 E (wdY E) A 156 [some (.ref (E.2.2.1 0)), some (.int k), some (.int x), some (.int y), some (.int db), some (.int dy), some (.int (nI T)), o7, o8, o9] [] g1 := by
    intro hlt o7 o8 o9
    refine P_iload6 X 158 dX9_comes_156 rfl ?_
    refine P_if_ge X 230 161 dX9_comes_158 rfl rfl (fun b158 => ?_) (fun b158 => ?_)
    · refine P_aload0 X 231 dX9_comes_230 rfl ?_
      refine gY_0_7 X 234 dX9_comes_231 rfl fl_X9_25 ?_
      refine P_aload0 X 235 dX9_comes_234 rfl ?_
      refine gY_0_1 X 238 dX9_comes_235 rfl fl_X9_115 ?_
      refine P_top f1 ?_
      refine P_iload6 X 240 dX9_comes_238 rfl ?_
      refine sY_6 X 241 dX9_comes_240 rfl rfl (by omega) ?_
      refine P_aload0 X 242 dX9_comes_241 rfl ?_
      refine P_dup X rfl 243 dX9_comes_242 rfl ?_
      refine gY_0_1 X 246 dX9_comes_243 rfl fl_X9_115 ?_
      refine P_top (y := nI n) (by simp [put, up2, upd, f1]) ?_
      refine P_iconst X (1) rfl 247 dX9_comes_246 rfl ?_
      refine P_iadd X 248 dX9_comes_247 rfl ?_
      rw [nI_1]
      refine pY_0_1 X 251 dX9_comes_248 rfl fw_X9_115 ?_
      refine P_iload6 X 253 dX9_comes_251 rfl ?_
      exact P_iret X hQ dX9_comes_253 ⟨rfl, by rw [comeY, if_pos hlt, hg1]⟩
    · exact absurd (ge0_nI (by omega)) b158
  have E2 : T = nT → ∀ o7 o8 o9, GW K 10 E (wdY E) A 156 [some (.ref (E.2.2.1 0)), some (.int k), some (.int x), some (.int y), some (.int db), some (.int dy), some (.int (-1)), o7, o8, o9] [] g1 := by
    intro hge o7 o8 o9
    refine P_iload6 X 158 dX9_comes_156 rfl ?_
    refine P_if_ge X 230 161 dX9_comes_158 rfl rfl (fun b158 => ?_) (fun b158 => ?_)
    · exact absurd b158 (by decide)
    · refine P_aload0 X 162 dX9_comes_161 rfl ?_
      refine gY_0_10 X 165 dX9_comes_162 rfl fl_X9_118 ?_
      refine P_top f2 ?_
      refine P_istore6 X 167 dX9_comes_165 rfl (by decide) rfl ?_
      refine P_aload0 X 168 dX9_comes_167 rfl ?_
      refine gY_0_11 X 171 dX9_comes_168 rfl fl_X9_34 ?_
      refine P_aload0 X 172 dX9_comes_171 rfl ?_
      refine gY_0_10 X 175 dX9_comes_172 rfl fl_X9_118 ?_
      refine P_top f2 ?_
      refine P_aload0 X 176 dX9_comes_175 rfl ?_
      refine gY_0_1 X 179 dX9_comes_176 rfl fl_X9_115 ?_
      refine P_top (y := nI n) (by simp [put, up2, upd, f1]) ?_
      refine sY_9 X 180 dX9_comes_179 rfl rfl (by omega) ?_
      refine P_aload0 X 181 dX9_comes_180 rfl ?_
      refine gY_0_12 X 184 dX9_comes_181 rfl fl_X9_37 ?_
      refine P_aload0 X 185 dX9_comes_184 rfl ?_
      refine gY_0_10 X 188 dX9_comes_185 rfl fl_X9_118 ?_
      refine P_top (y := nI nT) (by simp [put, up2, upd, f2]) ?_
      refine P_iconst X (1) rfl 189 dX9_comes_188 rfl ?_
      refine sY_10 X 190 dX9_comes_189 rfl rfl (by omega) (Or.inr rfl) ?_
      refine P_aload0 X 191 dX9_comes_190 rfl ?_
      refine gY_0_13 X 194 dX9_comes_191 rfl fl_X9_41 ?_
      refine P_aload0 X 195 dX9_comes_194 rfl ?_
      refine gY_0_10 X 198 dX9_comes_195 rfl fl_X9_118 ?_
      refine P_top (y := nI nT) (by simp [put, up2, upd, f2]) ?_
      refine P_iconst X (0) rfl 199 dX9_comes_198 rfl ?_
      refine sY_11 X 200 dX9_comes_199 rfl rfl (by omega) ?_
      refine P_aload0 X 201 dX9_comes_200 rfl ?_
      refine gY_0_14 X 204 dX9_comes_201 rfl fl_X9_44 ?_
      refine P_aload0 X 205 dX9_comes_204 rfl ?_
      refine gY_0_10 X 208 dX9_comes_205 rfl fl_X9_118 ?_
      refine P_top (y := nI nT) (by simp [put, up2, upd, f2]) ?_
      refine P_iconst X (-1) rfl 209 dX9_comes_208 rfl ?_
      refine sY_12 X 210 dX9_comes_209 rfl rfl (by omega) ?_
      refine P_aload0 X 211 dX9_comes_210 rfl ?_
      refine gY_0_16 X 214 dX9_comes_211 rfl fl_X9_50 ?_
      refine P_aload0 X 215 dX9_comes_214 rfl ?_
      refine gY_0_10 X 218 dX9_comes_215 rfl fl_X9_118 ?_
      refine P_top (y := nI nT) (by simp [put, up2, upd, f2]) ?_
      refine P_iconst X (0) rfl 219 dX9_comes_218 rfl ?_
      refine sY_14 X 220 dX9_comes_219 rfl rfl (by omega) (Or.inl rfl) ?_
      refine P_aload0 X 221 dX9_comes_220 rfl ?_
      refine P_dup X rfl 222 dX9_comes_221 rfl ?_
      refine gY_0_10 X 225 dX9_comes_222 rfl fl_X9_118 ?_
      refine P_top (y := nI nT) (by simp [put, up2, upd, f2]) ?_
      refine P_iconst X (1) rfl 226 dX9_comes_225 rfl ?_
      refine P_iadd X 227 dX9_comes_226 rfl ?_
      rw [nI_1]
      refine pY_0_10 X 230 dX9_comes_227 rfl fw_X9_118 ?_
      refine P_aload0 X 231 dX9_comes_230 rfl ?_
      refine gY_0_7 X 234 dX9_comes_231 rfl fl_X9_25 ?_
      refine P_aload0 X 235 dX9_comes_234 rfl ?_
      refine gY_0_1 X 238 dX9_comes_235 rfl fl_X9_115 ?_
      refine P_top (y := nI n) (by simp [put, up2, upd, f1]) ?_
      refine P_iload6 X 240 dX9_comes_238 rfl ?_
      refine sY_6 X 241 dX9_comes_240 rfl rfl (by omega) ?_
      refine P_aload0 X 242 dX9_comes_241 rfl ?_
      refine P_dup X rfl 243 dX9_comes_242 rfl ?_
      refine gY_0_1 X 246 dX9_comes_243 rfl fl_X9_115 ?_
      refine P_top (y := nI n) (by simp [put, up2, upd, f1]) ?_
      refine P_iconst X (1) rfl 247 dX9_comes_246 rfl ?_
      refine P_iadd X 248 dX9_comes_247 rfl ?_
      rw [nI_1]
      refine pY_0_1 X 251 dX9_comes_248 rfl fw_X9_115 ?_
      refine P_iload6 X 253 dX9_comes_251 rfl ?_
      exact P_iret X hQ dX9_comes_253 ⟨by rw [hge], by rw [comeY, if_neg (by omega), hge, hg1]; rfl⟩
  have L : ∀ (m i : Nat) (o8 o9 : Option Value), i + m = nT → (∀ j, j < i → (fun t => cand (g1 1) (g1 2) (g1 3) (g1 4) (g1 5) (g1 7) (g1 8) (g1 6) (g1 10) n n t) j = false) → GW K 10 E (wdY E) A 58 [some (.ref (E.2.2.1 0)), some (.int k), some (.int x), some (.int y), some (.int db), some (.int dy), some (.int (-1)), some (.int (nI i)), o8, o9] [] g1 := by
    intro m
    induction m with
    | zero =>
      intro i o8 o9 hm hI0
      refine P_iload7 X 60 dX9_comes_58 rfl ?_
      refine P_aload0 X 61 dX9_comes_60 rfl ?_
      refine gY_0_10 X 64 dX9_comes_61 rfl fl_X9_118 ?_
      refine P_icmp_ge X 156 67 dX9_comes_64 rfl rfl (fun b64 => ?_) (fun b64 => ?_)
      · exact E2 (by rw [← eT, fst_none (fun j hj => hI0 j (by omega))]) _ _ _
      · exact (geN f2 b64 (by omega) (by omega)).elim
    | succ m ih =>
      intro i o8 o9 hm hI0
      refine P_iload7 X 60 dX9_comes_58 rfl ?_
      refine P_aload0 X 61 dX9_comes_60 rfl ?_
      refine gY_0_10 X 64 dX9_comes_61 rfl fl_X9_118 ?_
      refine P_icmp_ge X 156 67 dX9_comes_64 rfl rfl (fun b64 => ?_) (fun b64 => ?_)
      · exact (geY f2 b64 (by omega) (by omega)).elim
      · refine P_iload6 X 69 dX9_comes_67 rfl ?_
        refine P_if_ge X 156 72 dX9_comes_69 rfl rfl (fun b69 => ?_) (fun b69 => ?_)
        · exact absurd b69 (by decide)
        · refine P_aload0 X 73 dX9_comes_72 rfl ?_
          refine gY_0_12 X 76 dX9_comes_73 rfl fl_X9_37 ?_
          refine P_iload7 X 78 dX9_comes_76 rfl ?_
          refine lY_10 X 79 dX9_comes_78 rfl rfl (by omega) ?_
          refine P_top (bI_of01 (f4 i)) ?_
          rw [show (!decide (g1 10 i = 0)) = (!decide (g1 10 i = 0) && alln (fun o => !decide (g1 6 o = nI i) || mtB (g1 1) (g1 2) (g1 3) (g1 4) (g1 5) (g1 7) (g1 8) o n) 0) by rw [alln, Bool.and_true]]
          refine P_istore8 X 81 dX9_comes_79 rfl (by decide) rfl ?_
          refine P_iconst X (0) rfl 82 dX9_comes_81 rfl ?_
          refine P_istore9 X 84 dX9_comes_82 rfl (by decide) rfl ?_
          have E3 : GW K 10 E (wdY E) A 136 [some (.ref (E.2.2.1 0)), some (.int k), some (.int x), some (.int y), some (.int db), some (.int dy), some (.int (-1)), some (.int (nI i)), some (.int (bI (cand (g1 1) (g1 2) (g1 3) (g1 4) (g1 5) (g1 7) (g1 8) (g1 6) (g1 10) n n i))), some (.int (nI n))] [] g1 := by
            refine P_iload8 X 138 dX9_comes_136 rfl ?_
            refine P_bz X 146 141 dX9_comes_138 rfl rfl (fun b138 => ?_) (fun b138 => ?_)
            · refine P_iload6 X 148 dX9_comes_146 rfl ?_
              refine P_istore6 X 150 dX9_comes_148 rfl (by decide) rfl ?_
              refine P_iinc7 X (1) rfl 153 dX9_comes_150 rfl (by decide) rfl ?_
              refine P_goto X 58 dX9_comes_153 rfl ?_
              rw [nI_1]
              exact ih (i + 1) _ _ (by omega) (lt_s hI0 b138)
            · refine P_iload7 X 143 dX9_comes_141 rfl ?_
              refine P_goto X 148 dX9_comes_143 rfl ?_
              refine P_istore6 X 150 dX9_comes_148 rfl (by decide) rfl ?_
              refine P_iinc7 X (1) rfl 153 dX9_comes_150 rfl (by decide) rfl ?_
              refine P_goto X 58 dX9_comes_153 rfl ?_
              obtain rfl : i = T := by rw [← eT, fst_at hI0 b138 (by omega)]
              refine P_iload7 X 60 dX9_comes_58 rfl ?_
              refine P_aload0 X 61 dX9_comes_60 rfl ?_
              refine gY_0_10 X 64 dX9_comes_61 rfl fl_X9_118 ?_
              refine P_icmp_ge X 156 67 dX9_comes_64 rfl rfl (fun b64 => ?_) (fun b64 => ?_)
              · exact E1 (by omega) _ _ _
              · refine P_iload6 X 69 dX9_comes_67 rfl ?_
                refine P_if_ge X 156 72 dX9_comes_69 rfl rfl (fun b69 => ?_) (fun b69 => ?_)
                · exact E1 (by omega) _ _ _
                · exact absurd (ge0_nI (by omega)) b69
          have L2 : ∀ (r j : Nat), j + r = n → GW K 10 E (wdY E) A 84 [some (.ref (E.2.2.1 0)), some (.int k), some (.int x), some (.int y), some (.int db), some (.int dy), some (.int (-1)), some (.int (nI i)), some (.int (bI (!decide (g1 10 i = 0) && alln (fun o => !decide (g1 6 o = nI i) || mtB (g1 1) (g1 2) (g1 3) (g1 4) (g1 5) (g1 7) (g1 8) o n) j))), some (.int (nI j))] [] g1 := by
            intro r
            induction r with
            | zero =>
              intro j hj
              refine P_iload9 X 86 dX9_comes_84 rfl ?_
              refine P_aload0 X 87 dX9_comes_86 rfl ?_
              refine gY_0_1 X 90 dX9_comes_87 rfl fl_X9_115 ?_
              refine P_icmp_ge X 136 93 dX9_comes_90 rfl rfl (fun b90 => ?_) (fun b90 => ?_)
              · obtain rfl : j = n := by omega
                exact E3
              · exact (geN f1 b90 (by omega) (by omega)).elim
            | succ r ihj =>
              intro j hj
              refine P_iload9 X 86 dX9_comes_84 rfl ?_
              refine P_aload0 X 87 dX9_comes_86 rfl ?_
              refine gY_0_1 X 90 dX9_comes_87 rfl fl_X9_115 ?_
              refine P_icmp_ge X 136 93 dX9_comes_90 rfl rfl (fun b90 => ?_) (fun b90 => ?_)
              · exact (geY f1 b90 (by omega) (by omega)).elim
              · refine P_iload8 X 95 dX9_comes_93 rfl ?_
                refine P_bz X 127 98 dX9_comes_95 rfl rfl (fun b95 => ?_) (fun b95 => ?_)
                · refine P_iconst X (0) rfl 128 dX9_comes_127 rfl ?_
                  refine P_istore8 X 130 dX9_comes_128 rfl (by decide) rfl ?_
                  refine P_iinc9 X (1) rfl 133 dX9_comes_130 rfl (by decide) rfl ?_
                  refine P_goto X 84 dX9_comes_133 rfl ?_
                  have eb : bI (!decide (g1 10 i = 0) && alln (fun o => !decide (g1 6 o = nI i) || mtB (g1 1) (g1 2) (g1 3) (g1 4) (g1 5) (g1 7) (g1 8) o n) (j + 1)) = 0 := by rw [alln, ← Bool.and_assoc, b95]; rfl
                  have z := ihj (j + 1) (by omega)
                  rw [eb] at z
                  rw [nI_1]
                  exact z
                · refine P_aload0 X 99 dX9_comes_98 rfl ?_
                  refine gY_0_7 X 102 dX9_comes_99 rfl fl_X9_25 ?_
                  refine P_iload9 X 104 dX9_comes_102 rfl ?_
                  refine lY_6 X 105 dX9_comes_104 rfl rfl (by omega) ?_
                  refine P_iload7 X 107 dX9_comes_105 rfl ?_
                  refine P_icmp_ne X 123 110 dX9_comes_107 rfl rfl (fun b107 => ?_) (fun b107 => ?_)
                  · refine P_iconst X (1) rfl 124 dX9_comes_123 rfl ?_
                    refine P_goto X 128 dX9_comes_124 rfl ?_
                    refine P_istore8 X 130 dX9_comes_128 rfl (by decide) rfl ?_
                    refine P_iinc9 X (1) rfl 133 dX9_comes_130 rfl (by decide) rfl ?_
                    refine P_goto X 84 dX9_comes_133 rfl ?_
                    have eb : bI (!decide (g1 10 i = 0) && alln (fun o => !decide (g1 6 o = nI i) || mtB (g1 1) (g1 2) (g1 3) (g1 4) (g1 5) (g1 7) (g1 8) o n) (j + 1)) = 1 := by rw [alln, ← Bool.and_assoc, b95]; simp [b107, bI]
                    have z := ihj (j + 1) (by omega)
                    rw [eb] at z
                    rw [nI_1]
                    exact z
                  · refine P_aload0 X 111 dX9_comes_110 rfl ?_
                    refine P_iload9 X 113 dX9_comes_111 rfl ?_
                    refine P_aload0 X 114 dX9_comes_113 rfl ?_
                    refine gY_0_1 X 117 dX9_comes_114 rfl fl_X9_115 ?_
                    refine P_top f1 ?_
                    refine V2r X 0 120 dX9_comes_117 rfl lk_X9_129 mv_X9_doMeet rfl (by omega) (Nat.le_of_ble_eq_true rfl) (Nat.le_of_ble_eq_true rfl) rfl rfl (k_X9_doMeet (a := j) (b := n) (by omega) (by omega) (by omega) f3) ?_
                    refine P_bz X 127 123 dX9_comes_120 rfl rfl (fun b120 => ?_) (fun b120 => ?_)
                    · refine P_iconst X (0) rfl 128 dX9_comes_127 rfl ?_
                      refine P_istore8 X 130 dX9_comes_128 rfl (by decide) rfl ?_
                      refine P_iinc9 X (1) rfl 133 dX9_comes_130 rfl (by decide) rfl ?_
                      refine P_goto X 84 dX9_comes_133 rfl ?_
                      have eb : bI (!decide (g1 10 i = 0) && alln (fun o => !decide (g1 6 o = nI i) || mtB (g1 1) (g1 2) (g1 3) (g1 4) (g1 5) (g1 7) (g1 8) o n) (j + 1)) = 0 := by rw [alln, ← Bool.and_assoc, b95]; simp [b107, b120, bI]
                      have z := ihj (j + 1) (by omega)
                      rw [eb] at z
                      rw [nI_1]
                      exact z
                    · refine P_iconst X (1) rfl 124 dX9_comes_123 rfl ?_
                      refine P_goto X 128 dX9_comes_124 rfl ?_
                      refine P_istore8 X 130 dX9_comes_128 rfl (by decide) rfl ?_
                      refine P_iinc9 X (1) rfl 133 dX9_comes_130 rfl (by decide) rfl ?_
                      refine P_goto X 84 dX9_comes_133 rfl ?_
                      have eb : bI (!decide (g1 10 i = 0) && alln (fun o => !decide (g1 6 o = nI i) || mtB (g1 1) (g1 2) (g1 3) (g1 4) (g1 5) (g1 7) (g1 8) o n) (j + 1)) = 1 := by rw [alln, ← Bool.and_assoc, b95]; simp [b107, b120, bI]
                      have z := ihj (j + 1) (by omega)
                      rw [eb] at z
                      rw [nI_1]
                      exact z
          exact L2 n 0 (by omega)
  refine P_iconst X (-1) rfl 53 dX9_comes_52 rfl ?_
  refine P_istore6 X 55 dX9_comes_53 rfl (by decide) rfl ?_
  refine P_iconst X (0) rfl 56 dX9_comes_55 rfl ?_
  refine P_istore7 X 58 dX9_comes_56 rfl (by decide) rfl ?_
  exact L nT 0 _ _ (by omega) (fun j hj => absurd hj (Nat.not_lt_zero _))
