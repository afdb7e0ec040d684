/-! pure words that both sides share -/
def inB (v a b : Int32) : Bool := decide (a ≤ v) && decide (v ≤ b)
theorem inB_t {v a b : Int32} (h1 : ¬ v < a) (h2 : ¬ b < v) : inB v a b = true := by simp [inB, Int32.not_lt.mp h1, Int32.not_lt.mp h2]
theorem inB_f1 {v a b : Int32} (h1 : v < a) : inB v a b = false := by simp [inB]; exact fun z => absurd z (Int32.not_le.mpr h1)
theorem inB_f2 {v a b : Int32} (h2 : b < v) : inB v a b = false := by simp [inB]; exact fun _ => h2
theorem inB_iff {v a b : Int32} : inB v a b = true ↔ a ≤ v ∧ v ≤ b := by simp [inB]
theorem rt1 {b : Bool} {h : Hp} (e : b = true) : Rt (some (.int (bI b))) h (some (.int 1)) h := by subst e; exact ⟨rfl, rfl⟩
theorem rt0 {b : Bool} {h : Hp} (e : b = false) : Rt (some (.int (bI b))) h (some (.int 0)) h := by subst e; exact ⟨rfl, rfl⟩
theorem rti {x y : Int32} {h : Hp} (e : x = y) : Rt (some (.int y)) h (some (.int x)) h := by subst e; exact ⟨rfl, rfl⟩
section PB
variable {K : Kx} {own : String} {cc : ByteArray} {nL : Nat} {ret : Option FieldType} {E : Ev} {wd : Wd} {A : Nat → Prop} {d : Nat} {pc : Nat} {lo : List (Option Value)} {st : List Value} {h : Hp}
theorem P_bz (X : Cx K own cc nL ret E A d) {b : Bool} {off : Int} (tgt q : Nat) (hd : decode cc pc = .ok (.ifCond .eq off, 3)) (ht : (pc : Int) + off = (tgt : Int)) (hq : pc + 3 = q) (kt : b = false → GW K nL E wd A tgt lo st h) (kf : b = true → GW K nL E wd A q lo st h) : GW K nL E wd A pc lo (.int (bI b) :: st) h := P_if_eq X tgt q hd ht hq (fun z => kt (bI_0.mp z)) (fun z => kf (bI_n0.mp z))
theorem P_bn (X : Cx K own cc nL ret E A d) {b : Bool} {off : Int} (tgt q : Nat) (hd : decode cc pc = .ok (.ifCond .ne off, 3)) (ht : (pc : Int) + off = (tgt : Int)) (hq : pc + 3 = q) (kt : b = true → GW K nL E wd A tgt lo st h) (kf : b = false → GW K nL E wd A q lo st h) : GW K nL E wd A pc lo (.int (bI b) :: st) h := P_if_ne X tgt q hd ht hq (fun z => kt (bI_n0.mp z)) (fun z => kf (bI_0.mp z))
end PB
def awy (a b : Int32) : Int32 := if a < b then b - a else a - b
def absI (x : Int32) : Int32 := if 0 ≤ x then x else 0 - x
def qtr (x y : Int32) : Int32 := bI (decide (16 ≤ x)) + (if 16 ≤ y then 2 else 0)
theorem qtr_e {x y : Int32} : qtr x y = (if x < 16 then 0 else 1) + (if y < 16 then 0 else 2) := by
  have e1 : (16 ≤ x) = ¬ x < 16 := propext Int32.not_lt.symm
  have e2 : (16 ≤ y) = ¬ y < 16 := propext Int32.not_lt.symm
  by_cases h1 : x < 16 <;> by_cases h2 : y < 16 <;> simp [qtr, bI, e1, e2, h1, h2]
theorem le15 {x : Int32} : x ≤ 15 ↔ x < 16 := by
  rw [Int32.le_iff_toInt_le, Int32.lt_iff_toInt_lt, show (15 : Int32).toInt = 15 from rfl, show (16 : Int32).toInt = 16 from rfl]
  omega
theorem qtr_e2 {x y : Int32} : qtr x y = (if x ≤ 15 then 0 else 1) + (if y ≤ 15 then 0 else 2) := by rw [qtr_e]; simp only [le15]
def latF (dy : Nat → Int32) (n : Nat) : Int32 := if n = 0 then 0 else dy (n - 1)
def hasB (s i : Int32) : Bool := !decide ((s >>> (i &&& 31)) &&& 1 = 0)

set_option maxHeartbeats 4000000 in
set_option maxRecDepth 100000 in
theorem k_X8_within {d : Nat} {E : Ev} {wd : Wd} {v a b : Int32} {h : Hp} (hd : 0 ≤ d)  : Cl d yX8_within cX8_within 3 (some .boolean) E wd [.int v, .int a, .int b] h (Rt (some (.int (bI (inB v a b)))) h) := by
  refine Cl_of [some (.int v), some (.int a), some (.int b)] (by decide) rfl (Nat.le_of_ble_eq_true rfl) (fun K A X hQ => ?_)
  refine P_iload0 X 1 dX8_within_0 rfl ?_
  refine P_iload1 X 2 dX8_within_1 rfl ?_
  refine P_icmp_lt X 14 5 dX8_within_2 rfl rfl (fun b2 => ?_) (fun b2 => ?_)
  · refine P_iconst X (0) rfl 15 dX8_within_14 rfl ?_
    exact P_zret X hQ dX8_within_15 (Or.inl rfl) (rt0 (inB_f1 b2))
  · refine P_iload0 X 6 dX8_within_5 rfl ?_
    refine P_iload2 X 7 dX8_within_6 rfl ?_
    refine P_icmp_gt X 14 10 dX8_within_7 rfl rfl (fun b7 => ?_) (fun b7 => ?_)
    · refine P_iconst X (0) rfl 15 dX8_within_14 rfl ?_
      exact P_zret X hQ dX8_within_15 (Or.inl rfl) (rt0 (inB_f2 b7))
    · refine P_iconst X (1) rfl 11 dX8_within_10 rfl ?_
      refine P_goto X 15 dX8_within_11 rfl ?_
      exact P_zret X hQ dX8_within_15 (Or.inr rfl) (rt1 (inB_t b2 b7))
set_option maxHeartbeats 4000000 in
set_option maxRecDepth 100000 in
theorem k_X9_in {d : Nat} {E : Ev} {wd : Wd} {v a b : Int32} {h : Hp} (hd : 0 ≤ d)  : Cl d yX9_in cX9_in 3 (some .boolean) E wd [.int v, .int a, .int b] h (Rt (some (.int (bI (inB v a b)))) h) := by
  refine Cl_of [some (.int v), some (.int a), some (.int b)] (by decide) rfl (Nat.le_of_ble_eq_true rfl) (fun K A X hQ => ?_)
  refine P_iload0 X 1 dX9_in_0 rfl ?_
  refine P_iload1 X 2 dX9_in_1 rfl ?_
  refine P_icmp_lt X 14 5 dX9_in_2 rfl rfl (fun b2 => ?_) (fun b2 => ?_)
  · refine P_iconst X (0) rfl 15 dX9_in_14 rfl ?_
    exact P_zret X hQ dX9_in_15 (Or.inl rfl) (rt0 (inB_f1 b2))
  · refine P_iload0 X 6 dX9_in_5 rfl ?_
    refine P_iload2 X 7 dX9_in_6 rfl ?_
    refine P_icmp_gt X 14 10 dX9_in_7 rfl rfl (fun b7 => ?_) (fun b7 => ?_)
    · refine P_iconst X (0) rfl 15 dX9_in_14 rfl ?_
      exact P_zret X hQ dX9_in_15 (Or.inl rfl) (rt0 (inB_f2 b7))
    · refine P_iconst X (1) rfl 11 dX9_in_10 rfl ?_
      refine P_goto X 15 dX9_in_11 rfl ?_
      exact P_zret X hQ dX9_in_15 (Or.inr rfl) (rt1 (inB_t b2 b7))
set_option maxHeartbeats 4000000 in
set_option maxRecDepth 100000 in
theorem k_X8_hasBit {d : Nat} {E : Ev} {wd : Wd} {x y : Int32} {h : Hp} (hd : 0 ≤ d)  : Cl d yX8_hasBit cX8_hasBit 2 (some .boolean) E wd [.int x, .int y] h (Rt (some (.int (bI (hasB x y)))) h) := by
  refine Cl_of [some (.int x), some (.int y)] (by decide) rfl (Nat.le_of_ble_eq_true rfl) (fun K A X hQ => ?_)
  refine P_iload0 X 1 dX8_hasBit_0 rfl ?_
  refine P_iload1 X 2 dX8_hasBit_1 rfl ?_
  refine P_ishr X 3 dX8_hasBit_2 rfl ?_
  refine P_iconst X (1) rfl 4 dX8_hasBit_3 rfl ?_
  refine P_iand X 5 dX8_hasBit_4 rfl ?_
  refine P_if_eq X 12 8 dX8_hasBit_5 rfl rfl (fun b5 => ?_) (fun b5 => ?_)
  · refine P_iconst X (0) rfl 13 dX8_hasBit_12 rfl ?_
    exact P_zret X hQ dX8_hasBit_13 (Or.inl rfl) (rt0 (by simp [hasB]; exact b5))
  · refine P_iconst X (1) rfl 9 dX8_hasBit_8 rfl ?_
    refine P_goto X 13 dX8_hasBit_9 rfl ?_
    exact P_zret X hQ dX8_hasBit_13 (Or.inr rfl) (rt1 (by simp [hasB]; exact b5))
set_option maxHeartbeats 4000000 in
set_option maxRecDepth 100000 in
theorem k_X8_isKind {d : Nat} {E : Ev} {wd : Wd} {v : Int32} {h : Hp} (hd : 1 ≤ d)  : Cl d yX8_isKind cX8_isKind 1 (some .boolean) E wd [.int v] h (Rt (some (.int (bI (inB v 0 4)))) h) := by
  refine Cl_of [some (.int v)] (by decide) rfl (Nat.le_of_ble_eq_true rfl) (fun K A X hQ => ?_)
  refine P_iload0 X 1 dX8_isKind_0 rfl ?_
  refine P_iconst X (0) rfl 2 dX8_isKind_1 rfl ?_
  refine P_iconst X (4) rfl 3 dX8_isKind_2 rfl ?_
  refine S3r X 6 dX8_isKind_3 rfl lk_X8_79 ms_X8_within rfl (by omega) (Nat.le_of_ble_eq_true rfl) (k_X8_within (by omega)) ?_
  exact P_zret X hQ dX8_isKind_6 (bI_01 _) ⟨rfl, rfl⟩
set_option maxHeartbeats 4000000 in
set_option maxRecDepth 100000 in
theorem k_X8_isDay {d : Nat} {E : Ev} {wd : Wd} {v : Int32} {h : Hp} (hd : 1 ≤ d)  : Cl d yX8_isDay cX8_isDay 1 (some .boolean) E wd [.int v] h (Rt (some (.int (bI (inB v 0 999)))) h) := by
  refine Cl_of [some (.int v)] (by decide) rfl (Nat.le_of_ble_eq_true rfl) (fun K A X hQ => ?_)
  refine P_iload0 X 1 dX8_isDay_0 rfl ?_
  refine P_iconst X (0) rfl 2 dX8_isDay_1 rfl ?_
  refine P_sipush X (999) rfl 5 dX8_isDay_2 rfl ?_
  refine S3r X 8 dX8_isDay_5 rfl lk_X8_79 ms_X8_within rfl (by omega) (Nat.le_of_ble_eq_true rfl) (k_X8_within (by omega)) ?_
  exact P_zret X hQ dX8_isDay_8 (bI_01 _) ⟨rfl, rfl⟩
set_option maxHeartbeats 4000000 in
set_option maxRecDepth 100000 in
theorem k_X8_isPlace {d : Nat} {E : Ev} {wd : Wd} {v : Int32} {h : Hp} (hd : 1 ≤ d)  : Cl d yX8_isPlace cX8_isPlace 1 (some .boolean) E wd [.int v] h (Rt (some (.int (bI (inB v 0 1023)))) h) := by
  refine Cl_of [some (.int v)] (by decide) rfl (Nat.le_of_ble_eq_true rfl) (fun K A X hQ => ?_)
  refine P_iload0 X 1 dX8_isPlace_0 rfl ?_
  refine P_iconst X (0) rfl 2 dX8_isPlace_1 rfl ?_
  refine P_sipush X (1023) rfl 5 dX8_isPlace_2 rfl ?_
  refine S3r X 8 dX8_isPlace_5 rfl lk_X8_79 ms_X8_within rfl (by omega) (Nat.le_of_ble_eq_true rfl) (k_X8_within (by omega)) ?_
  exact P_zret X hQ dX8_isPlace_8 (bI_01 _) ⟨rfl, rfl⟩
set_option maxHeartbeats 4000000 in
set_option maxRecDepth 100000 in
theorem k_X8_isQuarter {d : Nat} {E : Ev} {wd : Wd} {v : Int32} {h : Hp} (hd : 1 ≤ d)  : Cl d yX8_isQuarter cX8_isQuarter 1 (some .boolean) E wd [.int v] h (Rt (some (.int (bI (inB v 0 3)))) h) := by
  refine Cl_of [some (.int v)] (by decide) rfl (Nat.le_of_ble_eq_true rfl) (fun K A X hQ => ?_)
  refine P_iload0 X 1 dX8_isQuarter_0 rfl ?_
  refine P_iconst X (0) rfl 2 dX8_isQuarter_1 rfl ?_
  refine P_iconst X (3) rfl 3 dX8_isQuarter_2 rfl ?_
  refine S3r X 6 dX8_isQuarter_3 rfl lk_X8_79 ms_X8_within rfl (by omega) (Nat.le_of_ble_eq_true rfl) (k_X8_within (by omega)) ?_
  exact P_zret X hQ dX8_isQuarter_6 (bI_01 _) ⟨rfl, rfl⟩
set_option maxHeartbeats 4000000 in
set_option maxRecDepth 100000 in
theorem k_X8_isSheet {d : Nat} {E : Ev} {wd : Wd} {v : Int32} {h : Hp} (hd : 1 ≤ d)  : Cl d yX8_isSheet cX8_isSheet 1 (some .boolean) E wd [.int v] h (Rt (some (.int (bI (inB v 0 3)))) h) := by
  refine Cl_of [some (.int v)] (by decide) rfl (Nat.le_of_ble_eq_true rfl) (fun K A X hQ => ?_)
  refine P_iload0 X 1 dX8_isSheet_0 rfl ?_
  refine P_iconst X (0) rfl 2 dX8_isSheet_1 rfl ?_
  refine P_iconst X (3) rfl 3 dX8_isSheet_2 rfl ?_
  refine S3r X 6 dX8_isSheet_3 rfl lk_X8_79 ms_X8_within rfl (by omega) (Nat.le_of_ble_eq_true rfl) (k_X8_within (by omega)) ?_
  exact P_zret X hQ dX8_isSheet_6 (bI_01 _) ⟨rfl, rfl⟩
set_option maxHeartbeats 4000000 in
set_option maxRecDepth 100000 in
theorem k_X9_isKind {d : Nat} {E : Ev} {wd : Wd} {v : Int32} {h : Hp} (hd : 1 ≤ d)  : Cl d yX9_isKind cX9_isKind 1 (some .boolean) E wd [.int v] h (Rt (some (.int (bI (inB v 0 4)))) h) := by
  refine Cl_of [some (.int v)] (by decide) rfl (Nat.le_of_ble_eq_true rfl) (fun K A X hQ => ?_)
  refine P_iload0 X 1 dX9_isKind_0 rfl ?_
  refine P_iconst X (0) rfl 2 dX9_isKind_1 rfl ?_
  refine P_iconst X (4) rfl 3 dX9_isKind_2 rfl ?_
  refine S3r X 6 dX9_isKind_3 rfl lk_X9_111 ms_X9_in rfl (by omega) (Nat.le_of_ble_eq_true rfl) (k_X9_in (by omega)) ?_
  exact P_zret X hQ dX9_isKind_6 (bI_01 _) ⟨rfl, rfl⟩
set_option maxHeartbeats 4000000 in
set_option maxRecDepth 100000 in
theorem k_X9_isDay {d : Nat} {E : Ev} {wd : Wd} {v : Int32} {h : Hp} (hd : 1 ≤ d)  : Cl d yX9_isDay cX9_isDay 1 (some .boolean) E wd [.int v] h (Rt (some (.int (bI (inB v 0 999)))) h) := by
  refine Cl_of [some (.int v)] (by decide) rfl (Nat.le_of_ble_eq_true rfl) (fun K A X hQ => ?_)
  refine P_iload0 X 1 dX9_isDay_0 rfl ?_
  refine P_iconst X (0) rfl 2 dX9_isDay_1 rfl ?_
  refine P_sipush X (999) rfl 5 dX9_isDay_2 rfl ?_
  refine S3r X 8 dX9_isDay_5 rfl lk_X9_111 ms_X9_in rfl (by omega) (Nat.le_of_ble_eq_true rfl) (k_X9_in (by omega)) ?_
  exact P_zret X hQ dX9_isDay_8 (bI_01 _) ⟨rfl, rfl⟩
set_option maxHeartbeats 4000000 in
set_option maxRecDepth 100000 in
theorem k_X9_isSheet {d : Nat} {E : Ev} {wd : Wd} {v : Int32} {h : Hp} (hd : 1 ≤ d)  : Cl d yX9_isSheet cX9_isSheet 1 (some .boolean) E wd [.int v] h (Rt (some (.int (bI (inB v 0 3)))) h) := by
  refine Cl_of [some (.int v)] (by decide) rfl (Nat.le_of_ble_eq_true rfl) (fun K A X hQ => ?_)
  refine P_iload0 X 1 dX9_isSheet_0 rfl ?_
  refine P_iconst X (0) rfl 2 dX9_isSheet_1 rfl ?_
  refine P_iconst X (3) rfl 3 dX9_isSheet_2 rfl ?_
  refine S3r X 6 dX9_isSheet_3 rfl lk_X9_111 ms_X9_in rfl (by omega) (Nat.le_of_ble_eq_true rfl) (k_X9_in (by omega)) ?_
  exact P_zret X hQ dX9_isSheet_6 (bI_01 _) ⟨rfl, rfl⟩
set_option maxHeartbeats 4000000 in
set_option maxRecDepth 100000 in
theorem k_X8_far {d : Nat} {E : Ev} {wd : Wd} {a b c e : Int32} {h : Hp} (hd : 1 ≤ d)  : Cl d yX8_far cX8_far 4 (some .int) E wd [.int a, .int b, .int c, .int e] h (Rt (some (.int (absI (a - c) + absI (b - e)))) h) := by
  refine Cl_of [some (.int a), some (.int b), some (.int c), some (.int e)] (by decide) rfl (Nat.le_of_ble_eq_true rfl) (fun K A X hQ => ?_)
  refine P_iload0 X 1 dX8_far_0 rfl ?_
  refine P_iload2 X 2 dX8_far_1 rfl ?_
  refine P_isub X 3 dX8_far_2 rfl ?_
  refine P_abs X 6 dX8_far_3 rfl la_X8_306 ja_st ja_ini ja_co (by omega) (Nat.le_of_ble_eq_true rfl) ?_
  refine P_iload1 X 7 dX8_far_6 rfl ?_
  refine P_iload3 X 8 dX8_far_7 rfl ?_
  refine P_isub X 9 dX8_far_8 rfl ?_
  refine P_abs X 12 dX8_far_9 rfl la_X8_306 ja_st ja_ini ja_co (by omega) (Nat.le_of_ble_eq_true rfl) ?_
  refine P_iadd X 13 dX8_far_12 rfl ?_
  exact P_iret X hQ dX8_far_13 ⟨rfl, rfl⟩
set_option maxHeartbeats 4000000 in
set_option maxRecDepth 100000 in
theorem k_X8_quarterAt {d : Nat} {E : Ev} {wd : Wd} {x y : Int32} {h : Hp} (hd : 0 ≤ d)  : Cl d yX8_quarterAt cX8_quarterAt 2 (some .int) E wd [.int x, .int y] h (Rt (some (.int (qtr x y))) h) := by
  refine Cl_of [some (.int x), some (.int y)] (by decide) rfl (Nat.le_of_ble_eq_true rfl) (fun K A X hQ => ?_)
  refine P_iload0 X 1 dX8_quarterAt_0 rfl ?_
  refine P_bipush X (16) rfl 3 dX8_quarterAt_1 rfl ?_
  refine P_icmp_lt X 10 6 dX8_quarterAt_3 rfl rfl (fun b3 => ?_) (fun b3 => ?_)
  · refine P_iconst X (0) rfl 11 dX8_quarterAt_10 rfl ?_
    refine P_iload1 X 12 dX8_quarterAt_11 rfl ?_
    refine P_bipush X (16) rfl 14 dX8_quarterAt_12 rfl ?_
    refine P_icmp_lt X 21 17 dX8_quarterAt_14 rfl rfl (fun b14 => ?_) (fun b14 => ?_)
    · refine P_iconst X (0) rfl 22 dX8_quarterAt_21 rfl ?_
      refine P_iadd X 23 dX8_quarterAt_22 rfl ?_
      exact P_iret X hQ dX8_quarterAt_23 (rti (by rw [qtr_e]; simp [b3, b14]))
    · refine P_iconst X (2) rfl 18 dX8_quarterAt_17 rfl ?_
      refine P_goto X 22 dX8_quarterAt_18 rfl ?_
      refine P_iadd X 23 dX8_quarterAt_22 rfl ?_
      exact P_iret X hQ dX8_quarterAt_23 (rti (by rw [qtr_e]; simp [b3, b14]))
  · refine P_iconst X (1) rfl 7 dX8_quarterAt_6 rfl ?_
    refine P_goto X 11 dX8_quarterAt_7 rfl ?_
    refine P_iload1 X 12 dX8_quarterAt_11 rfl ?_
    refine P_bipush X (16) rfl 14 dX8_quarterAt_12 rfl ?_
    refine P_icmp_lt X 21 17 dX8_quarterAt_14 rfl rfl (fun b14 => ?_) (fun b14 => ?_)
    · refine P_iconst X (0) rfl 22 dX8_quarterAt_21 rfl ?_
      refine P_iadd X 23 dX8_quarterAt_22 rfl ?_
      exact P_iret X hQ dX8_quarterAt_23 (rti (by rw [qtr_e]; simp [b3, b14]))
    · refine P_iconst X (2) rfl 18 dX8_quarterAt_17 rfl ?_
      refine P_goto X 22 dX8_quarterAt_18 rfl ?_
      refine P_iadd X 23 dX8_quarterAt_22 rfl ?_
      exact P_iret X hQ dX8_quarterAt_23 (rti (by rw [qtr_e]; simp [b3, b14]))
set_option maxHeartbeats 4000000 in
set_option maxRecDepth 100000 in
theorem k_X9_quarterOf {d : Nat} {E : Ev} {wd : Wd} {x y : Int32} {h : Hp} (hd : 0 ≤ d)  : Cl d yX9_quarterOf cX9_quarterOf 2 (some .int) E wd [.int x, .int y] h (Rt (some (.int (qtr x y))) h) := by
  refine Cl_of [some (.int x), some (.int y)] (by decide) rfl (Nat.le_of_ble_eq_true rfl) (fun K A X hQ => ?_)
  refine P_iload0 X 1 dX9_quarterOf_0 rfl ?_
  refine P_bipush X (15) rfl 3 dX9_quarterOf_1 rfl ?_
  refine P_icmp_le X 10 6 dX9_quarterOf_3 rfl rfl (fun b3 => ?_) (fun b3 => ?_)
  · refine P_iconst X (0) rfl 11 dX9_quarterOf_10 rfl ?_
    refine P_iload1 X 12 dX9_quarterOf_11 rfl ?_
    refine P_bipush X (15) rfl 14 dX9_quarterOf_12 rfl ?_
    refine P_icmp_le X 21 17 dX9_quarterOf_14 rfl rfl (fun b14 => ?_) (fun b14 => ?_)
    · refine P_iconst X (0) rfl 22 dX9_quarterOf_21 rfl ?_
      refine P_iadd X 23 dX9_quarterOf_22 rfl ?_
      exact P_iret X hQ dX9_quarterOf_23 (rti (by rw [qtr_e2]; simp [b3, b14]))
    · refine P_iconst X (2) rfl 18 dX9_quarterOf_17 rfl ?_
      refine P_goto X 22 dX9_quarterOf_18 rfl ?_
      refine P_iadd X 23 dX9_quarterOf_22 rfl ?_
      exact P_iret X hQ dX9_quarterOf_23 (rti (by rw [qtr_e2]; simp [b3, b14]))
  · refine P_iconst X (1) rfl 7 dX9_quarterOf_6 rfl ?_
    refine P_goto X 11 dX9_quarterOf_7 rfl ?_
    refine P_iload1 X 12 dX9_quarterOf_11 rfl ?_
    refine P_bipush X (15) rfl 14 dX9_quarterOf_12 rfl ?_
    refine P_icmp_le X 21 17 dX9_quarterOf_14 rfl rfl (fun b14 => ?_) (fun b14 => ?_)
    · refine P_iconst X (0) rfl 22 dX9_quarterOf_21 rfl ?_
      refine P_iadd X 23 dX9_quarterOf_22 rfl ?_
      exact P_iret X hQ dX9_quarterOf_23 (rti (by rw [qtr_e2]; simp [b3, b14]))
    · refine P_iconst X (2) rfl 18 dX9_quarterOf_17 rfl ?_
      refine P_goto X 22 dX9_quarterOf_18 rfl ?_
      refine P_iadd X 23 dX9_quarterOf_22 rfl ?_
      exact P_iret X hQ dX9_quarterOf_23 (rti (by rw [qtr_e2]; simp [b3, b14]))
set_option maxHeartbeats 4000000 in
set_option maxRecDepth 100000 in
theorem k_X9_away {d : Nat} {E : Ev} {wd : Wd} {a b : Int32} {h : Hp} (hd : 0 ≤ d)  : Cl d yX9_away cX9_away 2 (some .int) E wd [.int a, .int b] h (Rt (some (.int (awy a b))) h) := by
  refine Cl_of [some (.int a), some (.int b)] (by decide) rfl (Nat.le_of_ble_eq_true rfl) (fun K A X hQ => ?_)
  refine P_iload0 X 1 dX9_away_0 rfl ?_
  refine P_iload1 X 2 dX9_away_1 rfl ?_
  refine P_icmp_ge X 11 5 dX9_away_2 rfl rfl (fun b2 => ?_) (fun b2 => ?_)
  · refine P_iload0 X 12 dX9_away_11 rfl ?_
    refine P_iload1 X 13 dX9_away_12 rfl ?_
    refine P_isub X 14 dX9_away_13 rfl ?_
    exact P_iret X hQ dX9_away_14 (rti (if_neg (fun z => absurd b2 (Int32.not_le.mpr z))).symm)
  · refine P_iload1 X 6 dX9_away_5 rfl ?_
    refine P_iload0 X 7 dX9_away_6 rfl ?_
    refine P_isub X 8 dX9_away_7 rfl ?_
    refine P_goto X 14 dX9_away_8 rfl ?_
    exact P_iret X hQ dX9_away_14 (rti (if_pos (Int32.not_le.mp b2)).symm)
set_option maxHeartbeats 4000000 in
set_option maxRecDepth 100000 in
theorem k_X8_finding {d : Nat} {E : Ev} {c : Int32} {h : Hp} (hd : 0 ≤ d)  : Cl d yX8_finding cX8_finding 2 (some .int) E (wdX E) [.ref (E.2.2.1 0), .int c] h (Rt (some (.int c)) (put h 0 11 (h 0 11 + 1))) := by
  refine Cl_of [some (.ref (E.2.2.1 0)), some (.int c)] (by decide) rfl (Nat.le_of_ble_eq_true rfl) (fun K A X hQ => ?_)
  refine P_aload0 X 1 dX8_finding_0 rfl ?_
  refine P_dup X rfl 2 dX8_finding_1 rfl ?_
  refine gX_0_11 X 5 dX8_finding_2 rfl fl_X8_75 ?_
  refine P_iconst X (1) rfl 6 dX8_finding_5 rfl ?_
  refine P_iadd X 7 dX8_finding_6 rfl ?_
  refine pX_0_11 X 10 dX8_finding_7 rfl fw_X8_75 ?_
  refine P_iload1 X 11 dX8_finding_10 rfl ?_
  exact P_iret X hQ dX8_finding_11 ⟨rfl, rfl⟩
set_option maxHeartbeats 4000000 in
set_option maxRecDepth 100000 in
theorem k_X9_finding {d : Nat} {E : Ev} {c : Int32} {h : Hp} (hd : 0 ≤ d)  : Cl d yX9_finding cX9_finding 2 (some .int) E (wdY E) [.ref (E.2.2.1 0), .int c] h (Rt (some (.int c)) (put h 0 0 (h 0 0 + 1))) := by
  refine Cl_of [some (.ref (E.2.2.1 0)), some (.int c)] (by decide) rfl (Nat.le_of_ble_eq_true rfl) (fun K A X hQ => ?_)
  refine P_aload0 X 1 dX9_finding_0 rfl ?_
  refine P_dup X rfl 2 dX9_finding_1 rfl ?_
  refine gY_0_0 X 5 dX9_finding_2 rfl fl_X9_107 ?_
  refine P_iconst X (1) rfl 6 dX9_finding_5 rfl ?_
  refine P_iadd X 7 dX9_finding_6 rfl ?_
  refine pY_0_0 X 10 dX9_finding_7 rfl fw_X9_107 ?_
  refine P_iload1 X 11 dX9_finding_10 rfl ?_
  exact P_iret X hQ dX9_finding_11 ⟨rfl, rfl⟩
set_option maxHeartbeats 4000000 in
set_option maxRecDepth 100000 in
theorem k_X8_isAsk {d : Nat} {E : Ev} {a : Int32} {h : Hp} (hd : 1 ≤ d)  : Cl d yX8_isAsk cX8_isAsk 2 (some .boolean) E (wdX E) [.ref (E.2.2.1 0), .int a] h (Rt (some (.int (bI (inB a 0 (h 1 8 - 1))))) h) := by
  refine Cl_of [some (.ref (E.2.2.1 0)), some (.int a)] (by decide) rfl (Nat.le_of_ble_eq_true rfl) (fun K A X hQ => ?_)
  refine P_iload1 X 1 dX8_isAsk_0 rfl ?_
  refine P_iconst X (0) rfl 2 dX8_isAsk_1 rfl ?_
  refine P_aload0 X 3 dX8_isAsk_2 rfl ?_
  refine gX_0_0 X 6 dX8_isAsk_3 rfl fl_X8_10 ?_
  refine gX_1_8 X 9 dX8_isAsk_6 rfl fl_X8_95 ?_
  refine P_iconst X (1) rfl 10 dX8_isAsk_9 rfl ?_
  refine P_isub X 11 dX8_isAsk_10 rfl ?_
  refine S3r X 14 dX8_isAsk_11 rfl lk_X8_79 ms_X8_within rfl (by omega) (Nat.le_of_ble_eq_true rfl) (k_X8_within (by omega)) ?_
  exact P_zret X hQ dX8_isAsk_14 (bI_01 _) ⟨rfl, rfl⟩
set_option maxHeartbeats 4000000 in
set_option maxRecDepth 100000 in
theorem k_X8_isThing {d : Nat} {E : Ev} {a : Int32} {h : Hp} (hd : 1 ≤ d)  : Cl d yX8_isThing cX8_isThing 2 (some .boolean) E (wdX E) [.ref (E.2.2.1 0), .int a] h (Rt (some (.int (bI (inB a 0 (h 2 6 - 1))))) h) := by
  refine Cl_of [some (.ref (E.2.2.1 0)), some (.int a)] (by decide) rfl (Nat.le_of_ble_eq_true rfl) (fun K A X hQ => ?_)
  refine P_iload1 X 1 dX8_isThing_0 rfl ?_
  refine P_iconst X (0) rfl 2 dX8_isThing_1 rfl ?_
  refine P_aload0 X 3 dX8_isThing_2 rfl ?_
  refine gX_0_1 X 6 dX8_isThing_3 rfl fl_X8_19 ?_
  refine gX_2_6 X 9 dX8_isThing_6 rfl fl_X8_292 ?_
  refine P_iconst X (1) rfl 10 dX8_isThing_9 rfl ?_
  refine P_isub X 11 dX8_isThing_10 rfl ?_
  refine S3r X 14 dX8_isThing_11 rfl lk_X8_79 ms_X8_within rfl (by omega) (Nat.le_of_ble_eq_true rfl) (k_X8_within (by omega)) ?_
  exact P_zret X hQ dX8_isThing_14 (bI_01 _) ⟨rfl, rfl⟩
set_option maxHeartbeats 4000000 in
set_option maxRecDepth 100000 in
theorem k_X9_isAsk {d : Nat} {E : Ev} {a : Int32} {h : Hp} (hd : 1 ≤ d)  : Cl d yX9_isAsk cX9_isAsk 2 (some .boolean) E (wdY E) [.ref (E.2.2.1 0), .int a] h (Rt (some (.int (bI (inB a 0 (h 0 1 - 1))))) h) := by
  refine Cl_of [some (.ref (E.2.2.1 0)), some (.int a)] (by decide) rfl (Nat.le_of_ble_eq_true rfl) (fun K A X hQ => ?_)
  refine P_iload1 X 1 dX9_isAsk_0 rfl ?_
  refine P_iconst X (0) rfl 2 dX9_isAsk_1 rfl ?_
  refine P_aload0 X 3 dX9_isAsk_2 rfl ?_
  refine gY_0_1 X 6 dX9_isAsk_3 rfl fl_X9_115 ?_
  refine P_iconst X (1) rfl 7 dX9_isAsk_6 rfl ?_
  refine P_isub X 8 dX9_isAsk_7 rfl ?_
  refine S3r X 11 dX9_isAsk_8 rfl lk_X9_111 ms_X9_in rfl (by omega) (Nat.le_of_ble_eq_true rfl) (k_X9_in (by omega)) ?_
  exact P_zret X hQ dX9_isAsk_11 (bI_01 _) ⟨rfl, rfl⟩
set_option maxHeartbeats 4000000 in
set_option maxRecDepth 100000 in
theorem k_X9_isThing {d : Nat} {E : Ev} {a : Int32} {h : Hp} (hd : 1 ≤ d)  : Cl d yX9_isThing cX9_isThing 2 (some .boolean) E (wdY E) [.ref (E.2.2.1 0), .int a] h (Rt (some (.int (bI (inB a 0 (h 0 10 - 1))))) h) := by
  refine Cl_of [some (.ref (E.2.2.1 0)), some (.int a)] (by decide) rfl (Nat.le_of_ble_eq_true rfl) (fun K A X hQ => ?_)
  refine P_iload1 X 1 dX9_isThing_0 rfl ?_
  refine P_iconst X (0) rfl 2 dX9_isThing_1 rfl ?_
  refine P_aload0 X 3 dX9_isThing_2 rfl ?_
  refine gY_0_10 X 6 dX9_isThing_3 rfl fl_X9_118 ?_
  refine P_iconst X (1) rfl 7 dX9_isThing_6 rfl ?_
  refine P_isub X 8 dX9_isThing_7 rfl ?_
  refine S3r X 11 dX9_isThing_8 rfl lk_X9_111 ms_X9_in rfl (by omega) (Nat.le_of_ble_eq_true rfl) (k_X9_in (by omega)) ?_
  exact P_zret X hQ dX9_isThing_11 (bI_01 _) ⟨rfl, rfl⟩
set_option maxHeartbeats 4000000 in
set_option maxRecDepth 100000 in
theorem k_X0_latestDay {d : Nat} {E : Ev} {n : Nat} {h : Hp} (hd : 0 ≤ d) (hc : h 1 8 = nI n) (hn : n ≤ 40) : Cl d yX0_latestDay cX0_latestDay 1 (some .int) E (wdX E) [.ref (E.2.2.1 1)] h (Rt (some (.int (latF (h 16) n))) h) := by
  refine Cl_of [some (.ref (E.2.2.1 1))] (by decide) rfl (Nat.le_of_ble_eq_true rfl) (fun K A X hQ => ?_)
  refine P_aload0 X 1 dX0_latestDay_0 rfl ?_
  refine gX_1_8 X 4 dX0_latestDay_1 rfl fl_X0_36 ?_
  refine P_if_ne X 11 7 dX0_latestDay_4 rfl rfl (fun b4 => ?_) (fun b4 => ?_)
  · have hz : ¬ n = 0 := by
      intro z
      subst z
      exact b4 hc
    refine P_aload0 X 12 dX0_latestDay_11 rfl ?_
    refine gX_1_4 X 15 dX0_latestDay_12 rfl fl_X0_24 ?_
    refine P_aload0 X 16 dX0_latestDay_15 rfl ?_
    refine gX_1_8 X 19 dX0_latestDay_16 rfl fl_X0_36 ?_
    refine P_iconst X (1) rfl 20 dX0_latestDay_19 rfl ?_
    refine P_isub X 21 dX0_latestDay_20 rfl ?_
    refine lX_16 X 22 dX0_latestDay_21 rfl (by rw [hc]; exact pk_sub (b := 1) (by omega)) (by omega) ?_
    exact P_iret X hQ dX0_latestDay_22 (rti (if_neg hz).symm)
  · have hz : n = 0 := by
      rw [hc] at b4
      exact Classical.byContradiction fun z => nI_ne0 (by omega) (by omega) b4
    refine P_iconst X (0) rfl 8 dX0_latestDay_7 rfl ?_
    refine P_goto X 22 dX0_latestDay_8 rfl ?_
    exact P_iret X hQ dX0_latestDay_22 (rti (if_pos hz).symm)
set_option maxHeartbeats 4000000 in
set_option maxRecDepth 100000 in
theorem k_X9_latest {d : Nat} {E : Ev} {n : Nat} {h : Hp} (hd : 0 ≤ d) (hc : h 0 1 = nI n) (hn : n ≤ 40) : Cl d yX9_latest cX9_latest 1 (some .int) E (wdY E) [.ref (E.2.2.1 0)] h (Rt (some (.int (latF (h 5) n))) h) := by
  refine Cl_of [some (.ref (E.2.2.1 0))] (by decide) rfl (Nat.le_of_ble_eq_true rfl) (fun K A X hQ => ?_)
  refine P_aload0 X 1 dX9_latest_0 rfl ?_
  refine gY_0_1 X 4 dX9_latest_1 rfl fl_X9_115 ?_
  refine P_if_ne X 11 7 dX9_latest_4 rfl rfl (fun b4 => ?_) (fun b4 => ?_)
  · have hz : ¬ n = 0 := by
      intro z
      subst z
      exact b4 hc
    refine P_aload0 X 12 dX9_latest_11 rfl ?_
    refine gY_0_6 X 15 dX9_latest_12 rfl fl_X9_22 ?_
    refine P_aload0 X 16 dX9_latest_15 rfl ?_
    refine gY_0_1 X 19 dX9_latest_16 rfl fl_X9_115 ?_
    refine P_iconst X (1) rfl 20 dX9_latest_19 rfl ?_
    refine P_isub X 21 dX9_latest_20 rfl ?_
    refine lY_5 X 22 dX9_latest_21 rfl (by rw [hc]; exact pk_sub (b := 1) (by omega)) (by omega) ?_
    exact P_iret X hQ dX9_latest_22 (rti (if_neg hz).symm)
  · have hz : n = 0 := by
      rw [hc] at b4
      exact Classical.byContradiction fun z => nI_ne0 (by omega) (by omega) b4
    refine P_iconst X (0) rfl 8 dX9_latest_7 rfl ?_
    refine P_goto X 22 dX9_latest_8 rfl ?_
    exact P_iret X hQ dX9_latest_22 (rti (if_pos hz).symm)
