theorem tb_int : Cond.arrayClass (newarray.typeOf .int) ∈ TB := TB_of 105 (by decide +kernel) rfl
theorem tb_boolean : Cond.arrayClass (newarray.typeOf .boolean) ∈ TB := TB_of 141 (by decide +kernel) rfl
def mkL : Nat → List va_E → va_W
  | _, [] => []
  | b, c :: r => (b, c) :: mkL (b + 1) r
theorem mkL_get : ∀ (L : List va_E) (b k : Nat), (mkL b L)[k]? = (L[k]?).map (fun c => (b + k, c))
  | [], b, k => by simp [mkL]
  | c :: r, b, 0 => by simp [mkL]
  | c :: r, b, k + 1 => by
    rw [mkL, List.getElem?_cons_succ, List.getElem?_cons_succ, mkL_get r (b + 1) k, show b + 1 + k = b + (k + 1) by omega]
theorem mkL_at {L : List va_E} {b k : Nat} {c : va_E} (h : L[k]? = some c) : (mkL b L)[k]? = some (b + k, c) := by rw [mkL_get, h]; rfl
theorem mkL_inv {L : List va_E} {b k : Nat} {q : Nat × va_E} (h : (mkL b L)[k]? = some q) : ∃ c, L[k]? = some c ∧ q = (b + k, c) := by
  rw [mkL_get] at h
  cases e : L[k]? with
  | none => rw [e] at h; cases h
  | some c => rw [e] at h; exact ⟨c, rfl, (Option.some.inj h).symm⟩
theorem mkL_len : ∀ (L : List va_E) (b : Nat), (mkL b L).length = L.length
  | [], _ => rfl
  | c :: r, b => by rw [mkL, List.length_cons, List.length_cons, mkL_len r]
theorem mkL_app : ∀ (L M : List va_E) (b : Nat), mkL b (L ++ M) = mkL b L ++ mkL (b + L.length) M
  | [], M, b => by simp [mkL]
  | c :: r, M, b => by
    rw [List.cons_append, mkL, mkL, List.cons_append, mkL_app r M (b + 1), List.length_cons, show b + 1 + r.length = b + (r.length + 1) by omega]
theorem mkL_set {L : List va_E} {b k : Nat} {c : va_E} (hk : k < L.length) : (mkL b L).set k (b + k, c) = mkL b (L.set k c) := by
  apply List.ext_getElem?
  intro j
  by_cases e : j = k
  · subst e
    rw [List.getElem?_set_self (by rw [mkL_len]; exact hk), mkL_get, List.getElem?_set_self hk]
    rfl
  · rw [List.getElem?_set_ne (Ne.symm e), mkL_get, mkL_get, List.getElem?_set_ne (Ne.symm e)]
def AL (b : Nat) : Nat → Prop := fun q => b ≤ q
theorem mkL_D {L : List va_E} {b : Nat} {A : Nat → Prop} (hA : ∀ q, b ≤ q → A q) : va_D A (mkL b L) := by
  refine ⟨fun i j x y hi hj hxy => ?_, fun k q hk => ?_⟩
  · obtain ⟨c, -, rfl⟩ := mkL_inv hi
    obtain ⟨e, -, rfl⟩ := mkL_inv hj
    have : b + i = b + j := hxy
    omega
  · obtain ⟨c, -, rfl⟩ := mkL_inv hk
    exact hA _ (Nat.le_add_right _ _)
def CxA (K : Kx) (own : String) (cc : ByteArray) (nL : Nat) (E : Ev) (A : Nat → Prop) (b : Nat) (d : Nat) : Prop :=
  match K with
  | (p, _, _, R, s, m, args, _, meth, c, _, _, _) =>
    p.tables.exec = Jvm.exec ∧ c.code = cc ∧ c.maxLocals = nL ∧ meth.locks = false ∧ s.vm.findClass own = some m.cls ∧ (∀ w ∈ TB, w.before args s = true) ∧ NW s ∧ va_K E.1 vwCl (tyE E) s ∧ va_AO "TownAsks$Sheet" s ∧ (∀ q, s.heap.size ≤ q → A q) ∧ (∀ q, b ≤ q → A q) ∧ d ≤ R.frames ∧ 40 * d ≤ R.locals
def GA (K : Kx) (nL : Nat) (E : Ev) (A : Nat → Prop) (b : Nat) (pc : Nat) (lo : List (Option Value)) (st : List Value) (L : List va_E) (kc ks : Nat) : Prop :=
  match K with
  | (p, l, e, R, s, m, args, below, meth, c, _, _, Q) =>
    ∀ (H : Heap) (locs : List Loc) (ls : Array Slot), H.size = b + L.length → va_P E.1 vwCl (mkL b L) H → va_S A s.heap H locs → lv_has ls nL (lvp 0 lo) → W p l e R s m args below meth c H locs kc ks Q (F0 m pc ls st)
def RmK (K : Kx) : Room := K.2.2.2.1
abbrev rmI (d mc ms : Nat) : Room := { frames := d, cells := mc, slots := ms, locals := 40 * d }
def PI (E : Ev) (b : Nat) (L : List va_E) : Array Value → State → Prop := va_Pc [.ref b] (fun U => U.heap.size = b + L.length ∧ va_P E.1 vwCl (mkL b L) U.heap ∧ va_K E.1 vwCl (tyE E) U ∧ NW U ∧ va_AO "TownAsks$Sheet" U)
def QI (E : Ev) (b : Nat) (L : List va_E) : Array Value → State → Outcome → State → Prop := fun _ st oc t => (oc = .returned none ∧ t.heap.size = b + L.length ∧ va_P E.1 vwCl (mkL b L) t.heap) ∧ va_F (AL b) st t
/-- a constructor's contract: the cells from b on, before and behind it -/
def CI (d : Nat) (y : MethodName) (cc : ByteArray) (nL : Nat) (E : Ev) (b : Nat) (L0 L1 : List va_E) (mc ms : Nat) : Prop :=
  ∀ (l : Launch), Met l y (wsM y cc nL none) (rmI d mc ms) (PI E b L0) (QI E b L1) mc ms (AL b)
def KI (K : Kx) (E : Ev) (b : Nat) (L : List va_E) (mc ms : Nat) : Prop :=
  match K with
  | (_, _, _, R, s, _, args, below, meth, _, _, _, Q) => Q = MQ below (QI E b L) args s mc ms (AL b) ∧ meth.sig.returnType = none ∧ meth.name = "<init>" ∧ R.cells = mc ∧ R.slots = ms
theorem PI_blind {E : Ev} {b : Nat} {L : List va_E} : FrameBlind (PI E b L) := by
  intro a U g mk q
  obtain ⟨q0, q1, qP, qK, qN, qO⟩ := q
  exact ⟨q0, q1, qP, va_K.moved (u := U) (U := U.calling g mk a) (Vm.Alike.refl U.vm) qK, NW.same (u := U) rfl qN, va_AO.moved (u := U) (U := U.calling g mk a) (Vm.Alike.refl U.vm) qO⟩
theorem CI_of {d : Nat} {y : MethodName} {cc : ByteArray} {nL : Nat} {E : Ev} {b : Nat} {L0 L1 : List va_E} {mc ms : Nat} (lo : List (Option Value)) (hy : plainName y.cls = true) (hyn : y.name = "<init>") (hlo : lvp 0 lo = lv_args 0 [.ref b]) (hn : 1 ≤ nL)
    (body : ∀ (K : Kx), CxA K y.cls cc nL E (AL b) b d → KI K E b L1 mc ms → GA K nL E (AL b) b 0 lo [] L0 0 0) (hL0 : 0 < L0.length) : CI d y cc nL E b L0 L1 mc ms := by
  intro l
  refine Met.ofW (cc := cc) (maxL := nL) (ret := none) hy rfl ?_
  intro p e s m args below meth c s₁ B hml hv
  obtain ⟨rfl, hsz, hP, hK, hN, hO⟩ := hv
  have hts := atoms_spec (ws := wsM y cc nL none) B.pre
  have hl := lv_entry [.ref b] (n := nL) hn
  rw [← hlo] at hl
  rw [lg_entry_eq]
  exact body (p, l, e, rmI d mc ms, s, m, [Value.ref b].toArray, below, meth, c, 0, 0, MQ below (QI E b L1) [Value.ref b].toArray s mc ms (AL b)) ⟨B.exec, B.bytes, hml, B.notSynchronized, findClass_of_methodNamed B.named, fun w hw => hts w (List.mem_cons_of_mem _ hw), hN, hK, hO, fun q hq => by show b ≤ q; omega, fun q hq => hq, Nat.le_refl _, Nat.le_refl _⟩ ⟨rfl, B.returns, (name_of_methodNamed B.named B.method).1.trans hyn, rfl, rfl⟩ s.heap [] _ hsz hP va_S.rf hl
section AR
variable {K : Kx} {own : String} {cc : ByteArray} {nL : Nat} {E : Ev} {A : Nat → Prop} {d b : Nat} {pc : Nat} {lo : List (Option Value)} {st : List Value} {L : List va_E} {kc ks : Nat}

theorem A_dup (X : CxA K own cc nL E A b d) {v : Value} (hv : v.category = 1) (q : Nat) (hd : decode cc pc = .ok (.dup, 1)) (hq : pc + 1 = q) (k : GA K nL E A b q lo (v :: v :: st) L kc ks) : GA K nL E A b pc lo (v :: st) L kc ks := by
  subst hq
  obtain ⟨p, l, e, R, s, m, args, below, meth, c, cells, slots, Q⟩ := K
  obtain ⟨hx, hb, hml, hlk, hown, hts, hN, hK, hO, hA, hAb, hdf, hdl⟩ := X
  exact fun H locs ls hz hP hS hl => lv_dup hx hb hd hv (k H locs ls hz hP hS hl)
theorem A_iconst (X : CxA K own cc nL E A b d) {n : Int} (v : Int32) (hv : Int32.ofInt n = v) (q : Nat) (hd : decode cc pc = .ok (.iconst n, 1)) (hq : pc + 1 = q) (k : GA K nL E A b q lo (.int v :: st) L kc ks) : GA K nL E A b pc lo (st) L kc ks := by
  subst hq
  obtain ⟨p, l, e, R, s, m, args, below, meth, c, cells, slots, Q⟩ := K
  obtain ⟨hx, hb, hml, hlk, hown, hts, hN, hK, hO, hA, hAb, hdf, hdl⟩ := X
  exact fun H locs ls hz hP hS hl => lv_iconst hx hb hd hv (k H locs ls hz hP hS hl)
theorem A_bipush (X : CxA K own cc nL E A b d) {n : Int} (v : Int32) (hv : (Int8.ofInt n).toInt32 = v) (q : Nat) (hd : decode cc pc = .ok (.bipush n, 2)) (hq : pc + 2 = q) (k : GA K nL E A b q lo (.int v :: st) L kc ks) : GA K nL E A b pc lo (st) L kc ks := by
  subst hq
  obtain ⟨p, l, e, R, s, m, args, below, meth, c, cells, slots, Q⟩ := K
  obtain ⟨hx, hb, hml, hlk, hown, hts, hN, hK, hO, hA, hAb, hdf, hdl⟩ := X
  exact fun H locs ls hz hP hS hl => lv_bipush hx hb hd hv (k H locs ls hz hP hS hl)
theorem A_sipush (X : CxA K own cc nL E A b d) {n : Int} (v : Int32) (hv : (Int16.ofInt n).toInt32 = v) (q : Nat) (hd : decode cc pc = .ok (.sipush n, 3)) (hq : pc + 3 = q) (k : GA K nL E A b q lo (.int v :: st) L kc ks) : GA K nL E A b pc lo (st) L kc ks := by
  subst hq
  obtain ⟨p, l, e, R, s, m, args, below, meth, c, cells, slots, Q⟩ := K
  obtain ⟨hx, hb, hml, hlk, hown, hts, hN, hK, hO, hA, hAb, hdf, hdl⟩ := X
  exact fun H locs ls hz hP hS hl => lv_sipush hx hb hd hv (k H locs ls hz hP hS hl)
theorem A_aload0 (X : CxA K own cc nL E A b d) {x : Nat} (q : Nat) (hd : decode cc pc = .ok (.aload_n 0, 1)) (hq : pc + 1 = q) (k : GA K nL E A b q (some (.ref x) :: lo) (.ref x :: st) L kc ks) : GA K nL E A b pc (some (.ref x) :: lo) (st) L kc ks := by
  subst hq
  obtain ⟨p, l, e, R, s, m, args, below, meth, c, cells, slots, Q⟩ := K
  obtain ⟨hx, hb, hml, hlk, hown, hts, hN, hK, hO, hA, hAb, hdf, hdl⟩ := X
  exact fun H locs ls hz hP hS hl => lv_aload_n hx hb hd rfl (lvp_at hl 0 rfl) (k H locs ls hz hP hS hl)
theorem A_astore0 (X : CxA K own cc nL E A b d) {ow : Option Value} {x : Nat} (q : Nat) (hd : decode cc pc = .ok (.astore_n 0, 1)) (hq : pc + 1 = q) (hn : 0 < nL) (hok : lvok (ow :: lo) 0 = true) (k : GA K nL E A b q (some (.ref x) :: lo) st L kc ks) : GA K nL E A b pc (ow :: lo) (.ref x :: st) L kc ks := by
  subst hq
  obtain ⟨p, l, e, R, s, m, args, below, meth, c, cells, slots, Q⟩ := K
  obtain ⟨hx, hb, hml, hlk, hown, hts, hN, hK, hO, hA, hAb, hdf, hdl⟩ := X
  exact fun H locs ls hz hP hS hl => lv_astore_n hx hb hd rfl hl hn rfl (fun ls' hl' => k H locs ls' hz hP hS (lvp_store hl' rfl hok))
theorem A_iload0 (X : CxA K own cc nL E A b d) {x : Int32} (q : Nat) (hd : decode cc pc = .ok (.iload_n 0, 1)) (hq : pc + 1 = q) (k : GA K nL E A b q (some (.int x) :: lo) (.int x :: st) L kc ks) : GA K nL E A b pc (some (.int x) :: lo) (st) L kc ks := by
  subst hq
  obtain ⟨p, l, e, R, s, m, args, below, meth, c, cells, slots, Q⟩ := K
  obtain ⟨hx, hb, hml, hlk, hown, hts, hN, hK, hO, hA, hAb, hdf, hdl⟩ := X
  exact fun H locs ls hz hP hS hl => lv_iload_n hx hb hd rfl (lvp_at hl 0 rfl) (k H locs ls hz hP hS hl)
theorem A_istore0 (X : CxA K own cc nL E A b d) {ow : Option Value} {x : Int32} (q : Nat) (hd : decode cc pc = .ok (.istore_n 0, 1)) (hq : pc + 1 = q) (hn : 0 < nL) (hok : lvok (ow :: lo) 0 = true) (k : GA K nL E A b q (some (.int x) :: lo) st L kc ks) : GA K nL E A b pc (ow :: lo) (.int x :: st) L kc ks := by
  subst hq
  obtain ⟨p, l, e, R, s, m, args, below, meth, c, cells, slots, Q⟩ := K
  obtain ⟨hx, hb, hml, hlk, hown, hts, hN, hK, hO, hA, hAb, hdf, hdl⟩ := X
  exact fun H locs ls hz hP hS hl => lv_istore_n hx hb hd rfl hl hn rfl (fun ls' hl' => k H locs ls' hz hP hS (lvp_store hl' rfl hok))
theorem A_iinc0 (X : CxA K own cc nL E A b d) {x : Int32} {n : Int} (v : Int32) (hv : Int32.ofInt n = v) (q : Nat) (hd : decode cc pc = .ok (.iinc 0 n, 3)) (hq : pc + 3 = q) (hn : 0 < nL) (hok : lvok (some (.int x) :: lo) 0 = true) (k : GA K nL E A b q (some (.int (x + v)) :: lo) st L kc ks) : GA K nL E A b pc (some (.int x) :: lo) st L kc ks := by
  subst hq
  obtain ⟨p, l, e, R, s, m, args, below, meth, c, cells, slots, Q⟩ := K
  obtain ⟨hx, hb, hml, hlk, hown, hts, hN, hK, hO, hA, hAb, hdf, hdl⟩ := X
  intro H locs ls hz hP hS hl
  obtain ⟨kk, hkk⟩ := List.getElem?_of_mem ((lvp_mem (some (.int x) :: lo) 0 0 (.int x)).mpr ⟨Nat.zero_le _, rfl⟩)
  exact lv_iinc hx hb hd hl hkk (by rw [hv]) hn rfl (fun ls' hl' => k H locs ls' hz hP hS (lvp_store hl' rfl hok))
theorem A_aload1 (X : CxA K own cc nL E A b d) {o0 : Option Value} {x : Nat} (q : Nat) (hd : decode cc pc = .ok (.aload_n 1, 1)) (hq : pc + 1 = q) (k : GA K nL E A b q (o0 :: some (.ref x) :: lo) (.ref x :: st) L kc ks) : GA K nL E A b pc (o0 :: some (.ref x) :: lo) (st) L kc ks := by
  subst hq
  obtain ⟨p, l, e, R, s, m, args, below, meth, c, cells, slots, Q⟩ := K
  obtain ⟨hx, hb, hml, hlk, hown, hts, hN, hK, hO, hA, hAb, hdf, hdl⟩ := X
  exact fun H locs ls hz hP hS hl => lv_aload_n hx hb hd rfl (lvp_at hl 1 rfl) (k H locs ls hz hP hS hl)
theorem A_astore1 (X : CxA K own cc nL E A b d) {o0 : Option Value} {ow : Option Value} {x : Nat} (q : Nat) (hd : decode cc pc = .ok (.astore_n 1, 1)) (hq : pc + 1 = q) (hn : 1 < nL) (hok : lvok (o0 :: ow :: lo) 1 = true) (k : GA K nL E A b q (o0 :: some (.ref x) :: lo) st L kc ks) : GA K nL E A b pc (o0 :: ow :: lo) (.ref x :: st) L kc ks := by
  subst hq
  obtain ⟨p, l, e, R, s, m, args, below, meth, c, cells, slots, Q⟩ := K
  obtain ⟨hx, hb, hml, hlk, hown, hts, hN, hK, hO, hA, hAb, hdf, hdl⟩ := X
  exact fun H locs ls hz hP hS hl => lv_astore_n hx hb hd rfl hl hn rfl (fun ls' hl' => k H locs ls' hz hP hS (lvp_store hl' rfl hok))
theorem A_iload1 (X : CxA K own cc nL E A b d) {o0 : Option Value} {x : Int32} (q : Nat) (hd : decode cc pc = .ok (.iload_n 1, 1)) (hq : pc + 1 = q) (k : GA K nL E A b q (o0 :: some (.int x) :: lo) (.int x :: st) L kc ks) : GA K nL E A b pc (o0 :: some (.int x) :: lo) (st) L kc ks := by
  subst hq
  obtain ⟨p, l, e, R, s, m, args, below, meth, c, cells, slots, Q⟩ := K
  obtain ⟨hx, hb, hml, hlk, hown, hts, hN, hK, hO, hA, hAb, hdf, hdl⟩ := X
  exact fun H locs ls hz hP hS hl => lv_iload_n hx hb hd rfl (lvp_at hl 1 rfl) (k H locs ls hz hP hS hl)
theorem A_istore1 (X : CxA K own cc nL E A b d) {o0 : Option Value} {ow : Option Value} {x : Int32} (q : Nat) (hd : decode cc pc = .ok (.istore_n 1, 1)) (hq : pc + 1 = q) (hn : 1 < nL) (hok : lvok (o0 :: ow :: lo) 1 = true) (k : GA K nL E A b q (o0 :: some (.int x) :: lo) st L kc ks) : GA K nL E A b pc (o0 :: ow :: lo) (.int x :: st) L kc ks := by
  subst hq
  obtain ⟨p, l, e, R, s, m, args, below, meth, c, cells, slots, Q⟩ := K
  obtain ⟨hx, hb, hml, hlk, hown, hts, hN, hK, hO, hA, hAb, hdf, hdl⟩ := X
  exact fun H locs ls hz hP hS hl => lv_istore_n hx hb hd rfl hl hn rfl (fun ls' hl' => k H locs ls' hz hP hS (lvp_store hl' rfl hok))
theorem A_iinc1 (X : CxA K own cc nL E A b d) {o0 : Option Value} {x : Int32} {n : Int} (v : Int32) (hv : Int32.ofInt n = v) (q : Nat) (hd : decode cc pc = .ok (.iinc 1 n, 3)) (hq : pc + 3 = q) (hn : 1 < nL) (hok : lvok (o0 :: some (.int x) :: lo) 1 = true) (k : GA K nL E A b q (o0 :: some (.int (x + v)) :: lo) st L kc ks) : GA K nL E A b pc (o0 :: some (.int x) :: lo) st L kc ks := by
  subst hq
  obtain ⟨p, l, e, R, s, m, args, below, meth, c, cells, slots, Q⟩ := K
  obtain ⟨hx, hb, hml, hlk, hown, hts, hN, hK, hO, hA, hAb, hdf, hdl⟩ := X
  intro H locs ls hz hP hS hl
  obtain ⟨kk, hkk⟩ := List.getElem?_of_mem ((lvp_mem (o0 :: some (.int x) :: lo) 0 1 (.int x)).mpr ⟨Nat.zero_le _, rfl⟩)
  exact lv_iinc hx hb hd hl hkk (by rw [hv]) hn rfl (fun ls' hl' => k H locs ls' hz hP hS (lvp_store hl' rfl hok))
theorem A_aload2 (X : CxA K own cc nL E A b d) {o0 o1 : Option Value} {x : Nat} (q : Nat) (hd : decode cc pc = .ok (.aload_n 2, 1)) (hq : pc + 1 = q) (k : GA K nL E A b q (o0 :: o1 :: some (.ref x) :: lo) (.ref x :: st) L kc ks) : GA K nL E A b pc (o0 :: o1 :: some (.ref x) :: lo) (st) L kc ks := by
  subst hq
  obtain ⟨p, l, e, R, s, m, args, below, meth, c, cells, slots, Q⟩ := K
  obtain ⟨hx, hb, hml, hlk, hown, hts, hN, hK, hO, hA, hAb, hdf, hdl⟩ := X
  exact fun H locs ls hz hP hS hl => lv_aload_n hx hb hd rfl (lvp_at hl 2 rfl) (k H locs ls hz hP hS hl)
theorem A_astore2 (X : CxA K own cc nL E A b d) {o0 o1 : Option Value} {ow : Option Value} {x : Nat} (q : Nat) (hd : decode cc pc = .ok (.astore_n 2, 1)) (hq : pc + 1 = q) (hn : 2 < nL) (hok : lvok (o0 :: o1 :: ow :: lo) 2 = true) (k : GA K nL E A b q (o0 :: o1 :: some (.ref x) :: lo) st L kc ks) : GA K nL E A b pc (o0 :: o1 :: ow :: lo) (.ref x :: st) L kc ks := by
  subst hq
  obtain ⟨p, l, e, R, s, m, args, below, meth, c, cells, slots, Q⟩ := K
  obtain ⟨hx, hb, hml, hlk, hown, hts, hN, hK, hO, hA, hAb, hdf, hdl⟩ := X
  exact fun H locs ls hz hP hS hl => lv_astore_n hx hb hd rfl hl hn rfl (fun ls' hl' => k H locs ls' hz hP hS (lvp_store hl' rfl hok))
theorem A_iload2 (X : CxA K own cc nL E A b d) {o0 o1 : Option Value} {x : Int32} (q : Nat) (hd : decode cc pc = .ok (.iload_n 2, 1)) (hq : pc + 1 = q) (k : GA K nL E A b q (o0 :: o1 :: some (.int x) :: lo) (.int x :: st) L kc ks) : GA K nL E A b pc (o0 :: o1 :: some (.int x) :: lo) (st) L kc ks := by
  subst hq
  obtain ⟨p, l, e, R, s, m, args, below, meth, c, cells, slots, Q⟩ := K
  obtain ⟨hx, hb, hml, hlk, hown, hts, hN, hK, hO, hA, hAb, hdf, hdl⟩ := X
  exact fun H locs ls hz hP hS hl => lv_iload_n hx hb hd rfl (lvp_at hl 2 rfl) (k H locs ls hz hP hS hl)
theorem A_istore2 (X : CxA K own cc nL E A b d) {o0 o1 : Option Value} {ow : Option Value} {x : Int32} (q : Nat) (hd : decode cc pc = .ok (.istore_n 2, 1)) (hq : pc + 1 = q) (hn : 2 < nL) (hok : lvok (o0 :: o1 :: ow :: lo) 2 = true) (k : GA K nL E A b q (o0 :: o1 :: some (.int x) :: lo) st L kc ks) : GA K nL E A b pc (o0 :: o1 :: ow :: lo) (.int x :: st) L kc ks := by
  subst hq
  obtain ⟨p, l, e, R, s, m, args, below, meth, c, cells, slots, Q⟩ := K
  obtain ⟨hx, hb, hml, hlk, hown, hts, hN, hK, hO, hA, hAb, hdf, hdl⟩ := X
  exact fun H locs ls hz hP hS hl => lv_istore_n hx hb hd rfl hl hn rfl (fun ls' hl' => k H locs ls' hz hP hS (lvp_store hl' rfl hok))
theorem A_iinc2 (X : CxA K own cc nL E A b d) {o0 o1 : Option Value} {x : Int32} {n : Int} (v : Int32) (hv : Int32.ofInt n = v) (q : Nat) (hd : decode cc pc = .ok (.iinc 2 n, 3)) (hq : pc + 3 = q) (hn : 2 < nL) (hok : lvok (o0 :: o1 :: some (.int x) :: lo) 2 = true) (k : GA K nL E A b q (o0 :: o1 :: some (.int (x + v)) :: lo) st L kc ks) : GA K nL E A b pc (o0 :: o1 :: some (.int x) :: lo) st L kc ks := by
  subst hq
  obtain ⟨p, l, e, R, s, m, args, below, meth, c, cells, slots, Q⟩ := K
  obtain ⟨hx, hb, hml, hlk, hown, hts, hN, hK, hO, hA, hAb, hdf, hdl⟩ := X
  intro H locs ls hz hP hS hl
  obtain ⟨kk, hkk⟩ := List.getElem?_of_mem ((lvp_mem (o0 :: o1 :: some (.int x) :: lo) 0 2 (.int x)).mpr ⟨Nat.zero_le _, rfl⟩)
  exact lv_iinc hx hb hd hl hkk (by rw [hv]) hn rfl (fun ls' hl' => k H locs ls' hz hP hS (lvp_store hl' rfl hok))
theorem A_goto (X : CxA K own cc nL E A b d) {off : Int} (q : Nat) (hd : decode cc pc = .ok (.goto off, 3)) (hq : (pc : Int) + off = (q : Int)) (k : GA K nL E A b q lo st L kc ks) : GA K nL E A b pc lo st L kc ks := by
  obtain ⟨p, l, e, R, s, m, args, below, meth, c, cells, slots, Q⟩ := K
  obtain ⟨hx, hb, hml, hlk, hown, hts, hN, hK, hO, hA, hAb, hdf, hdl⟩ := X
  exact fun H locs ls hz hP hS hl => lv_goto hx hb hd hq (k H locs ls hz hP hS hl)
theorem A_icmp_ge (X : CxA K own cc nL E A b d) {x y : Int32} {off : Int} (tgt q : Nat) (hd : decode cc pc = .ok (.if_icmp .ge off, 3)) (ht : (pc : Int) + off = (tgt : Int)) (hq : pc + 3 = q) (kt : y ≤ x → GA K nL E A b tgt lo st L kc ks) (kf : ¬ y ≤ x → GA K nL E A b q lo st L kc ks) : GA K nL E A b pc lo (.int y :: .int x :: st) L kc ks := by
  subst hq
  obtain ⟨p, l, e, R, s, m, args, below, meth, c, cells, slots, Q⟩ := K
  obtain ⟨hx, hb, hml, hlk, hown, hts, hN, hK, hO, hA, hAb, hdf, hdl⟩ := X
  exact fun H locs ls hz hP hS hl => lv_icmp_ge hx hb hd ht (fun z => kt z H locs ls hz hP hS hl) (fun z => kf z H locs ls hz hP hS hl)
theorem A_obj (X : CxA K own cc nL E A b d) {ix a : Nat} (q : Nat) (hd : decode cc pc = .ok (.invokespecial ix, 3)) (hq : pc + 3 = q) (w1 : Cond.methodLink own ix objectInit ∈ TB) (h1 : 1 ≤ d) (k : GA K nL E A b q lo [] L kc ks) : GA K nL E A b pc lo [.ref a] L kc ks := by
  subst hq
  obtain ⟨p, l, e, R, s, m, args, below, meth, c, cells, slots, Q⟩ := K
  obtain ⟨hx, hb, hml, hlk, hown, hts, hN, hK, hO, hA, hAb, hdf, hdl⟩ := X
  intro H locs ls hz hP hS hl
  exact W.objInit hx hb hown (hts _ w1) (hts _ jo_in) (hts _ jo_co) rfl (by rw [hml]; exact hl.1) rfl hd (by omega) (by show 2 * 0 + 0 + 12 ≤ _; omega) (k H locs ls hz hP hS hl)
/-- a new cell at the end -/
theorem A_push {s : State} {H H1 : Heap} {locs : List Loc} {c : va_E} (hz : H.size = b + L.length) (hP : va_P E.1 vwCl (mkL b L) H) (hS : va_S A s.heap H locs) (z1 : H1.size = H.size + 1) (o1 : ∀ q : Nat, q < H.size → H1[q]? = H[q]?) (hc : va_at E.1 vwCl (H.size, c) H1) : H1.size = b + (L ++ [c]).length ∧ va_P E.1 vwCl (mkL b (L ++ [c])) H1 ∧ va_S A s.heap H1 locs := by
  refine ⟨by rw [z1, hz, List.length_append]; rfl, ?_, ⟨Nat.le_trans hS.1 (by omega), fun x h1 h2 => (o1 x (Nat.lt_of_lt_of_le h1 hS.1)).trans (hS.2.1 x h1 h2), hS.2.2⟩⟩
  rw [mkL_app, ← hz]
  refine (hP.kept (fun k x hx => o1 x.1 ((hP k x hx).lt))).app ?_
  intro k x hx
  have hz2 : k < 1 := (List.getElem?_eq_some_iff.mp hx).1
  rw [show k = 0 by omega] at hx
  cases hx
  exact hc
theorem A_newi (X : CxA K own cc nL E A b d) {n : Int32} (N : Nat) (hn : n = nI N) (hN : N < 100000) (q : Nat) (hd : decode cc pc = .ok (.newarray .int, 2)) (hq : pc + 2 = q) (hc1 : kc + 1 ≤ (RmK K).cells) (hc2 : ks + N ≤ (RmK K).slots) (k : GA K nL E A b q lo (.ref (b + L.length) :: st) (L ++ [.inl (E.2.1 0, N, .inl (fun _ => 0))]) (kc + 1) (ks + N)) : GA K nL E A b pc lo (.int n :: st) L kc ks := by
  subst hq hn
  obtain ⟨p, l, e, R, s, m, args, below, meth, c, cells, slots, Q⟩ := K
  obtain ⟨hx, hb, hml, hlk, hown, hts, hN, hK, hO, hA, hAb, hdf, hdl⟩ := X
  intro H locs ls hz hP hS hl
  have hcl : (nI N).toNatClampNeg = N := nI_clamp (by omega)
  have hby : N * componentBytes (newarray.typeOf .int) ≤ 536870912 := by
    rw [show componentBytes (newarray.typeOf .int) = 4 from rfl]
    omega
  have hdef : ∀ cA : ClassId, vp_cell cA (N, .inl (fun _ => 0)) = arrV cA N (fun _ => defaultValue (newarray.typeOf .int)) := fun _ => rfl
  refine va_newaK (atype := .int) (N := N) (h := H.size) (g := F0 m pc ls (.int (nI N) :: st)) (rest := st) hx hb (hts _ tb_int) rfl hd rfl (nI_pos (by omega)) hcl hby hc1 hc2 rfl ?_
  intro H1 cA e1 z1 o1 hAr hNm
  have hcA : cA = E.2.1 0 := Option.some.inj (hNm.symm.trans (hK.2 0 _ rfl).2)
  subst hcA
  obtain ⟨g1, g2, g3⟩ := A_push (c := .inl (E.2.1 0, N, .inl (fun _ => 0))) hz hP hS z1 o1 (by show H1[H.size]? = some (vp_cell _ _); rw [hdef]; exact e1)
  rw [← hz] at k
  exact k H1 locs ls g1 g2 g3 hl
theorem A_newz (X : CxA K own cc nL E A b d) {n : Int32} (N : Nat) (hn : n = nI N) (hN : N < 100000) (q : Nat) (hd : decode cc pc = .ok (.newarray .boolean, 2)) (hq : pc + 2 = q) (hc1 : kc + 1 ≤ (RmK K).cells) (hc2 : ks + N ≤ (RmK K).slots) (k : GA K nL E A b q lo (.ref (b + L.length) :: st) (L ++ [.inl (E.2.1 1, N, .inl (fun _ => 0))]) (kc + 1) (ks + N)) : GA K nL E A b pc lo (.int n :: st) L kc ks := by
  subst hq hn
  obtain ⟨p, l, e, R, s, m, args, below, meth, c, cells, slots, Q⟩ := K
  obtain ⟨hx, hb, hml, hlk, hown, hts, hN, hK, hO, hA, hAb, hdf, hdl⟩ := X
  intro H locs ls hz hP hS hl
  have hcl : (nI N).toNatClampNeg = N := nI_clamp (by omega)
  have hby : N * componentBytes (newarray.typeOf .boolean) ≤ 536870912 := by
    rw [show componentBytes (newarray.typeOf .boolean) = 1 from rfl]
    omega
  have hdef : ∀ cA : ClassId, vp_cell cA (N, .inl (fun _ => 0)) = arrV cA N (fun _ => defaultValue (newarray.typeOf .boolean)) := fun _ => rfl
  refine va_newaK (atype := .boolean) (N := N) (h := H.size) (g := F0 m pc ls (.int (nI N) :: st)) (rest := st) hx hb (hts _ tb_boolean) rfl hd rfl (nI_pos (by omega)) hcl hby hc1 hc2 rfl ?_
  intro H1 cA e1 z1 o1 hAr hNm
  have hcA : cA = E.2.1 1 := Option.some.inj (hNm.symm.trans (hK.2 1 _ rfl).2)
  subst hcA
  obtain ⟨g1, g2, g3⟩ := A_push (c := .inl (E.2.1 1, N, .inl (fun _ => 0))) hz hP hS z1 o1 (by show H1[H.size]? = some (vp_cell _ _); rw [hdef]; exact e1)
  rw [← hz] at k
  exact k H1 locs ls g1 g2 g3 hl
theorem A_newq (X : CxA K own cc nL E A b d) {n : Int32} {ix : Nat} (N : Nat) (hn : n = nI N) (hN : N < 100000) (q : Nat) (hd : decode cc pc = .ok (.anewarray ix, 3)) (hq : pc + 3 = q) (w1 : Cond.classLink own ix "TownAsks$Sheet" ∈ TB) (hc1 : kc + 1 ≤ (RmK K).cells) (hc2 : ks + N ≤ (RmK K).slots) (k : GA K nL E A b q lo (.ref (b + L.length) :: st) (L ++ [.inl (E.2.1 2, N, .inr (.inr (.inr (.inr (fun _ => none)))))]) (kc + 1) (ks + N)) : GA K nL E A b pc lo (.int n :: st) L kc ks := by
  subst hq hn
  obtain ⟨p, l, e, R, s, m, args, below, meth, c, cells, slots, Q⟩ := K
  obtain ⟨hx, hb, hml, hlk, hown, hts, hN, hK, hO, hA, hAb, hdf, hdl⟩ := X
  intro H locs ls hz hP hS hl
  have hcl : (nI N).toNatClampNeg = N := nI_clamp (by omega)
  refine W.anew hx hb hown (hts _ w1) (va_AO.use hO) rfl hd rfl (nI_pos (by omega)) (by rw [hcl]; omega) hc1 (by rw [hcl]; exact hc2) (fun cA kA comp f1 f2 f3 f4 => ?_)
  rw [hcl]
  generalize hH1 : H.push ({ cls := cA, slots := Array.replicate N .null, vm := .none } : Cell) = H1
  have z1 : H1.size = H.size + 1 := by rw [← hH1, Array.size_push]
  have e1 : H1[H.size]? = some (arrV cA N (fun _ => .null)) := by rw [← hH1, Array.getElem?_push_size, ← arrV_new]
  have o1 : ∀ q : Nat, q < H.size → H1[q]? = H[q]? := fun q hq => by rw [← hH1, Array.getElem?_push, if_neg (Nat.ne_of_lt hq)]
  have hcA : cA = E.2.1 2 := by
    obtain ⟨_, _, -, -, -, h4⟩ := (hK.2 2 _ rfl).2
    exact Option.some.inj (f1.symm.trans h4)
  subst hcA
  obtain ⟨g1, g2, g3⟩ := A_push (c := .inl (E.2.1 2, N, .inr (.inr (.inr (.inr (fun _ => none)))))) hz hP hS z1 o1 e1
  rw [← hz] at k
  exact k H1 locs ls g1 g2 g3 hl
theorem A_new (X : CxA K own cc nL E A b d) {ix ci N : Nat} {C : String} {T : u_T} (ty : Nat → FieldType) (fs : List Value) (q : Nat) (hd : decode cc pc = .ok (.new ix, 3)) (hq : pc + 3 = q) (w1 : Cond.classLink own ix C ∈ TB) (w2 : Cond.instantiable C N ∈ TB) (w3 : Cond.initialized C ∈ TB) (hin : ∀ w ∈ u_ws C T N, w ∈ TB) (hty : ∀ k, k < N → parseFieldDescriptor (T k).2.2.1 = some (ty k)) (hc : vwCl[ci]? = some (C, T, N)) (hfs : ∀ j, j < N → defaultValue (ty j) = vp_V fs j) (hc1 : kc + 1 ≤ (RmK K).cells) (hc2 : ks + N ≤ (RmK K).slots) (k : GA K nL E A b q lo (.ref (b + L.length) :: st) (L ++ [.inr (ci, fs)]) (kc + 1) (ks + N)) : GA K nL E A b pc lo st L kc ks := by
  subst hq
  obtain ⟨p, l, e, R, s, m, args, below, meth, c, cells, slots, Q⟩ := K
  obtain ⟨hx, hb, hml, hlk, hown, hts, hN, hK, hO, hA, hAb, hdf, hdl⟩ := X
  intro H locs ls hz hP hS hl
  have hKn := hK.1 ci _ hc
  refine W.newcK hx hb hown (hts _ w1) (hts _ w2) (hts _ w3) rfl hd hc1 hc2 hKn.2.1 rfl (fun H1 kC hkC e1 z1 o1 => ?_)
  obtain ⟨g1, g2, g3⟩ := A_push (c := .inr (ci, fs)) hz hP hS z1 o1 ⟨_, hc, (u_born ty hts hin hKn hkC e1 hty).to hfs⟩
  rw [← hz] at k
  exact k H1 locs ls g1 g2 g3 hl
theorem A_set {s : State} {H1 : Heap} {locs1 : List Loc} {k0 : Nat} {c0 c : va_E} (hk : L[k0]? = some c0) (h1 : va_P E.1 vwCl ((mkL b L).set k0 (b + k0, c)) H1) : va_P E.1 vwCl (mkL b (L.set k0 c)) H1 := by
  rw [← mkL_set (List.getElem?_eq_some_iff.mp hk).1]
  exact h1
theorem A_len {k0 : Nat} {c : va_E} : (L.set k0 c).length = L.length := List.length_set
end AR

