/-! WORLDS AS NUMBERS: a world is n places; place k lies at the address ad k and holds a cell that is a function of the numbers h k -/
abbrev Hp : Type := Nat → Nat → Int32
abbrev Wd : Type := Nat × (Nat → Nat) × (Nat → (Nat → Int32) → va_E)
abbrev Ev : Type := va_G × (Nat → ClassId) × (Nat → Nat) × Nat
abbrev Kx : Type := Program × Launch × Env × Room × State × MethodId × Array Value × List Frame × Method × Code × Nat × Nat × (State → Prop)
def mkW (w : Wd) (h : Hp) : va_W := (List.range w.1).map (fun k => (w.2.1 k, w.2.2 k (h k)))
theorem mkW_at {w : Wd} {h : Hp} {k : Nat} (hk : k < w.1) : (mkW w h)[k]? = some (w.2.1 k, w.2.2 k (h k)) := by
  unfold mkW
  rw [List.getElem?_map, List.getElem?_range hk]
  rfl
theorem mkW_inv {w : Wd} {h : Hp} {k : Nat} {q : Nat × va_E} (hq : (mkW w h)[k]? = some q) : k < w.1 ∧ q = (w.2.1 k, w.2.2 k (h k)) := by
  have hl := (List.getElem?_eq_some_iff.mp hq).1
  have hk : k < w.1 := by simpa [mkW] using hl
  rw [mkW_at hk] at hq
  exact ⟨hk, (Option.some.inj hq).symm⟩
def up2 (h : Hp) (k : Nat) (g : Nat → Int32) : Hp := fun j => if j = k then g else h j
def put (h : Hp) (k i : Nat) (v : Int32) : Hp := up2 h k (upd (h k) i v)
theorem up2_s {h : Hp} {k : Nat} {g : Nat → Int32} : up2 h k g k = g := by simp [up2]
theorem up2_n {h : Hp} {k j : Nat} {g : Nat → Int32} (n : j ≠ k) : up2 h k g j = h j := by simp [up2, n]
theorem put_s {h : Hp} {k i : Nat} {v : Int32} : put h k i v k i = v := by simp [put, up2, upd]
theorem put_n {h : Hp} {k i j : Nat} {v : Int32} (n : j ≠ k) : put h k i v j = h j := by simp [put, up2, n]
theorem put_i {h : Hp} {k i j : Nat} {v : Int32} (n : j ≠ i) : put h k i v k j = h k j := by simp [put, up2, upd, n]
theorem put_k {h : Hp} {k i : Nat} {v : Int32} : put h k i v k = upd (h k) i v := up2_s
theorem mkW_set {w : Wd} {h : Hp} {k : Nat} {g : Nat → Int32} (hk : k < w.1) : (mkW w h).set k (w.2.1 k, w.2.2 k g) = mkW w (up2 h k g) := by
  apply List.ext_getElem?
  intro j
  by_cases hj : j = k
  · subst hj
    rw [List.getElem?_set_self (by simpa [mkW] using hk), mkW_at hk, up2_s]
  · rw [List.getElem?_set_ne (Ne.symm hj)]
    by_cases hl : j < w.1
    · rw [mkW_at hl, mkW_at hl, up2_n hj]
    · rw [List.getElem?_eq_none (by simpa [mkW] using hl), List.getElem?_eq_none (by simpa [mkW] using hl)]
/-- which cells a method may change: its world's, and those that it makes -/
def AW (w : Wd) (sz : Nat) : Nat → Prop := fun q => (∃ k, k < w.1 ∧ q = w.2.1 k) ∨ sz ≤ q
theorem AW_in {w : Wd} {sz k : Nat} (hk : k < w.1) : AW w sz (w.2.1 k) := Or.inl ⟨k, hk, rfl⟩
theorem mkW_D {w : Wd} {h h2 : Hp} {A B : Nat → Prop} (hD : va_D A (mkW w h)) (hB : ∀ k, k < w.1 → B (w.2.1 k)) : va_D B (mkW w h2) := by
  refine ⟨fun i j x y hi hj hxy => ?_, fun k q hk => ?_⟩
  · obtain ⟨li, rfl⟩ := mkW_inv hi
    obtain ⟨lj, rfl⟩ := mkW_inv hj
    exact hD.1 i j _ _ (mkW_at li) (mkW_at lj) hxy
  · obtain ⟨lk, rfl⟩ := mkW_inv hk
    exact hB k lk
/-! words: one list for all methods -/
def TB : List Cond := lw_tbl.filter goodWord
theorem TB_of {w : Cond} (i : Nat) (h : lw_tbl[i]? = some w) (g : goodWord w = true) : w ∈ TB := List.mem_filter.mpr ⟨List.mem_of_getElem? h, g⟩
def isNest : Cond → Bool
  | .fieldLinkNest .. => true
  | .methodLinkNest .. => true
  | _ => false
def NWl : List Cond := lw_tbl.filter isNest
theorem NWl_of {w : Cond} (i : Nat) (h : lw_tbl[i]? = some w) (g : isNest w = true) : w ∈ NWl := List.mem_filter.mpr ⟨List.mem_of_getElem? h, g⟩
def NW (U : State) : Prop := ∀ w ∈ NWl, va_Nw w U
theorem NW.warm {s U : State} (hW : s.WarmedH U.vm) (h : NW s) : NW U := fun w hw => by
  have hn := (List.mem_filter.mp hw).2
  have h1 := h w hw
  cases w <;> first | (cases hn; done) | exact va_Nw.warmF hW h1 | exact va_Nw.warmM hW h1
theorem NW.same {u U : State} (e : u.vm = U.vm) (h : NW u) : NW U := fun w hw => by
  have hn := (List.mem_filter.mp hw).2
  have h1 := h w hw
  cases w <;> first | (cases hn; done) | exact va_Nw.same rfl e h1
def abv : Nat → Int32
  | 0 => -1
  | 4 => 2
  | _ => 0
def abF : Nat → Value := fun j => .int (abv j)
abbrev tyE (E : Ev) : List (ClassId × FieldType) := [(E.2.1 0, .int), (E.2.1 1, .boolean), (E.2.1 2, .object "TownAsks$Sheet")]
def ZZ (E : Ev) (A : Nat → Prop) (U : State) (H : Heap) : Prop := va_Z "TownAsks" "ABOVE" "[I" (.ref E.2.2.2) A U H ∧ va_T .int E.2.2.2 5 abF A U H
abbrev wsM (y : MethodName) (cc : ByteArray) (nL : Nat) (ret : Option FieldType) : List Cond := .code y cc nL ret :: TB
theorem wsM_good {c0 : Cond} {y : MethodName} {cc : ByteArray} {nL : Nat} {ret : Option FieldType} (hc : Cond.code y cc nL ret ∈ TB) : GoodIn (c0 :: TB) (wsM y cc nL ret) := fun w h => by
  have hw : w ∈ TB := by
    rcases List.mem_cons.mp h with h | h
    · rw [h]; exact hc
    · exact h
  exact ⟨List.mem_cons_of_mem _ hw, good_of_word (List.mem_filter.mp hw).2⟩
theorem wsM_good0 {y : MethodName} {cc : ByteArray} {nL : Nat} {ret : Option FieldType} (hc : Cond.code y cc nL ret ∈ TB) : GoodIn TB (wsM y cc nL ret) := fun w h => by
  have hw : w ∈ TB := by
    rcases List.mem_cons.mp h with h | h
    · rw [h]; exact hc
    · exact h
  exact ⟨hw, good_of_word (List.mem_filter.mp hw).2⟩
/-! locals by their places -/
def lvp : Nat → List (Option Value) → List (Nat × Value)
  | _, [] => []
  | i, none :: r => lvp (i + 1) r
  | i, some v :: r => (i, v) :: lvp (i + 1) r
theorem lvp_mem : ∀ (lo : List (Option Value)) (n j : Nat) (v : Value), (j, v) ∈ lvp n lo ↔ n ≤ j ∧ lo[j - n]? = some (some v)
  | [], n, j, v => by simp [lvp]
  | none :: r, n, j, v => by
    rw [lvp, lvp_mem r (n + 1) j v]
    constructor
    · rintro ⟨h1, h2⟩
      refine ⟨by omega, ?_⟩
      rw [show j - n = (j - (n + 1)) + 1 by omega, List.getElem?_cons_succ]
      exact h2
    · rintro ⟨h1, h2⟩
      by_cases e : j = n
      · subst e
        simp at h2
      · refine ⟨by omega, ?_⟩
        rw [show j - n = (j - (n + 1)) + 1 by omega, List.getElem?_cons_succ] at h2
        exact h2
  | some u :: r, n, j, v => by
    rw [lvp, List.mem_cons, lvp_mem r (n + 1) j v]
    constructor
    · rintro (h | ⟨h1, h2⟩)
      · obtain ⟨rfl, rfl⟩ := Prod.mk.inj h
        simp
      · refine ⟨by omega, ?_⟩
        rw [show j - n = (j - (n + 1)) + 1 by omega, List.getElem?_cons_succ]
        exact h2
    · rintro ⟨h1, h2⟩
      by_cases e : j = n
      · subst e
        simp at h2
        exact Or.inl (by rw [h2])
      · refine Or.inr ⟨by omega, ?_⟩
        rw [show j - n = (j - (n + 1)) + 1 by omega, List.getElem?_cons_succ] at h2
        exact h2
theorem lvp_at {ls : Array Slot} {nL : Nat} {lo : List (Option Value)} (h : lv_has ls nL (lvp 0 lo)) (i : Nat) {v : Value} (hi : lo[i]? = some (some v)) : ls[i]? = some (.val v) :=
  h.2.2 (i, v) ((lvp_mem lo 0 i v).mpr ⟨Nat.zero_le _, hi⟩)
def lvok (lo : List (Option Value)) : Nat → Bool
  | 0 => true
  | j + 1 => match lo[j]? with
    | some (some w) => w.category == 1
    | _ => true
theorem lvp_store {ls : Array Slot} {nL i : Nat} {lo lo' : List (Option Value)} {v : Value} (h : lv_has ls nL ((i, v) :: (lvp 0 lo).filter (fun q => !(q.1 == i) && !(q.1 + 1 == i && q.2.category == 2)))) (hs : lo.set i (some v) = lo') (hok : lvok lo i = true) : lv_has ls nL (lvp 0 lo') := by
  refine ⟨h.1, h.2.1, fun q hq => ?_⟩
  obtain ⟨j, w⟩ := q
  obtain ⟨-, hj⟩ := (lvp_mem lo' 0 j w).mp hq
  subst hs
  rw [Nat.sub_zero] at hj
  by_cases e : j = i
  · subst e
    have hl : j < lo.length := by
      have := (List.getElem?_eq_some_iff.mp hj).1
      simpa using this
    rw [List.getElem?_set_self hl] at hj
    cases hj
    exact h.2.2 _ List.mem_cons_self
  · rw [List.getElem?_set_ne (Ne.symm e)] at hj
    refine h.2.2 _ (List.mem_cons_of_mem _ (List.mem_filter.mpr ⟨(lvp_mem lo 0 j w).mpr ⟨Nat.zero_le _, hj⟩, ?_⟩))
    have h1 : (j == i) = false := by simpa using e
    have h2 : (j + 1 == i && w.category == 2) = false := by
      by_cases e2 : j + 1 = i
      · subst e2
        rw [lvok, hj] at hok
        have hc : w.category = 1 := by simpa using hok
        simp [hc]
      · have : (j + 1 == i) = false := by simpa using e2
        simp [this]
    simp [h1, h2]
/-! the judgement -/
def Cx (K : Kx) (own : String) (cc : ByteArray) (nL : Nat) (ret : Option FieldType) (E : Ev) (A : Nat → Prop) (d : Nat) : Prop :=
  match K with
  | (p, _, _, R, s, m, args, _, meth, c, cells, slots, _) =>
    p.tables.exec = Jvm.exec ∧ c.code = cc ∧ c.maxLocals = nL ∧ meth.sig.returnType = ret ∧ meth.locks = false ∧ s.vm.findClass own = some m.cls ∧ (∀ w ∈ TB, w.before args s = true) ∧ NW s ∧ va_K E.1 vwCl (tyE E) s ∧ (∀ q, s.heap.size ≤ q → A q) ∧ ZZ E A s s.heap ∧ d ≤ R.frames ∧ 40 * d ≤ R.locals ∧ cells ≤ R.cells ∧ slots ≤ R.slots
def GW (K : Kx) (nL : Nat) (E : Ev) (wd : Wd) (A : Nat → Prop) (pc : Nat) (lo : List (Option Value)) (st : List Value) (h : Hp) : Prop :=
  match K with
  | (p, l, e, R, s, m, args, below, meth, c, cells, slots, Q) =>
    ∀ (H : Heap) (locs : List Loc) (ls : Array Slot), va_P E.1 vwCl (mkW wd h) H → va_D A (mkW wd h) → va_S A s.heap H locs → lv_has ls nL (lvp 0 lo) → W p l e R s m args below meth c H locs cells slots Q (F0 m pc ls st)
def QP (E : Ev) (wd : Wd) (post : Option Value → Hp → Prop) (A : Nat → Prop) : Array Value → State → Outcome → State → Prop := fun _ st oc t =>
  (∃ (v : Option Value) (h : Hp), oc = .returned v ∧ post v h ∧ va_P E.1 vwCl (mkW wd h) t.heap ∧ va_K E.1 vwCl (tyE E) t ∧ va_D A (mkW wd h)) ∧ va_F A st t
def KQ (K : Kx) (E : Ev) (wd : Wd) (post : Option Value → Hp → Prop) (A : Nat → Prop) : Prop :=
  match K with
  | (_, _, _, _, s, _, args, below, _, _, cells, slots, Q) => Q = MQ below (QP E wd post A) args s cells slots A
abbrev rmD (d : Nat) : Room := { frames := d, cells := 0, slots := 0, locals := 40 * d }
def PP (E : Ev) (wd : Wd) (avs : List Value) (h : Hp) (sz : Nat) : Array Value → State → Prop := va_Pc avs (fun U => U.heap.size = sz ∧ va_P E.1 vwCl (mkW wd h) U.heap ∧ va_K E.1 vwCl (tyE E) U ∧ va_D (fun _ => True) (mkW wd h) ∧ NW U ∧ ZZ E (AW wd sz) U U.heap)
/-- a method's contract over a world of numbers -/
def Cl (d : Nat) (y : MethodName) (cc : ByteArray) (nL : Nat) (ret : Option FieldType) (E : Ev) (wd : Wd) (avs : List Value) (h : Hp) (post : Option Value → Hp → Prop) : Prop :=
  ∀ (l : Launch) (sz : Nat), Met l y (wsM y cc nL ret) (rmD d) (PP E wd avs h sz) (QP E wd post (AW wd sz)) 0 0 (AW wd sz)
theorem PP_blind {E : Ev} {wd : Wd} {avs : List Value} {h : Hp} {sz : Nat} : FrameBlind (PP E wd avs h sz) := by
  intro a U g mk q
  obtain ⟨q0, q1, qP, qK, qD, qN, qZ, qT⟩ := q
  exact ⟨q0, q1, qP, va_K.moved (u := U) (U := U.calling g mk a) (Vm.Alike.refl U.vm) qK, qD, NW.same (u := U) rfl qN, va_Z.moved (u := U) (U := U.calling g mk a) (Vm.Alike.refl U.vm) qZ, va_T.moved (u := U) (U := U.calling g mk a) (Vm.Alike.refl U.vm) qT⟩
theorem Cl_of {d : Nat} {y : MethodName} {cc : ByteArray} {nL : Nat} {ret : Option FieldType} {E : Ev} {wd : Wd} {avs : List Value} {h : Hp} {post : Option Value → Hp → Prop} (lo : List (Option Value)) (hy : plainName y.cls = true) (hlo : lvp 0 lo = lv_args 0 avs) (hn : (lg_sl avs).length ≤ nL)
    (body : ∀ (K : Kx) (A : Nat → Prop), Cx K y.cls cc nL ret E A d → KQ K E wd post A → GW K nL E wd A 0 lo [] h) : Cl d y cc nL ret E wd avs h post := by
  intro l sz
  refine Met.ofW (cc := cc) (maxL := nL) (ret := ret) hy rfl ?_
  intro p e s m args below meth c s₁ B hml hv
  obtain ⟨rfl, hsz, hP, hK, hD0, hN, hZ⟩ := hv
  subst hsz
  have hts := atoms_spec (ws := wsM y cc nL ret) B.pre
  have hl := lv_entry avs hn
  rw [← hlo] at hl
  rw [lg_entry_eq]
  refine body (p, l, e, rmD d, s, m, avs.toArray, below, meth, c, 0, 0, MQ below (QP E wd post (AW wd s.heap.size)) avs.toArray s 0 0 (AW wd s.heap.size)) (AW wd s.heap.size) ⟨B.exec, B.bytes, hml, B.returns, B.notSynchronized, findClass_of_methodNamed B.named, fun w hw => hts w (List.mem_cons_of_mem _ hw), hN, hK, fun q hq => Or.inr hq, hZ, Nat.le_refl _, Nat.le_refl _, Nat.le_refl _, Nat.le_refl _⟩ rfl s.heap [] _ hP (mkW_D hD0 (fun k hk => AW_in hk)) va_S.rf hl
def Rt (v : Option Value) (h : Hp) : Option Value → Hp → Prop := fun r h' => r = v ∧ h' = h

section PR
variable {K : Kx} {own : String} {cc : ByteArray} {nL : Nat} {ret : Option FieldType} {E : Ev} {wd : Wd} {A : Nat → Prop} {d : Nat} {pc : Nat} {lo : List (Option Value)} {st : List Value} {h : Hp}
theorem P_iadd (X : Cx K own cc nL ret E A d) {x y : Int32} (q : Nat) (hd : decode cc pc = .ok (.iadd, 1)) (hq : pc + 1 = q) (k : GW K nL E wd A q lo (.int (x + y) :: st) h) : GW K nL E wd A pc lo (.int y :: .int x :: st) h := by
  subst hq
  obtain ⟨p, l, e, R, s, m, args, below, meth, c, cells, slots, Q⟩ := K
  obtain ⟨hx, hb, hml, hret, hlk, hown, hts, hN, hK, hA, hZ, hdf, hdl, hcc, hcs⟩ := X
  exact fun H locs ls hP hD hS hl => lv_iadd hx hb hd (k H locs ls hP hD hS hl)
theorem P_isub (X : Cx K own cc nL ret E A d) {x y : Int32} (q : Nat) (hd : decode cc pc = .ok (.isub, 1)) (hq : pc + 1 = q) (k : GW K nL E wd A q lo (.int (x - y) :: st) h) : GW K nL E wd A pc lo (.int y :: .int x :: st) h := by
  subst hq
  obtain ⟨p, l, e, R, s, m, args, below, meth, c, cells, slots, Q⟩ := K
  obtain ⟨hx, hb, hml, hret, hlk, hown, hts, hN, hK, hA, hZ, hdf, hdl, hcc, hcs⟩ := X
  exact fun H locs ls hP hD hS hl => lv_isub hx hb hd (k H locs ls hP hD hS hl)
theorem P_imul (X : Cx K own cc nL ret E A d) {x y : Int32} (q : Nat) (hd : decode cc pc = .ok (.imul, 1)) (hq : pc + 1 = q) (k : GW K nL E wd A q lo (.int (x * y) :: st) h) : GW K nL E wd A pc lo (.int y :: .int x :: st) h := by
  subst hq
  obtain ⟨p, l, e, R, s, m, args, below, meth, c, cells, slots, Q⟩ := K
  obtain ⟨hx, hb, hml, hret, hlk, hown, hts, hN, hK, hA, hZ, hdf, hdl, hcc, hcs⟩ := X
  exact fun H locs ls hP hD hS hl => lv_imul hx hb hd (k H locs ls hP hD hS hl)
theorem P_iand (X : Cx K own cc nL ret E A d) {x y : Int32} (q : Nat) (hd : decode cc pc = .ok (.iand, 1)) (hq : pc + 1 = q) (k : GW K nL E wd A q lo (.int (x &&& y) :: st) h) : GW K nL E wd A pc lo (.int y :: .int x :: st) h := by
  subst hq
  obtain ⟨p, l, e, R, s, m, args, below, meth, c, cells, slots, Q⟩ := K
  obtain ⟨hx, hb, hml, hret, hlk, hown, hts, hN, hK, hA, hZ, hdf, hdl, hcc, hcs⟩ := X
  exact fun H locs ls hP hD hS hl => lv_iand hx hb hd (k H locs ls hP hD hS hl)
theorem P_ior (X : Cx K own cc nL ret E A d) {x y : Int32} (q : Nat) (hd : decode cc pc = .ok (.ior, 1)) (hq : pc + 1 = q) (k : GW K nL E wd A q lo (.int (x ||| y) :: st) h) : GW K nL E wd A pc lo (.int y :: .int x :: st) h := by
  subst hq
  obtain ⟨p, l, e, R, s, m, args, below, meth, c, cells, slots, Q⟩ := K
  obtain ⟨hx, hb, hml, hret, hlk, hown, hts, hN, hK, hA, hZ, hdf, hdl, hcc, hcs⟩ := X
  exact fun H locs ls hP hD hS hl => lv_ior hx hb hd (k H locs ls hP hD hS hl)
theorem P_ixor (X : Cx K own cc nL ret E A d) {x y : Int32} (q : Nat) (hd : decode cc pc = .ok (.ixor, 1)) (hq : pc + 1 = q) (k : GW K nL E wd A q lo (.int (x ^^^ y) :: st) h) : GW K nL E wd A pc lo (.int y :: .int x :: st) h := by
  subst hq
  obtain ⟨p, l, e, R, s, m, args, below, meth, c, cells, slots, Q⟩ := K
  obtain ⟨hx, hb, hml, hret, hlk, hown, hts, hN, hK, hA, hZ, hdf, hdl, hcc, hcs⟩ := X
  exact fun H locs ls hP hD hS hl => lv_ixor hx hb hd (k H locs ls hP hD hS hl)
theorem P_land (X : Cx K own cc nL ret E A d) {x y : Int64} (q : Nat) (hd : decode cc pc = .ok (.land, 1)) (hq : pc + 1 = q) (k : GW K nL E wd A q lo (.long (x &&& y) :: st) h) : GW K nL E wd A pc lo (.long y :: .long x :: st) h := by
  subst hq
  obtain ⟨p, l, e, R, s, m, args, below, meth, c, cells, slots, Q⟩ := K
  obtain ⟨hx, hb, hml, hret, hlk, hown, hts, hN, hK, hA, hZ, hdf, hdl, hcc, hcs⟩ := X
  exact fun H locs ls hP hD hS hl => lv_land hx hb hd (k H locs ls hP hD hS hl)
theorem P_lor (X : Cx K own cc nL ret E A d) {x y : Int64} (q : Nat) (hd : decode cc pc = .ok (.lor, 1)) (hq : pc + 1 = q) (k : GW K nL E wd A q lo (.long (x ||| y) :: st) h) : GW K nL E wd A pc lo (.long y :: .long x :: st) h := by
  subst hq
  obtain ⟨p, l, e, R, s, m, args, below, meth, c, cells, slots, Q⟩ := K
  obtain ⟨hx, hb, hml, hret, hlk, hown, hts, hN, hK, hA, hZ, hdf, hdl, hcc, hcs⟩ := X
  exact fun H locs ls hP hD hS hl => lv_lor hx hb hd (k H locs ls hP hD hS hl)
theorem P_idiv (X : Cx K own cc nL ret E A d) {x y : Int32} (hne : ¬ y = 0) (q : Nat) (hd : decode cc pc = .ok (.idiv, 1)) (hq : pc + 1 = q) (k : GW K nL E wd A q lo (.int (x / y) :: st) h) : GW K nL E wd A pc lo (.int y :: .int x :: st) h := by
  subst hq
  obtain ⟨p, l, e, R, s, m, args, below, meth, c, cells, slots, Q⟩ := K
  obtain ⟨hx, hb, hml, hret, hlk, hown, hts, hN, hK, hA, hZ, hdf, hdl, hcc, hcs⟩ := X
  exact fun H locs ls hP hD hS hl => lv_idiv hx hb hd hne (k H locs ls hP hD hS hl)
theorem P_irem (X : Cx K own cc nL ret E A d) {x y : Int32} (hne : ¬ y = 0) (q : Nat) (hd : decode cc pc = .ok (.irem, 1)) (hq : pc + 1 = q) (k : GW K nL E wd A q lo (.int (x - x / y * y) :: st) h) : GW K nL E wd A pc lo (.int y :: .int x :: st) h := by
  subst hq
  obtain ⟨p, l, e, R, s, m, args, below, meth, c, cells, slots, Q⟩ := K
  obtain ⟨hx, hb, hml, hret, hlk, hown, hts, hN, hK, hA, hZ, hdf, hdl, hcc, hcs⟩ := X
  exact fun H locs ls hP hD hS hl => lv_irem hx hb hd hne (k H locs ls hP hD hS hl)
theorem P_ineg (X : Cx K own cc nL ret E A d) {x : Int32} (q : Nat) (hd : decode cc pc = .ok (.ineg, 1)) (hq : pc + 1 = q) (k : GW K nL E wd A q lo (.int (0 - x) :: st) h) : GW K nL E wd A pc lo (.int x :: st) h := by
  subst hq
  obtain ⟨p, l, e, R, s, m, args, below, meth, c, cells, slots, Q⟩ := K
  obtain ⟨hx, hb, hml, hret, hlk, hown, hts, hN, hK, hA, hZ, hdf, hdl, hcc, hcs⟩ := X
  exact fun H locs ls hP hD hS hl => lv_ineg hx hb hd (k H locs ls hP hD hS hl)
theorem P_ishl (X : Cx K own cc nL ret E A d) {x y : Int32} (q : Nat) (hd : decode cc pc = .ok (.ishl, 1)) (hq : pc + 1 = q) (k : GW K nL E wd A q lo (.int (x <<< (y &&& 31)) :: st) h) : GW K nL E wd A pc lo (.int y :: .int x :: st) h := by
  subst hq
  obtain ⟨p, l, e, R, s, m, args, below, meth, c, cells, slots, Q⟩ := K
  obtain ⟨hx, hb, hml, hret, hlk, hown, hts, hN, hK, hA, hZ, hdf, hdl, hcc, hcs⟩ := X
  exact fun H locs ls hP hD hS hl => lv_ishl hx hb hd (k H locs ls hP hD hS hl)
theorem P_ishr (X : Cx K own cc nL ret E A d) {x y : Int32} (q : Nat) (hd : decode cc pc = .ok (.ishr, 1)) (hq : pc + 1 = q) (k : GW K nL E wd A q lo (.int (x >>> (y &&& 31)) :: st) h) : GW K nL E wd A pc lo (.int y :: .int x :: st) h := by
  subst hq
  obtain ⟨p, l, e, R, s, m, args, below, meth, c, cells, slots, Q⟩ := K
  obtain ⟨hx, hb, hml, hret, hlk, hown, hts, hN, hK, hA, hZ, hdf, hdl, hcc, hcs⟩ := X
  exact fun H locs ls hP hD hS hl => lv_ishr hx hb hd (k H locs ls hP hD hS hl)
theorem P_iushr (X : Cx K own cc nL ret E A d) {x y : Int32} (q : Nat) (hd : decode cc pc = .ok (.iushr, 1)) (hq : pc + 1 = q) (k : GW K nL E wd A q lo (.int (x.toUInt32 >>> (y.toUInt32 &&& Int32.toUInt32 31)).toInt32 :: st) h) : GW K nL E wd A pc lo (.int y :: .int x :: st) h := by
  subst hq
  obtain ⟨p, l, e, R, s, m, args, below, meth, c, cells, slots, Q⟩ := K
  obtain ⟨hx, hb, hml, hret, hlk, hown, hts, hN, hK, hA, hZ, hdf, hdl, hcc, hcs⟩ := X
  exact fun H locs ls hP hD hS hl => lv_iushr hx hb hd rfl (k H locs ls hP hD hS hl)
theorem P_i2l (X : Cx K own cc nL ret E A d) {x : Int32} (q : Nat) (hd : decode cc pc = .ok (.i2l, 1)) (hq : pc + 1 = q) (k : GW K nL E wd A q lo (.long x.toInt64 :: st) h) : GW K nL E wd A pc lo (.int x :: st) h := by
  subst hq
  obtain ⟨p, l, e, R, s, m, args, below, meth, c, cells, slots, Q⟩ := K
  obtain ⟨hx, hb, hml, hret, hlk, hown, hts, hN, hK, hA, hZ, hdf, hdl, hcc, hcs⟩ := X
  exact fun H locs ls hP hD hS hl => lv_i2l hx hb hd rfl (k H locs ls hP hD hS hl)
theorem P_l2i (X : Cx K own cc nL ret E A d) {x : Int64} (q : Nat) (hd : decode cc pc = .ok (.l2i, 1)) (hq : pc + 1 = q) (k : GW K nL E wd A q lo (.int x.toInt32 :: st) h) : GW K nL E wd A pc lo (.long x :: st) h := by
  subst hq
  obtain ⟨p, l, e, R, s, m, args, below, meth, c, cells, slots, Q⟩ := K
  obtain ⟨hx, hb, hml, hret, hlk, hown, hts, hN, hK, hA, hZ, hdf, hdl, hcc, hcs⟩ := X
  exact fun H locs ls hP hD hS hl => lv_l2i hx hb hd rfl (k H locs ls hP hD hS hl)
theorem P_i2b (X : Cx K own cc nL ret E A d) {x : Int32} (q : Nat) (hd : decode cc pc = .ok (.i2b, 1)) (hq : pc + 1 = q) (k : GW K nL E wd A q lo (.int x.toInt8.toInt32 :: st) h) : GW K nL E wd A pc lo (.int x :: st) h := by
  subst hq
  obtain ⟨p, l, e, R, s, m, args, below, meth, c, cells, slots, Q⟩ := K
  obtain ⟨hx, hb, hml, hret, hlk, hown, hts, hN, hK, hA, hZ, hdf, hdl, hcc, hcs⟩ := X
  exact fun H locs ls hP hD hS hl => lv_i2b hx hb hd rfl (k H locs ls hP hD hS hl)
theorem P_i2s (X : Cx K own cc nL ret E A d) {x : Int32} (q : Nat) (hd : decode cc pc = .ok (.i2s, 1)) (hq : pc + 1 = q) (k : GW K nL E wd A q lo (.int x.toInt16.toInt32 :: st) h) : GW K nL E wd A pc lo (.int x :: st) h := by
  subst hq
  obtain ⟨p, l, e, R, s, m, args, below, meth, c, cells, slots, Q⟩ := K
  obtain ⟨hx, hb, hml, hret, hlk, hown, hts, hN, hK, hA, hZ, hdf, hdl, hcc, hcs⟩ := X
  exact fun H locs ls hP hD hS hl => lv_i2s hx hb hd rfl (k H locs ls hP hD hS hl)
theorem P_lushr (X : Cx K own cc nL ret E A d) {x : Int64} {y : Int32} (q : Nat) (hd : decode cc pc = .ok (.lushr, 1)) (hq : pc + 1 = q) (k : GW K nL E wd A q lo (.long (x.toUInt64 >>> (y.toInt64.toUInt64 &&& Int64.toUInt64 63)).toInt64 :: st) h) : GW K nL E wd A pc lo (.int y :: .long x :: st) h := by
  subst hq
  obtain ⟨p, l, e, R, s, m, args, below, meth, c, cells, slots, Q⟩ := K
  obtain ⟨hx, hb, hml, hret, hlk, hown, hts, hN, hK, hA, hZ, hdf, hdl, hcc, hcs⟩ := X
  exact fun H locs ls hP hD hS hl => lv_lushr hx hb hd rfl (k H locs ls hP hD hS hl)
theorem P_lshl (X : Cx K own cc nL ret E A d) {x : Int64} {y : Int32} (q : Nat) (hd : decode cc pc = .ok (.lshl, 1)) (hq : pc + 1 = q) (k : GW K nL E wd A q lo (.long (x <<< (y.toInt64 &&& 63)) :: st) h) : GW K nL E wd A pc lo (.int y :: .long x :: st) h := by
  subst hq
  obtain ⟨p, l, e, R, s, m, args, below, meth, c, cells, slots, Q⟩ := K
  obtain ⟨hx, hb, hml, hret, hlk, hown, hts, hN, hK, hA, hZ, hdf, hdl, hcc, hcs⟩ := X
  exact fun H locs ls hP hD hS hl => lv_lshl hx hb hd rfl (k H locs ls hP hD hS hl)
theorem P_lshr (X : Cx K own cc nL ret E A d) {x : Int64} {y : Int32} (q : Nat) (hd : decode cc pc = .ok (.lshr, 1)) (hq : pc + 1 = q) (k : GW K nL E wd A q lo (.long (x >>> (y.toInt64 &&& 63)) :: st) h) : GW K nL E wd A pc lo (.int y :: .long x :: st) h := by
  subst hq
  obtain ⟨p, l, e, R, s, m, args, below, meth, c, cells, slots, Q⟩ := K
  obtain ⟨hx, hb, hml, hret, hlk, hown, hts, hN, hK, hA, hZ, hdf, hdl, hcc, hcs⟩ := X
  exact fun H locs ls hP hD hS hl => lv_lshr hx hb hd rfl (k H locs ls hP hD hS hl)
theorem P_dup (X : Cx K own cc nL ret E A d) {v : Value} (hv : v.category = 1) (q : Nat) (hd : decode cc pc = .ok (.dup, 1)) (hq : pc + 1 = q) (k : GW K nL E wd A q lo (v :: v :: st) h) : GW K nL E wd A pc lo (v :: st) h := by
  subst hq
  obtain ⟨p, l, e, R, s, m, args, below, meth, c, cells, slots, Q⟩ := K
  obtain ⟨hx, hb, hml, hret, hlk, hown, hts, hN, hK, hA, hZ, hdf, hdl, hcc, hcs⟩ := X
  exact fun H locs ls hP hD hS hl => lv_dup hx hb hd hv (k H locs ls hP hD hS hl)
theorem P_dup2 (X : Cx K own cc nL ret E A d) {v u : Value} (hv : v.category = 1) (hu : u.category = 1) (q : Nat) (hd : decode cc pc = .ok (.dup2, 1)) (hq : pc + 1 = q) (k : GW K nL E wd A q lo (v :: u :: v :: u :: st) h) : GW K nL E wd A pc lo (v :: u :: st) h := by
  subst hq
  obtain ⟨p, l, e, R, s, m, args, below, meth, c, cells, slots, Q⟩ := K
  obtain ⟨hx, hb, hml, hret, hlk, hown, hts, hN, hK, hA, hZ, hdf, hdl, hcc, hcs⟩ := X
  exact fun H locs ls hP hD hS hl => lv_dup2_11 hx hb hd hv hu (k H locs ls hP hD hS hl)
theorem P_pop (X : Cx K own cc nL ret E A d) {v : Value} (hv : v.category = 1) (q : Nat) (hd : decode cc pc = .ok (.pop, 1)) (hq : pc + 1 = q) (k : GW K nL E wd A q lo (st) h) : GW K nL E wd A pc lo (v :: st) h := by
  subst hq
  obtain ⟨p, l, e, R, s, m, args, below, meth, c, cells, slots, Q⟩ := K
  obtain ⟨hx, hb, hml, hret, hlk, hown, hts, hN, hK, hA, hZ, hdf, hdl, hcc, hcs⟩ := X
  exact fun H locs ls hP hD hS hl => lv_pop hx hb hd hv (k H locs ls hP hD hS hl)
theorem P_iconst (X : Cx K own cc nL ret E A d) {n : Int} (v : Int32) (hv : Int32.ofInt n = v) (q : Nat) (hd : decode cc pc = .ok (.iconst n, 1)) (hq : pc + 1 = q) (k : GW K nL E wd A q lo (.int v :: st) h) : GW K nL E wd A pc lo (st) h := by
  subst hq
  obtain ⟨p, l, e, R, s, m, args, below, meth, c, cells, slots, Q⟩ := K
  obtain ⟨hx, hb, hml, hret, hlk, hown, hts, hN, hK, hA, hZ, hdf, hdl, hcc, hcs⟩ := X
  exact fun H locs ls hP hD hS hl => lv_iconst hx hb hd hv (k H locs ls hP hD hS hl)
theorem P_bipush (X : Cx K own cc nL ret E A d) {n : Int} (v : Int32) (hv : (Int8.ofInt n).toInt32 = v) (q : Nat) (hd : decode cc pc = .ok (.bipush n, 2)) (hq : pc + 2 = q) (k : GW K nL E wd A q lo (.int v :: st) h) : GW K nL E wd A pc lo (st) h := by
  subst hq
  obtain ⟨p, l, e, R, s, m, args, below, meth, c, cells, slots, Q⟩ := K
  obtain ⟨hx, hb, hml, hret, hlk, hown, hts, hN, hK, hA, hZ, hdf, hdl, hcc, hcs⟩ := X
  exact fun H locs ls hP hD hS hl => lv_bipush hx hb hd hv (k H locs ls hP hD hS hl)
theorem P_sipush (X : Cx K own cc nL ret E A d) {n : Int} (v : Int32) (hv : (Int16.ofInt n).toInt32 = v) (q : Nat) (hd : decode cc pc = .ok (.sipush n, 3)) (hq : pc + 3 = q) (k : GW K nL E wd A q lo (.int v :: st) h) : GW K nL E wd A pc lo (st) h := by
  subst hq
  obtain ⟨p, l, e, R, s, m, args, below, meth, c, cells, slots, Q⟩ := K
  obtain ⟨hx, hb, hml, hret, hlk, hown, hts, hN, hK, hA, hZ, hdf, hdl, hcc, hcs⟩ := X
  exact fun H locs ls hP hD hS hl => lv_sipush hx hb hd hv (k H locs ls hP hD hS hl)
theorem P_ldc (X : Cx K own cc nL ret E A d) {ix : Nat} {v : Int32} (hw : Cond.constant own ix v ∈ TB) (q : Nat) (hd : decode cc pc = .ok (.ldc ix, 2)) (hq : pc + 2 = q) (k : GW K nL E wd A q lo (.int v :: st) h) : GW K nL E wd A pc lo (st) h := by
  subst hq
  obtain ⟨p, l, e, R, s, m, args, below, meth, c, cells, slots, Q⟩ := K
  obtain ⟨hx, hb, hml, hret, hlk, hown, hts, hN, hK, hA, hZ, hdf, hdl, hcc, hcs⟩ := X
  exact fun H locs ls hP hD hS hl => lv_ldc hx hb hown (hts _ hw) hd (k H locs ls hP hD hS hl)
theorem P_ldcw (X : Cx K own cc nL ret E A d) {ix : Nat} {v : Int32} (hw : Cond.constant own ix v ∈ TB) (q : Nat) (hd : decode cc pc = .ok (.ldc_w ix, 3)) (hq : pc + 3 = q) (k : GW K nL E wd A q lo (.int v :: st) h) : GW K nL E wd A pc lo (st) h := by
  subst hq
  obtain ⟨p, l, e, R, s, m, args, below, meth, c, cells, slots, Q⟩ := K
  obtain ⟨hx, hb, hml, hret, hlk, hown, hts, hN, hK, hA, hZ, hdf, hdl, hcc, hcs⟩ := X
  exact fun H locs ls hP hD hS hl => lv_ldcw hx hb hown (hts _ hw) hd (k H locs ls hP hD hS hl)
theorem P_ldc2 (X : Cx K own cc nL ret E A d) {ix : Nat} {v : Int64} (hw : Cond.constantLong own ix v ∈ TB) (q : Nat) (hd : decode cc pc = .ok (.ldc2_w ix, 3)) (hq : pc + 3 = q) (k : GW K nL E wd A q lo (.long v :: st) h) : GW K nL E wd A pc lo (st) h := by
  subst hq
  obtain ⟨p, l, e, R, s, m, args, below, meth, c, cells, slots, Q⟩ := K
  obtain ⟨hx, hb, hml, hret, hlk, hown, hts, hN, hK, hA, hZ, hdf, hdl, hcc, hcs⟩ := X
  exact fun H locs ls hP hD hS hl => lv_ldc2 hx hb hown (hts _ hw) hd (k H locs ls hP hD hS hl)
theorem P_goto (X : Cx K own cc nL ret E A d) {off : Int} (q : Nat) (hd : decode cc pc = .ok (.goto off, 3)) (hq : (pc : Int) + off = (q : Int)) (k : GW K nL E wd A q lo st h) : GW K nL E wd A pc lo st h := by
  obtain ⟨p, l, e, R, s, m, args, below, meth, c, cells, slots, Q⟩ := K
  obtain ⟨hx, hb, hml, hret, hlk, hown, hts, hN, hK, hA, hZ, hdf, hdl, hcc, hcs⟩ := X
  exact fun H locs ls hP hD hS hl => lv_goto hx hb hd hq (k H locs ls hP hD hS hl)
theorem P_if_eq (X : Cx K own cc nL ret E A d) {x : Int32} {off : Int} (tgt q : Nat) (hd : decode cc pc = .ok (.ifCond .eq off, 3)) (ht : (pc : Int) + off = (tgt : Int)) (hq : pc + 3 = q) (kt : x = 0 → GW K nL E wd A tgt lo st h) (kf : ¬ x = 0 → GW K nL E wd A q lo st h) : GW K nL E wd A pc lo (.int x :: st) h := by
  subst hq
  obtain ⟨p, l, e, R, s, m, args, below, meth, c, cells, slots, Q⟩ := K
  obtain ⟨hx, hb, hml, hret, hlk, hown, hts, hN, hK, hA, hZ, hdf, hdl, hcc, hcs⟩ := X
  exact fun H locs ls hP hD hS hl => lv_if_eq hx hb hd ht (fun z => kt z H locs ls hP hD hS hl) (fun z => kf z H locs ls hP hD hS hl)
theorem P_icmp_eq (X : Cx K own cc nL ret E A d) {x y : Int32} {off : Int} (tgt q : Nat) (hd : decode cc pc = .ok (.if_icmp .eq off, 3)) (ht : (pc : Int) + off = (tgt : Int)) (hq : pc + 3 = q) (kt : x = y → GW K nL E wd A tgt lo st h) (kf : ¬ x = y → GW K nL E wd A q lo st h) : GW K nL E wd A pc lo (.int y :: .int x :: st) h := by
  subst hq
  obtain ⟨p, l, e, R, s, m, args, below, meth, c, cells, slots, Q⟩ := K
  obtain ⟨hx, hb, hml, hret, hlk, hown, hts, hN, hK, hA, hZ, hdf, hdl, hcc, hcs⟩ := X
  exact fun H locs ls hP hD hS hl => lv_icmp_eq hx hb hd ht (fun z => kt z H locs ls hP hD hS hl) (fun z => kf z H locs ls hP hD hS hl)
theorem P_if_ne (X : Cx K own cc nL ret E A d) {x : Int32} {off : Int} (tgt q : Nat) (hd : decode cc pc = .ok (.ifCond .ne off, 3)) (ht : (pc : Int) + off = (tgt : Int)) (hq : pc + 3 = q) (kt : ¬ x = 0 → GW K nL E wd A tgt lo st h) (kf : x = 0 → GW K nL E wd A q lo st h) : GW K nL E wd A pc lo (.int x :: st) h := by
  subst hq
  obtain ⟨p, l, e, R, s, m, args, below, meth, c, cells, slots, Q⟩ := K
  obtain ⟨hx, hb, hml, hret, hlk, hown, hts, hN, hK, hA, hZ, hdf, hdl, hcc, hcs⟩ := X
  exact fun H locs ls hP hD hS hl => lv_if_ne hx hb hd ht (fun z => kt z H locs ls hP hD hS hl) (fun z => kf z H locs ls hP hD hS hl)
theorem P_icmp_ne (X : Cx K own cc nL ret E A d) {x y : Int32} {off : Int} (tgt q : Nat) (hd : decode cc pc = .ok (.if_icmp .ne off, 3)) (ht : (pc : Int) + off = (tgt : Int)) (hq : pc + 3 = q) (kt : ¬ x = y → GW K nL E wd A tgt lo st h) (kf : x = y → GW K nL E wd A q lo st h) : GW K nL E wd A pc lo (.int y :: .int x :: st) h := by
  subst hq
  obtain ⟨p, l, e, R, s, m, args, below, meth, c, cells, slots, Q⟩ := K
  obtain ⟨hx, hb, hml, hret, hlk, hown, hts, hN, hK, hA, hZ, hdf, hdl, hcc, hcs⟩ := X
  exact fun H locs ls hP hD hS hl => lv_icmp_ne hx hb hd ht (fun z => kt z H locs ls hP hD hS hl) (fun z => kf z H locs ls hP hD hS hl)
theorem P_if_lt (X : Cx K own cc nL ret E A d) {x : Int32} {off : Int} (tgt q : Nat) (hd : decode cc pc = .ok (.ifCond .lt off, 3)) (ht : (pc : Int) + off = (tgt : Int)) (hq : pc + 3 = q) (kt : x < 0 → GW K nL E wd A tgt lo st h) (kf : ¬ x < 0 → GW K nL E wd A q lo st h) : GW K nL E wd A pc lo (.int x :: st) h := by
  subst hq
  obtain ⟨p, l, e, R, s, m, args, below, meth, c, cells, slots, Q⟩ := K
  obtain ⟨hx, hb, hml, hret, hlk, hown, hts, hN, hK, hA, hZ, hdf, hdl, hcc, hcs⟩ := X
  exact fun H locs ls hP hD hS hl => lv_if_lt hx hb hd ht (fun z => kt z H locs ls hP hD hS hl) (fun z => kf z H locs ls hP hD hS hl)
theorem P_icmp_lt (X : Cx K own cc nL ret E A d) {x y : Int32} {off : Int} (tgt q : Nat) (hd : decode cc pc = .ok (.if_icmp .lt off, 3)) (ht : (pc : Int) + off = (tgt : Int)) (hq : pc + 3 = q) (kt : x < y → GW K nL E wd A tgt lo st h) (kf : ¬ x < y → GW K nL E wd A q lo st h) : GW K nL E wd A pc lo (.int y :: .int x :: st) h := by
  subst hq
  obtain ⟨p, l, e, R, s, m, args, below, meth, c, cells, slots, Q⟩ := K
  obtain ⟨hx, hb, hml, hret, hlk, hown, hts, hN, hK, hA, hZ, hdf, hdl, hcc, hcs⟩ := X
  exact fun H locs ls hP hD hS hl => lv_icmp_lt hx hb hd ht (fun z => kt z H locs ls hP hD hS hl) (fun z => kf z H locs ls hP hD hS hl)
theorem P_if_ge (X : Cx K own cc nL ret E A d) {x : Int32} {off : Int} (tgt q : Nat) (hd : decode cc pc = .ok (.ifCond .ge off, 3)) (ht : (pc : Int) + off = (tgt : Int)) (hq : pc + 3 = q) (kt : 0 ≤ x → GW K nL E wd A tgt lo st h) (kf : ¬ 0 ≤ x → GW K nL E wd A q lo st h) : GW K nL E wd A pc lo (.int x :: st) h := by
  subst hq
  obtain ⟨p, l, e, R, s, m, args, below, meth, c, cells, slots, Q⟩ := K
  obtain ⟨hx, hb, hml, hret, hlk, hown, hts, hN, hK, hA, hZ, hdf, hdl, hcc, hcs⟩ := X
  exact fun H locs ls hP hD hS hl => lv_if_ge hx hb hd ht (fun z => kt z H locs ls hP hD hS hl) (fun z => kf z H locs ls hP hD hS hl)
theorem P_icmp_ge (X : Cx K own cc nL ret E A d) {x y : Int32} {off : Int} (tgt q : Nat) (hd : decode cc pc = .ok (.if_icmp .ge off, 3)) (ht : (pc : Int) + off = (tgt : Int)) (hq : pc + 3 = q) (kt : y ≤ x → GW K nL E wd A tgt lo st h) (kf : ¬ y ≤ x → GW K nL E wd A q lo st h) : GW K nL E wd A pc lo (.int y :: .int x :: st) h := by
  subst hq
  obtain ⟨p, l, e, R, s, m, args, below, meth, c, cells, slots, Q⟩ := K
  obtain ⟨hx, hb, hml, hret, hlk, hown, hts, hN, hK, hA, hZ, hdf, hdl, hcc, hcs⟩ := X
  exact fun H locs ls hP hD hS hl => lv_icmp_ge hx hb hd ht (fun z => kt z H locs ls hP hD hS hl) (fun z => kf z H locs ls hP hD hS hl)
theorem P_if_gt (X : Cx K own cc nL ret E A d) {x : Int32} {off : Int} (tgt q : Nat) (hd : decode cc pc = .ok (.ifCond .gt off, 3)) (ht : (pc : Int) + off = (tgt : Int)) (hq : pc + 3 = q) (kt : 0 < x → GW K nL E wd A tgt lo st h) (kf : ¬ 0 < x → GW K nL E wd A q lo st h) : GW K nL E wd A pc lo (.int x :: st) h := by
  subst hq
  obtain ⟨p, l, e, R, s, m, args, below, meth, c, cells, slots, Q⟩ := K
  obtain ⟨hx, hb, hml, hret, hlk, hown, hts, hN, hK, hA, hZ, hdf, hdl, hcc, hcs⟩ := X
  exact fun H locs ls hP hD hS hl => lv_if_gt hx hb hd ht (fun z => kt z H locs ls hP hD hS hl) (fun z => kf z H locs ls hP hD hS hl)
theorem P_icmp_gt (X : Cx K own cc nL ret E A d) {x y : Int32} {off : Int} (tgt q : Nat) (hd : decode cc pc = .ok (.if_icmp .gt off, 3)) (ht : (pc : Int) + off = (tgt : Int)) (hq : pc + 3 = q) (kt : y < x → GW K nL E wd A tgt lo st h) (kf : ¬ y < x → GW K nL E wd A q lo st h) : GW K nL E wd A pc lo (.int y :: .int x :: st) h := by
  subst hq
  obtain ⟨p, l, e, R, s, m, args, below, meth, c, cells, slots, Q⟩ := K
  obtain ⟨hx, hb, hml, hret, hlk, hown, hts, hN, hK, hA, hZ, hdf, hdl, hcc, hcs⟩ := X
  exact fun H locs ls hP hD hS hl => lv_icmp_gt hx hb hd ht (fun z => kt z H locs ls hP hD hS hl) (fun z => kf z H locs ls hP hD hS hl)
theorem P_if_le (X : Cx K own cc nL ret E A d) {x : Int32} {off : Int} (tgt q : Nat) (hd : decode cc pc = .ok (.ifCond .le off, 3)) (ht : (pc : Int) + off = (tgt : Int)) (hq : pc + 3 = q) (kt : x ≤ 0 → GW K nL E wd A tgt lo st h) (kf : ¬ x ≤ 0 → GW K nL E wd A q lo st h) : GW K nL E wd A pc lo (.int x :: st) h := by
  subst hq
  obtain ⟨p, l, e, R, s, m, args, below, meth, c, cells, slots, Q⟩ := K
  obtain ⟨hx, hb, hml, hret, hlk, hown, hts, hN, hK, hA, hZ, hdf, hdl, hcc, hcs⟩ := X
  exact fun H locs ls hP hD hS hl => lv_if_le hx hb hd ht (fun z => kt z H locs ls hP hD hS hl) (fun z => kf z H locs ls hP hD hS hl)
theorem P_icmp_le (X : Cx K own cc nL ret E A d) {x y : Int32} {off : Int} (tgt q : Nat) (hd : decode cc pc = .ok (.if_icmp .le off, 3)) (ht : (pc : Int) + off = (tgt : Int)) (hq : pc + 3 = q) (kt : x ≤ y → GW K nL E wd A tgt lo st h) (kf : ¬ x ≤ y → GW K nL E wd A q lo st h) : GW K nL E wd A pc lo (.int y :: .int x :: st) h := by
  subst hq
  obtain ⟨p, l, e, R, s, m, args, below, meth, c, cells, slots, Q⟩ := K
  obtain ⟨hx, hb, hml, hret, hlk, hown, hts, hN, hK, hA, hZ, hdf, hdl, hcc, hcs⟩ := X
  exact fun H locs ls hP hD hS hl => lv_icmp_le hx hb hd ht (fun z => kt z H locs ls hP hD hS hl) (fun z => kf z H locs ls hP hD hS hl)
theorem P_iload0 (X : Cx K own cc nL ret E A d) {x : Int32} (q : Nat) (hd : decode cc pc = .ok (.iload_n 0, 1)) (hq : pc + 1 = q) (k : GW K nL E wd A q (some (.int x) :: lo) (.int x :: st) h) : GW K nL E wd A pc (some (.int x) :: lo) (st) h := by
  subst hq
  obtain ⟨p, l, e, R, s, m, args, below, meth, c, cells, slots, Q⟩ := K
  obtain ⟨hx, hb, hml, hret, hlk, hown, hts, hN, hK, hA, hZ, hdf, hdl, hcc, hcs⟩ := X
  exact fun H locs ls hP hD hS hl => lv_iload_n hx hb hd rfl (lvp_at hl 0 rfl) (k H locs ls hP hD hS hl)
theorem P_aload0 (X : Cx K own cc nL ret E A d) {x : Nat} (q : Nat) (hd : decode cc pc = .ok (.aload_n 0, 1)) (hq : pc + 1 = q) (k : GW K nL E wd A q (some (.ref x) :: lo) (.ref x :: st) h) : GW K nL E wd A pc (some (.ref x) :: lo) (st) h := by
  subst hq
  obtain ⟨p, l, e, R, s, m, args, below, meth, c, cells, slots, Q⟩ := K
  obtain ⟨hx, hb, hml, hret, hlk, hown, hts, hN, hK, hA, hZ, hdf, hdl, hcc, hcs⟩ := X
  exact fun H locs ls hP hD hS hl => lv_aload_n hx hb hd rfl (lvp_at hl 0 rfl) (k H locs ls hP hD hS hl)
theorem P_lload0 (X : Cx K own cc nL ret E A d) {x : Int64} (q : Nat) (hd : decode cc pc = .ok (.lload_n 0, 1)) (hq : pc + 1 = q) (k : GW K nL E wd A q (some (.long x) :: lo) (.long x :: st) h) : GW K nL E wd A pc (some (.long x) :: lo) (st) h := by
  subst hq
  obtain ⟨p, l, e, R, s, m, args, below, meth, c, cells, slots, Q⟩ := K
  obtain ⟨hx, hb, hml, hret, hlk, hown, hts, hN, hK, hA, hZ, hdf, hdl, hcc, hcs⟩ := X
  exact fun H locs ls hP hD hS hl => lv_lload_n hx hb hd rfl (lvp_at hl 0 rfl) (k H locs ls hP hD hS hl)
theorem P_istore0 (X : Cx K own cc nL ret E A d) {ow : Option Value} {x : Int32} (q : Nat) (hd : decode cc pc = .ok (.istore_n 0, 1)) (hq : pc + 1 = q) (hn : 0 < nL) (hok : lvok (ow :: lo) 0 = true) (k : GW K nL E wd A q (some (.int x) :: lo) st h) : GW K nL E wd A pc (ow :: lo) (.int x :: st) h := by
  subst hq
  obtain ⟨p, l, e, R, s, m, args, below, meth, c, cells, slots, Q⟩ := K
  obtain ⟨hx, hb, hml, hret, hlk, hown, hts, hN, hK, hA, hZ, hdf, hdl, hcc, hcs⟩ := X
  exact fun H locs ls hP hD hS hl => lv_istore_n hx hb hd rfl hl hn rfl (fun ls' hl' => k H locs ls' hP hD hS (lvp_store hl' rfl hok))
theorem P_astore0 (X : Cx K own cc nL ret E A d) {ow : Option Value} {x : Nat} (q : Nat) (hd : decode cc pc = .ok (.astore_n 0, 1)) (hq : pc + 1 = q) (hn : 0 < nL) (hok : lvok (ow :: lo) 0 = true) (k : GW K nL E wd A q (some (.ref x) :: lo) st h) : GW K nL E wd A pc (ow :: lo) (.ref x :: st) h := by
  subst hq
  obtain ⟨p, l, e, R, s, m, args, below, meth, c, cells, slots, Q⟩ := K
  obtain ⟨hx, hb, hml, hret, hlk, hown, hts, hN, hK, hA, hZ, hdf, hdl, hcc, hcs⟩ := X
  exact fun H locs ls hP hD hS hl => lv_astore_n hx hb hd rfl hl hn rfl (fun ls' hl' => k H locs ls' hP hD hS (lvp_store hl' rfl hok))
theorem P_iinc0 (X : Cx K own cc nL ret E A d) {x : Int32} {n : Int} (v : Int32) (hv : Int32.ofInt n = v) (q : Nat) (hd : decode cc pc = .ok (.iinc 0 n, 3)) (hq : pc + 3 = q) (hn : 0 < nL) (hok : lvok (some (.int x) :: lo) 0 = true) (k : GW K nL E wd A q (some (.int (x + v)) :: lo) st h) : GW K nL E wd A pc (some (.int x) :: lo) st h := by
  subst hq
  obtain ⟨p, l, e, R, s, m, args, below, meth, c, cells, slots, Q⟩ := K
  obtain ⟨hx, hb, hml, hret, hlk, hown, hts, hN, hK, hA, hZ, hdf, hdl, hcc, hcs⟩ := X
  intro H locs ls hP hD hS hl
  obtain ⟨kk, hkk⟩ := List.getElem?_of_mem ((lvp_mem (some (.int x) :: lo) 0 0 (.int x)).mpr ⟨Nat.zero_le _, rfl⟩)
  exact lv_iinc hx hb hd hl hkk (by rw [hv]) hn rfl (fun ls' hl' => k H locs ls' hP hD hS (lvp_store hl' rfl hok))
theorem P_iload1 (X : Cx K own cc nL ret E A d) {o0 : Option Value} {x : Int32} (q : Nat) (hd : decode cc pc = .ok (.iload_n 1, 1)) (hq : pc + 1 = q) (k : GW K nL E wd A q (o0 :: some (.int x) :: lo) (.int x :: st) h) : GW K nL E wd A pc (o0 :: some (.int x) :: lo) (st) h := by
  subst hq
  obtain ⟨p, l, e, R, s, m, args, below, meth, c, cells, slots, Q⟩ := K
  obtain ⟨hx, hb, hml, hret, hlk, hown, hts, hN, hK, hA, hZ, hdf, hdl, hcc, hcs⟩ := X
  exact fun H locs ls hP hD hS hl => lv_iload_n hx hb hd rfl (lvp_at hl 1 rfl) (k H locs ls hP hD hS hl)
theorem P_aload1 (X : Cx K own cc nL ret E A d) {o0 : Option Value} {x : Nat} (q : Nat) (hd : decode cc pc = .ok (.aload_n 1, 1)) (hq : pc + 1 = q) (k : GW K nL E wd A q (o0 :: some (.ref x) :: lo) (.ref x :: st) h) : GW K nL E wd A pc (o0 :: some (.ref x) :: lo) (st) h := by
  subst hq
  obtain ⟨p, l, e, R, s, m, args, below, meth, c, cells, slots, Q⟩ := K
  obtain ⟨hx, hb, hml, hret, hlk, hown, hts, hN, hK, hA, hZ, hdf, hdl, hcc, hcs⟩ := X
  exact fun H locs ls hP hD hS hl => lv_aload_n hx hb hd rfl (lvp_at hl 1 rfl) (k H locs ls hP hD hS hl)
theorem P_lload1 (X : Cx K own cc nL ret E A d) {o0 : Option Value} {x : Int64} (q : Nat) (hd : decode cc pc = .ok (.lload_n 1, 1)) (hq : pc + 1 = q) (k : GW K nL E wd A q (o0 :: some (.long x) :: lo) (.long x :: st) h) : GW K nL E wd A pc (o0 :: some (.long x) :: lo) (st) h := by
  subst hq
  obtain ⟨p, l, e, R, s, m, args, below, meth, c, cells, slots, Q⟩ := K
  obtain ⟨hx, hb, hml, hret, hlk, hown, hts, hN, hK, hA, hZ, hdf, hdl, hcc, hcs⟩ := X
  exact fun H locs ls hP hD hS hl => lv_lload_n hx hb hd rfl (lvp_at hl 1 rfl) (k H locs ls hP hD hS hl)
theorem P_istore1 (X : Cx K own cc nL ret E A d) {o0 : Option Value} {ow : Option Value} {x : Int32} (q : Nat) (hd : decode cc pc = .ok (.istore_n 1, 1)) (hq : pc + 1 = q) (hn : 1 < nL) (hok : lvok (o0 :: ow :: lo) 1 = true) (k : GW K nL E wd A q (o0 :: some (.int x) :: lo) st h) : GW K nL E wd A pc (o0 :: ow :: lo) (.int x :: st) h := by
  subst hq
  obtain ⟨p, l, e, R, s, m, args, below, meth, c, cells, slots, Q⟩ := K
  obtain ⟨hx, hb, hml, hret, hlk, hown, hts, hN, hK, hA, hZ, hdf, hdl, hcc, hcs⟩ := X
  exact fun H locs ls hP hD hS hl => lv_istore_n hx hb hd rfl hl hn rfl (fun ls' hl' => k H locs ls' hP hD hS (lvp_store hl' rfl hok))
theorem P_astore1 (X : Cx K own cc nL ret E A d) {o0 : Option Value} {ow : Option Value} {x : Nat} (q : Nat) (hd : decode cc pc = .ok (.astore_n 1, 1)) (hq : pc + 1 = q) (hn : 1 < nL) (hok : lvok (o0 :: ow :: lo) 1 = true) (k : GW K nL E wd A q (o0 :: some (.ref x) :: lo) st h) : GW K nL E wd A pc (o0 :: ow :: lo) (.ref x :: st) h := by
  subst hq
  obtain ⟨p, l, e, R, s, m, args, below, meth, c, cells, slots, Q⟩ := K
  obtain ⟨hx, hb, hml, hret, hlk, hown, hts, hN, hK, hA, hZ, hdf, hdl, hcc, hcs⟩ := X
  exact fun H locs ls hP hD hS hl => lv_astore_n hx hb hd rfl hl hn rfl (fun ls' hl' => k H locs ls' hP hD hS (lvp_store hl' rfl hok))
theorem P_iinc1 (X : Cx K own cc nL ret E A d) {o0 : Option Value} {x : Int32} {n : Int} (v : Int32) (hv : Int32.ofInt n = v) (q : Nat) (hd : decode cc pc = .ok (.iinc 1 n, 3)) (hq : pc + 3 = q) (hn : 1 < nL) (hok : lvok (o0 :: some (.int x) :: lo) 1 = true) (k : GW K nL E wd A q (o0 :: some (.int (x + v)) :: lo) st h) : GW K nL E wd A pc (o0 :: some (.int x) :: lo) st h := by
  subst hq
  obtain ⟨p, l, e, R, s, m, args, below, meth, c, cells, slots, Q⟩ := K
  obtain ⟨hx, hb, hml, hret, hlk, hown, hts, hN, hK, hA, hZ, hdf, hdl, hcc, hcs⟩ := X
  intro H locs ls hP hD hS hl
  obtain ⟨kk, hkk⟩ := List.getElem?_of_mem ((lvp_mem (o0 :: some (.int x) :: lo) 0 1 (.int x)).mpr ⟨Nat.zero_le _, rfl⟩)
  exact lv_iinc hx hb hd hl hkk (by rw [hv]) hn rfl (fun ls' hl' => k H locs ls' hP hD hS (lvp_store hl' rfl hok))
theorem P_iload2 (X : Cx K own cc nL ret E A d) {o0 o1 : Option Value} {x : Int32} (q : Nat) (hd : decode cc pc = .ok (.iload_n 2, 1)) (hq : pc + 1 = q) (k : GW K nL E wd A q (o0 :: o1 :: some (.int x) :: lo) (.int x :: st) h) : GW K nL E wd A pc (o0 :: o1 :: some (.int x) :: lo) (st) h := by
  subst hq
  obtain ⟨p, l, e, R, s, m, args, below, meth, c, cells, slots, Q⟩ := K
  obtain ⟨hx, hb, hml, hret, hlk, hown, hts, hN, hK, hA, hZ, hdf, hdl, hcc, hcs⟩ := X
  exact fun H locs ls hP hD hS hl => lv_iload_n hx hb hd rfl (lvp_at hl 2 rfl) (k H locs ls hP hD hS hl)
theorem P_aload2 (X : Cx K own cc nL ret E A d) {o0 o1 : Option Value} {x : Nat} (q : Nat) (hd : decode cc pc = .ok (.aload_n 2, 1)) (hq : pc + 1 = q) (k : GW K nL E wd A q (o0 :: o1 :: some (.ref x) :: lo) (.ref x :: st) h) : GW K nL E wd A pc (o0 :: o1 :: some (.ref x) :: lo) (st) h := by
  subst hq
  obtain ⟨p, l, e, R, s, m, args, below, meth, c, cells, slots, Q⟩ := K
  obtain ⟨hx, hb, hml, hret, hlk, hown, hts, hN, hK, hA, hZ, hdf, hdl, hcc, hcs⟩ := X
  exact fun H locs ls hP hD hS hl => lv_aload_n hx hb hd rfl (lvp_at hl 2 rfl) (k H locs ls hP hD hS hl)
theorem P_lload2 (X : Cx K own cc nL ret E A d) {o0 o1 : Option Value} {x : Int64} (q : Nat) (hd : decode cc pc = .ok (.lload_n 2, 1)) (hq : pc + 1 = q) (k : GW K nL E wd A q (o0 :: o1 :: some (.long x) :: lo) (.long x :: st) h) : GW K nL E wd A pc (o0 :: o1 :: some (.long x) :: lo) (st) h := by
  subst hq
  obtain ⟨p, l, e, R, s, m, args, below, meth, c, cells, slots, Q⟩ := K
  obtain ⟨hx, hb, hml, hret, hlk, hown, hts, hN, hK, hA, hZ, hdf, hdl, hcc, hcs⟩ := X
  exact fun H locs ls hP hD hS hl => lv_lload_n hx hb hd rfl (lvp_at hl 2 rfl) (k H locs ls hP hD hS hl)
theorem P_istore2 (X : Cx K own cc nL ret E A d) {o0 o1 : Option Value} {ow : Option Value} {x : Int32} (q : Nat) (hd : decode cc pc = .ok (.istore_n 2, 1)) (hq : pc + 1 = q) (hn : 2 < nL) (hok : lvok (o0 :: o1 :: ow :: lo) 2 = true) (k : GW K nL E wd A q (o0 :: o1 :: some (.int x) :: lo) st h) : GW K nL E wd A pc (o0 :: o1 :: ow :: lo) (.int x :: st) h := by
  subst hq
  obtain ⟨p, l, e, R, s, m, args, below, meth, c, cells, slots, Q⟩ := K
  obtain ⟨hx, hb, hml, hret, hlk, hown, hts, hN, hK, hA, hZ, hdf, hdl, hcc, hcs⟩ := X
  exact fun H locs ls hP hD hS hl => lv_istore_n hx hb hd rfl hl hn rfl (fun ls' hl' => k H locs ls' hP hD hS (lvp_store hl' rfl hok))
theorem P_astore2 (X : Cx K own cc nL ret E A d) {o0 o1 : Option Value} {ow : Option Value} {x : Nat} (q : Nat) (hd : decode cc pc = .ok (.astore_n 2, 1)) (hq : pc + 1 = q) (hn : 2 < nL) (hok : lvok (o0 :: o1 :: ow :: lo) 2 = true) (k : GW K nL E wd A q (o0 :: o1 :: some (.ref x) :: lo) st h) : GW K nL E wd A pc (o0 :: o1 :: ow :: lo) (.ref x :: st) h := by
  subst hq
  obtain ⟨p, l, e, R, s, m, args, below, meth, c, cells, slots, Q⟩ := K
  obtain ⟨hx, hb, hml, hret, hlk, hown, hts, hN, hK, hA, hZ, hdf, hdl, hcc, hcs⟩ := X
  exact fun H locs ls hP hD hS hl => lv_astore_n hx hb hd rfl hl hn rfl (fun ls' hl' => k H locs ls' hP hD hS (lvp_store hl' rfl hok))
theorem P_iinc2 (X : Cx K own cc nL ret E A d) {o0 o1 : Option Value} {x : Int32} {n : Int} (v : Int32) (hv : Int32.ofInt n = v) (q : Nat) (hd : decode cc pc = .ok (.iinc 2 n, 3)) (hq : pc + 3 = q) (hn : 2 < nL) (hok : lvok (o0 :: o1 :: some (.int x) :: lo) 2 = true) (k : GW K nL E wd A q (o0 :: o1 :: some (.int (x + v)) :: lo) st h) : GW K nL E wd A pc (o0 :: o1 :: some (.int x) :: lo) st h := by
  subst hq
  obtain ⟨p, l, e, R, s, m, args, below, meth, c, cells, slots, Q⟩ := K
  obtain ⟨hx, hb, hml, hret, hlk, hown, hts, hN, hK, hA, hZ, hdf, hdl, hcc, hcs⟩ := X
  intro H locs ls hP hD hS hl
  obtain ⟨kk, hkk⟩ := List.getElem?_of_mem ((lvp_mem (o0 :: o1 :: some (.int x) :: lo) 0 2 (.int x)).mpr ⟨Nat.zero_le _, rfl⟩)
  exact lv_iinc hx hb hd hl hkk (by rw [hv]) hn rfl (fun ls' hl' => k H locs ls' hP hD hS (lvp_store hl' rfl hok))
theorem P_iload3 (X : Cx K own cc nL ret E A d) {o0 o1 o2 : Option Value} {x : Int32} (q : Nat) (hd : decode cc pc = .ok (.iload_n 3, 1)) (hq : pc + 1 = q) (k : GW K nL E wd A q (o0 :: o1 :: o2 :: some (.int x) :: lo) (.int x :: st) h) : GW K nL E wd A pc (o0 :: o1 :: o2 :: some (.int x) :: lo) (st) h := by
  subst hq
  obtain ⟨p, l, e, R, s, m, args, below, meth, c, cells, slots, Q⟩ := K
  obtain ⟨hx, hb, hml, hret, hlk, hown, hts, hN, hK, hA, hZ, hdf, hdl, hcc, hcs⟩ := X
  exact fun H locs ls hP hD hS hl => lv_iload_n hx hb hd rfl (lvp_at hl 3 rfl) (k H locs ls hP hD hS hl)
theorem P_aload3 (X : Cx K own cc nL ret E A d) {o0 o1 o2 : Option Value} {x : Nat} (q : Nat) (hd : decode cc pc = .ok (.aload_n 3, 1)) (hq : pc + 1 = q) (k : GW K nL E wd A q (o0 :: o1 :: o2 :: some (.ref x) :: lo) (.ref x :: st) h) : GW K nL E wd A pc (o0 :: o1 :: o2 :: some (.ref x) :: lo) (st) h := by
  subst hq
  obtain ⟨p, l, e, R, s, m, args, below, meth, c, cells, slots, Q⟩ := K
  obtain ⟨hx, hb, hml, hret, hlk, hown, hts, hN, hK, hA, hZ, hdf, hdl, hcc, hcs⟩ := X
  exact fun H locs ls hP hD hS hl => lv_aload_n hx hb hd rfl (lvp_at hl 3 rfl) (k H locs ls hP hD hS hl)
theorem P_lload3 (X : Cx K own cc nL ret E A d) {o0 o1 o2 : Option Value} {x : Int64} (q : Nat) (hd : decode cc pc = .ok (.lload_n 3, 1)) (hq : pc + 1 = q) (k : GW K nL E wd A q (o0 :: o1 :: o2 :: some (.long x) :: lo) (.long x :: st) h) : GW K nL E wd A pc (o0 :: o1 :: o2 :: some (.long x) :: lo) (st) h := by
  subst hq
  obtain ⟨p, l, e, R, s, m, args, below, meth, c, cells, slots, Q⟩ := K
  obtain ⟨hx, hb, hml, hret, hlk, hown, hts, hN, hK, hA, hZ, hdf, hdl, hcc, hcs⟩ := X
  exact fun H locs ls hP hD hS hl => lv_lload_n hx hb hd rfl (lvp_at hl 3 rfl) (k H locs ls hP hD hS hl)
theorem P_istore3 (X : Cx K own cc nL ret E A d) {o0 o1 o2 : Option Value} {ow : Option Value} {x : Int32} (q : Nat) (hd : decode cc pc = .ok (.istore_n 3, 1)) (hq : pc + 1 = q) (hn : 3 < nL) (hok : lvok (o0 :: o1 :: o2 :: ow :: lo) 3 = true) (k : GW K nL E wd A q (o0 :: o1 :: o2 :: some (.int x) :: lo) st h) : GW K nL E wd A pc (o0 :: o1 :: o2 :: ow :: lo) (.int x :: st) h := by
  subst hq
  obtain ⟨p, l, e, R, s, m, args, below, meth, c, cells, slots, Q⟩ := K
  obtain ⟨hx, hb, hml, hret, hlk, hown, hts, hN, hK, hA, hZ, hdf, hdl, hcc, hcs⟩ := X
  exact fun H locs ls hP hD hS hl => lv_istore_n hx hb hd rfl hl hn rfl (fun ls' hl' => k H locs ls' hP hD hS (lvp_store hl' rfl hok))
theorem P_astore3 (X : Cx K own cc nL ret E A d) {o0 o1 o2 : Option Value} {ow : Option Value} {x : Nat} (q : Nat) (hd : decode cc pc = .ok (.astore_n 3, 1)) (hq : pc + 1 = q) (hn : 3 < nL) (hok : lvok (o0 :: o1 :: o2 :: ow :: lo) 3 = true) (k : GW K nL E wd A q (o0 :: o1 :: o2 :: some (.ref x) :: lo) st h) : GW K nL E wd A pc (o0 :: o1 :: o2 :: ow :: lo) (.ref x :: st) h := by
  subst hq
  obtain ⟨p, l, e, R, s, m, args, below, meth, c, cells, slots, Q⟩ := K
  obtain ⟨hx, hb, hml, hret, hlk, hown, hts, hN, hK, hA, hZ, hdf, hdl, hcc, hcs⟩ := X
  exact fun H locs ls hP hD hS hl => lv_astore_n hx hb hd rfl hl hn rfl (fun ls' hl' => k H locs ls' hP hD hS (lvp_store hl' rfl hok))
theorem P_iinc3 (X : Cx K own cc nL ret E A d) {o0 o1 o2 : Option Value} {x : Int32} {n : Int} (v : Int32) (hv : Int32.ofInt n = v) (q : Nat) (hd : decode cc pc = .ok (.iinc 3 n, 3)) (hq : pc + 3 = q) (hn : 3 < nL) (hok : lvok (o0 :: o1 :: o2 :: some (.int x) :: lo) 3 = true) (k : GW K nL E wd A q (o0 :: o1 :: o2 :: some (.int (x + v)) :: lo) st h) : GW K nL E wd A pc (o0 :: o1 :: o2 :: some (.int x) :: lo) st h := by
  subst hq
  obtain ⟨p, l, e, R, s, m, args, below, meth, c, cells, slots, Q⟩ := K
  obtain ⟨hx, hb, hml, hret, hlk, hown, hts, hN, hK, hA, hZ, hdf, hdl, hcc, hcs⟩ := X
  intro H locs ls hP hD hS hl
  obtain ⟨kk, hkk⟩ := List.getElem?_of_mem ((lvp_mem (o0 :: o1 :: o2 :: some (.int x) :: lo) 0 3 (.int x)).mpr ⟨Nat.zero_le _, rfl⟩)
  exact lv_iinc hx hb hd hl hkk (by rw [hv]) hn rfl (fun ls' hl' => k H locs ls' hP hD hS (lvp_store hl' rfl hok))
theorem P_iload4 (X : Cx K own cc nL ret E A d) {o0 o1 o2 o3 : Option Value} {x : Int32} (q : Nat) (hd : decode cc pc = .ok (.iload 4, 2)) (hq : pc + 2 = q) (k : GW K nL E wd A q (o0 :: o1 :: o2 :: o3 :: some (.int x) :: lo) (.int x :: st) h) : GW K nL E wd A pc (o0 :: o1 :: o2 :: o3 :: some (.int x) :: lo) (st) h := by
  subst hq
  obtain ⟨p, l, e, R, s, m, args, below, meth, c, cells, slots, Q⟩ := K
  obtain ⟨hx, hb, hml, hret, hlk, hown, hts, hN, hK, hA, hZ, hdf, hdl, hcc, hcs⟩ := X
  exact fun H locs ls hP hD hS hl => lv_iload hx hb hd (lvp_at hl 4 rfl) (k H locs ls hP hD hS hl)
theorem P_aload4 (X : Cx K own cc nL ret E A d) {o0 o1 o2 o3 : Option Value} {x : Nat} (q : Nat) (hd : decode cc pc = .ok (.aload 4, 2)) (hq : pc + 2 = q) (k : GW K nL E wd A q (o0 :: o1 :: o2 :: o3 :: some (.ref x) :: lo) (.ref x :: st) h) : GW K nL E wd A pc (o0 :: o1 :: o2 :: o3 :: some (.ref x) :: lo) (st) h := by
  subst hq
  obtain ⟨p, l, e, R, s, m, args, below, meth, c, cells, slots, Q⟩ := K
  obtain ⟨hx, hb, hml, hret, hlk, hown, hts, hN, hK, hA, hZ, hdf, hdl, hcc, hcs⟩ := X
  exact fun H locs ls hP hD hS hl => lv_aload hx hb hd (lvp_at hl 4 rfl) (k H locs ls hP hD hS hl)
theorem P_istore4 (X : Cx K own cc nL ret E A d) {o0 o1 o2 o3 : Option Value} {ow : Option Value} {x : Int32} (q : Nat) (hd : decode cc pc = .ok (.istore 4, 2)) (hq : pc + 2 = q) (hn : 4 < nL) (hok : lvok (o0 :: o1 :: o2 :: o3 :: ow :: lo) 4 = true) (k : GW K nL E wd A q (o0 :: o1 :: o2 :: o3 :: some (.int x) :: lo) st h) : GW K nL E wd A pc (o0 :: o1 :: o2 :: o3 :: ow :: lo) (.int x :: st) h := by
  subst hq
  obtain ⟨p, l, e, R, s, m, args, below, meth, c, cells, slots, Q⟩ := K
  obtain ⟨hx, hb, hml, hret, hlk, hown, hts, hN, hK, hA, hZ, hdf, hdl, hcc, hcs⟩ := X
  exact fun H locs ls hP hD hS hl => lv_istore hx hb hd hl hn rfl (fun ls' hl' => k H locs ls' hP hD hS (lvp_store hl' rfl hok))
theorem P_astore4 (X : Cx K own cc nL ret E A d) {o0 o1 o2 o3 : Option Value} {ow : Option Value} {x : Nat} (q : Nat) (hd : decode cc pc = .ok (.astore 4, 2)) (hq : pc + 2 = q) (hn : 4 < nL) (hok : lvok (o0 :: o1 :: o2 :: o3 :: ow :: lo) 4 = true) (k : GW K nL E wd A q (o0 :: o1 :: o2 :: o3 :: some (.ref x) :: lo) st h) : GW K nL E wd A pc (o0 :: o1 :: o2 :: o3 :: ow :: lo) (.ref x :: st) h := by
  subst hq
  obtain ⟨p, l, e, R, s, m, args, below, meth, c, cells, slots, Q⟩ := K
  obtain ⟨hx, hb, hml, hret, hlk, hown, hts, hN, hK, hA, hZ, hdf, hdl, hcc, hcs⟩ := X
  exact fun H locs ls hP hD hS hl => lv_astore hx hb hd hl hn rfl (fun ls' hl' => k H locs ls' hP hD hS (lvp_store hl' rfl hok))
theorem P_iinc4 (X : Cx K own cc nL ret E A d) {o0 o1 o2 o3 : Option Value} {x : Int32} {n : Int} (v : Int32) (hv : Int32.ofInt n = v) (q : Nat) (hd : decode cc pc = .ok (.iinc 4 n, 3)) (hq : pc + 3 = q) (hn : 4 < nL) (hok : lvok (o0 :: o1 :: o2 :: o3 :: some (.int x) :: lo) 4 = true) (k : GW K nL E wd A q (o0 :: o1 :: o2 :: o3 :: some (.int (x + v)) :: lo) st h) : GW K nL E wd A pc (o0 :: o1 :: o2 :: o3 :: some (.int x) :: lo) st h := by
  subst hq
  obtain ⟨p, l, e, R, s, m, args, below, meth, c, cells, slots, Q⟩ := K
  obtain ⟨hx, hb, hml, hret, hlk, hown, hts, hN, hK, hA, hZ, hdf, hdl, hcc, hcs⟩ := X
  intro H locs ls hP hD hS hl
  obtain ⟨kk, hkk⟩ := List.getElem?_of_mem ((lvp_mem (o0 :: o1 :: o2 :: o3 :: some (.int x) :: lo) 0 4 (.int x)).mpr ⟨Nat.zero_le _, rfl⟩)
  exact lv_iinc hx hb hd hl hkk (by rw [hv]) hn rfl (fun ls' hl' => k H locs ls' hP hD hS (lvp_store hl' rfl hok))
theorem P_iload5 (X : Cx K own cc nL ret E A d) {o0 o1 o2 o3 o4 : Option Value} {x : Int32} (q : Nat) (hd : decode cc pc = .ok (.iload 5, 2)) (hq : pc + 2 = q) (k : GW K nL E wd A q (o0 :: o1 :: o2 :: o3 :: o4 :: some (.int x) :: lo) (.int x :: st) h) : GW K nL E wd A pc (o0 :: o1 :: o2 :: o3 :: o4 :: some (.int x) :: lo) (st) h := by
  subst hq
  obtain ⟨p, l, e, R, s, m, args, below, meth, c, cells, slots, Q⟩ := K
  obtain ⟨hx, hb, hml, hret, hlk, hown, hts, hN, hK, hA, hZ, hdf, hdl, hcc, hcs⟩ := X
  exact fun H locs ls hP hD hS hl => lv_iload hx hb hd (lvp_at hl 5 rfl) (k H locs ls hP hD hS hl)
theorem P_aload5 (X : Cx K own cc nL ret E A d) {o0 o1 o2 o3 o4 : Option Value} {x : Nat} (q : Nat) (hd : decode cc pc = .ok (.aload 5, 2)) (hq : pc + 2 = q) (k : GW K nL E wd A q (o0 :: o1 :: o2 :: o3 :: o4 :: some (.ref x) :: lo) (.ref x :: st) h) : GW K nL E wd A pc (o0 :: o1 :: o2 :: o3 :: o4 :: some (.ref x) :: lo) (st) h := by
  subst hq
  obtain ⟨p, l, e, R, s, m, args, below, meth, c, cells, slots, Q⟩ := K
  obtain ⟨hx, hb, hml, hret, hlk, hown, hts, hN, hK, hA, hZ, hdf, hdl, hcc, hcs⟩ := X
  exact fun H locs ls hP hD hS hl => lv_aload hx hb hd (lvp_at hl 5 rfl) (k H locs ls hP hD hS hl)
theorem P_istore5 (X : Cx K own cc nL ret E A d) {o0 o1 o2 o3 o4 : Option Value} {ow : Option Value} {x : Int32} (q : Nat) (hd : decode cc pc = .ok (.istore 5, 2)) (hq : pc + 2 = q) (hn : 5 < nL) (hok : lvok (o0 :: o1 :: o2 :: o3 :: o4 :: ow :: lo) 5 = true) (k : GW K nL E wd A q (o0 :: o1 :: o2 :: o3 :: o4 :: some (.int x) :: lo) st h) : GW K nL E wd A pc (o0 :: o1 :: o2 :: o3 :: o4 :: ow :: lo) (.int x :: st) h := by
  subst hq
  obtain ⟨p, l, e, R, s, m, args, below, meth, c, cells, slots, Q⟩ := K
  obtain ⟨hx, hb, hml, hret, hlk, hown, hts, hN, hK, hA, hZ, hdf, hdl, hcc, hcs⟩ := X
  exact fun H locs ls hP hD hS hl => lv_istore hx hb hd hl hn rfl (fun ls' hl' => k H locs ls' hP hD hS (lvp_store hl' rfl hok))
theorem P_astore5 (X : Cx K own cc nL ret E A d) {o0 o1 o2 o3 o4 : Option Value} {ow : Option Value} {x : Nat} (q : Nat) (hd : decode cc pc = .ok (.astore 5, 2)) (hq : pc + 2 = q) (hn : 5 < nL) (hok : lvok (o0 :: o1 :: o2 :: o3 :: o4 :: ow :: lo) 5 = true) (k : GW K nL E wd A q (o0 :: o1 :: o2 :: o3 :: o4 :: some (.ref x) :: lo) st h) : GW K nL E wd A pc (o0 :: o1 :: o2 :: o3 :: o4 :: ow :: lo) (.ref x :: st) h := by
  subst hq
  obtain ⟨p, l, e, R, s, m, args, below, meth, c, cells, slots, Q⟩ := K
  obtain ⟨hx, hb, hml, hret, hlk, hown, hts, hN, hK, hA, hZ, hdf, hdl, hcc, hcs⟩ := X
  exact fun H locs ls hP hD hS hl => lv_astore hx hb hd hl hn rfl (fun ls' hl' => k H locs ls' hP hD hS (lvp_store hl' rfl hok))
theorem P_iinc5 (X : Cx K own cc nL ret E A d) {o0 o1 o2 o3 o4 : Option Value} {x : Int32} {n : Int} (v : Int32) (hv : Int32.ofInt n = v) (q : Nat) (hd : decode cc pc = .ok (.iinc 5 n, 3)) (hq : pc + 3 = q) (hn : 5 < nL) (hok : lvok (o0 :: o1 :: o2 :: o3 :: o4 :: some (.int x) :: lo) 5 = true) (k : GW K nL E wd A q (o0 :: o1 :: o2 :: o3 :: o4 :: some (.int (x + v)) :: lo) st h) : GW K nL E wd A pc (o0 :: o1 :: o2 :: o3 :: o4 :: some (.int x) :: lo) st h := by
  subst hq
  obtain ⟨p, l, e, R, s, m, args, below, meth, c, cells, slots, Q⟩ := K
  obtain ⟨hx, hb, hml, hret, hlk, hown, hts, hN, hK, hA, hZ, hdf, hdl, hcc, hcs⟩ := X
  intro H locs ls hP hD hS hl
  obtain ⟨kk, hkk⟩ := List.getElem?_of_mem ((lvp_mem (o0 :: o1 :: o2 :: o3 :: o4 :: some (.int x) :: lo) 0 5 (.int x)).mpr ⟨Nat.zero_le _, rfl⟩)
  exact lv_iinc hx hb hd hl hkk (by rw [hv]) hn rfl (fun ls' hl' => k H locs ls' hP hD hS (lvp_store hl' rfl hok))
theorem P_iload6 (X : Cx K own cc nL ret E A d) {o0 o1 o2 o3 o4 o5 : Option Value} {x : Int32} (q : Nat) (hd : decode cc pc = .ok (.iload 6, 2)) (hq : pc + 2 = q) (k : GW K nL E wd A q (o0 :: o1 :: o2 :: o3 :: o4 :: o5 :: some (.int x) :: lo) (.int x :: st) h) : GW K nL E wd A pc (o0 :: o1 :: o2 :: o3 :: o4 :: o5 :: some (.int x) :: lo) (st) h := by
  subst hq
  obtain ⟨p, l, e, R, s, m, args, below, meth, c, cells, slots, Q⟩ := K
  obtain ⟨hx, hb, hml, hret, hlk, hown, hts, hN, hK, hA, hZ, hdf, hdl, hcc, hcs⟩ := X
  exact fun H locs ls hP hD hS hl => lv_iload hx hb hd (lvp_at hl 6 rfl) (k H locs ls hP hD hS hl)
theorem P_aload6 (X : Cx K own cc nL ret E A d) {o0 o1 o2 o3 o4 o5 : Option Value} {x : Nat} (q : Nat) (hd : decode cc pc = .ok (.aload 6, 2)) (hq : pc + 2 = q) (k : GW K nL E wd A q (o0 :: o1 :: o2 :: o3 :: o4 :: o5 :: some (.ref x) :: lo) (.ref x :: st) h) : GW K nL E wd A pc (o0 :: o1 :: o2 :: o3 :: o4 :: o5 :: some (.ref x) :: lo) (st) h := by
  subst hq
  obtain ⟨p, l, e, R, s, m, args, below, meth, c, cells, slots, Q⟩ := K
  obtain ⟨hx, hb, hml, hret, hlk, hown, hts, hN, hK, hA, hZ, hdf, hdl, hcc, hcs⟩ := X
  exact fun H locs ls hP hD hS hl => lv_aload hx hb hd (lvp_at hl 6 rfl) (k H locs ls hP hD hS hl)
theorem P_istore6 (X : Cx K own cc nL ret E A d) {o0 o1 o2 o3 o4 o5 : Option Value} {ow : Option Value} {x : Int32} (q : Nat) (hd : decode cc pc = .ok (.istore 6, 2)) (hq : pc + 2 = q) (hn : 6 < nL) (hok : lvok (o0 :: o1 :: o2 :: o3 :: o4 :: o5 :: ow :: lo) 6 = true) (k : GW K nL E wd A q (o0 :: o1 :: o2 :: o3 :: o4 :: o5 :: some (.int x) :: lo) st h) : GW K nL E wd A pc (o0 :: o1 :: o2 :: o3 :: o4 :: o5 :: ow :: lo) (.int x :: st) h := by
  subst hq
  obtain ⟨p, l, e, R, s, m, args, below, meth, c, cells, slots, Q⟩ := K
  obtain ⟨hx, hb, hml, hret, hlk, hown, hts, hN, hK, hA, hZ, hdf, hdl, hcc, hcs⟩ := X
  exact fun H locs ls hP hD hS hl => lv_istore hx hb hd hl hn rfl (fun ls' hl' => k H locs ls' hP hD hS (lvp_store hl' rfl hok))
theorem P_astore6 (X : Cx K own cc nL ret E A d) {o0 o1 o2 o3 o4 o5 : Option Value} {ow : Option Value} {x : Nat} (q : Nat) (hd : decode cc pc = .ok (.astore 6, 2)) (hq : pc + 2 = q) (hn : 6 < nL) (hok : lvok (o0 :: o1 :: o2 :: o3 :: o4 :: o5 :: ow :: lo) 6 = true) (k : GW K nL E wd A q (o0 :: o1 :: o2 :: o3 :: o4 :: o5 :: some (.ref x) :: lo) st h) : GW K nL E wd A pc (o0 :: o1 :: o2 :: o3 :: o4 :: o5 :: ow :: lo) (.ref x :: st) h := by
  subst hq
  obtain ⟨p, l, e, R, s, m, args, below, meth, c, cells, slots, Q⟩ := K
  obtain ⟨hx, hb, hml, hret, hlk, hown, hts, hN, hK, hA, hZ, hdf, hdl, hcc, hcs⟩ := X
  exact fun H locs ls hP hD hS hl => lv_astore hx hb hd hl hn rfl (fun ls' hl' => k H locs ls' hP hD hS (lvp_store hl' rfl hok))
theorem P_iinc6 (X : Cx K own cc nL ret E A d) {o0 o1 o2 o3 o4 o5 : Option Value} {x : Int32} {n : Int} (v : Int32) (hv : Int32.ofInt n = v) (q : Nat) (hd : decode cc pc = .ok (.iinc 6 n, 3)) (hq : pc + 3 = q) (hn : 6 < nL) (hok : lvok (o0 :: o1 :: o2 :: o3 :: o4 :: o5 :: some (.int x) :: lo) 6 = true) (k : GW K nL E wd A q (o0 :: o1 :: o2 :: o3 :: o4 :: o5 :: some (.int (x + v)) :: lo) st h) : GW K nL E wd A pc (o0 :: o1 :: o2 :: o3 :: o4 :: o5 :: some (.int x) :: lo) st h := by
  subst hq
  obtain ⟨p, l, e, R, s, m, args, below, meth, c, cells, slots, Q⟩ := K
  obtain ⟨hx, hb, hml, hret, hlk, hown, hts, hN, hK, hA, hZ, hdf, hdl, hcc, hcs⟩ := X
  intro H locs ls hP hD hS hl
  obtain ⟨kk, hkk⟩ := List.getElem?_of_mem ((lvp_mem (o0 :: o1 :: o2 :: o3 :: o4 :: o5 :: some (.int x) :: lo) 0 6 (.int x)).mpr ⟨Nat.zero_le _, rfl⟩)
  exact lv_iinc hx hb hd hl hkk (by rw [hv]) hn rfl (fun ls' hl' => k H locs ls' hP hD hS (lvp_store hl' rfl hok))
theorem P_iload7 (X : Cx K own cc nL ret E A d) {o0 o1 o2 o3 o4 o5 o6 : Option Value} {x : Int32} (q : Nat) (hd : decode cc pc = .ok (.iload 7, 2)) (hq : pc + 2 = q) (k : GW K nL E wd A q (o0 :: o1 :: o2 :: o3 :: o4 :: o5 :: o6 :: some (.int x) :: lo) (.int x :: st) h) : GW K nL E wd A pc (o0 :: o1 :: o2 :: o3 :: o4 :: o5 :: o6 :: some (.int x) :: lo) (st) h := by
  subst hq
  obtain ⟨p, l, e, R, s, m, args, below, meth, c, cells, slots, Q⟩ := K
  obtain ⟨hx, hb, hml, hret, hlk, hown, hts, hN, hK, hA, hZ, hdf, hdl, hcc, hcs⟩ := X
  exact fun H locs ls hP hD hS hl => lv_iload hx hb hd (lvp_at hl 7 rfl) (k H locs ls hP hD hS hl)
theorem P_aload7 (X : Cx K own cc nL ret E A d) {o0 o1 o2 o3 o4 o5 o6 : Option Value} {x : Nat} (q : Nat) (hd : decode cc pc = .ok (.aload 7, 2)) (hq : pc + 2 = q) (k : GW K nL E wd A q (o0 :: o1 :: o2 :: o3 :: o4 :: o5 :: o6 :: some (.ref x) :: lo) (.ref x :: st) h) : GW K nL E wd A pc (o0 :: o1 :: o2 :: o3 :: o4 :: o5 :: o6 :: some (.ref x) :: lo) (st) h := by
  subst hq
  obtain ⟨p, l, e, R, s, m, args, below, meth, c, cells, slots, Q⟩ := K
  obtain ⟨hx, hb, hml, hret, hlk, hown, hts, hN, hK, hA, hZ, hdf, hdl, hcc, hcs⟩ := X
  exact fun H locs ls hP hD hS hl => lv_aload hx hb hd (lvp_at hl 7 rfl) (k H locs ls hP hD hS hl)
theorem P_istore7 (X : Cx K own cc nL ret E A d) {o0 o1 o2 o3 o4 o5 o6 : Option Value} {ow : Option Value} {x : Int32} (q : Nat) (hd : decode cc pc = .ok (.istore 7, 2)) (hq : pc + 2 = q) (hn : 7 < nL) (hok : lvok (o0 :: o1 :: o2 :: o3 :: o4 :: o5 :: o6 :: ow :: lo) 7 = true) (k : GW K nL E wd A q (o0 :: o1 :: o2 :: o3 :: o4 :: o5 :: o6 :: some (.int x) :: lo) st h) : GW K nL E wd A pc (o0 :: o1 :: o2 :: o3 :: o4 :: o5 :: o6 :: ow :: lo) (.int x :: st) h := by
  subst hq
  obtain ⟨p, l, e, R, s, m, args, below, meth, c, cells, slots, Q⟩ := K
  obtain ⟨hx, hb, hml, hret, hlk, hown, hts, hN, hK, hA, hZ, hdf, hdl, hcc, hcs⟩ := X
  exact fun H locs ls hP hD hS hl => lv_istore hx hb hd hl hn rfl (fun ls' hl' => k H locs ls' hP hD hS (lvp_store hl' rfl hok))
theorem P_astore7 (X : Cx K own cc nL ret E A d) {o0 o1 o2 o3 o4 o5 o6 : Option Value} {ow : Option Value} {x : Nat} (q : Nat) (hd : decode cc pc = .ok (.astore 7, 2)) (hq : pc + 2 = q) (hn : 7 < nL) (hok : lvok (o0 :: o1 :: o2 :: o3 :: o4 :: o5 :: o6 :: ow :: lo) 7 = true) (k : GW K nL E wd A q (o0 :: o1 :: o2 :: o3 :: o4 :: o5 :: o6 :: some (.ref x) :: lo) st h) : GW K nL E wd A pc (o0 :: o1 :: o2 :: o3 :: o4 :: o5 :: o6 :: ow :: lo) (.ref x :: st) h := by
  subst hq
  obtain ⟨p, l, e, R, s, m, args, below, meth, c, cells, slots, Q⟩ := K
  obtain ⟨hx, hb, hml, hret, hlk, hown, hts, hN, hK, hA, hZ, hdf, hdl, hcc, hcs⟩ := X
  exact fun H locs ls hP hD hS hl => lv_astore hx hb hd hl hn rfl (fun ls' hl' => k H locs ls' hP hD hS (lvp_store hl' rfl hok))
theorem P_iinc7 (X : Cx K own cc nL ret E A d) {o0 o1 o2 o3 o4 o5 o6 : Option Value} {x : Int32} {n : Int} (v : Int32) (hv : Int32.ofInt n = v) (q : Nat) (hd : decode cc pc = .ok (.iinc 7 n, 3)) (hq : pc + 3 = q) (hn : 7 < nL) (hok : lvok (o0 :: o1 :: o2 :: o3 :: o4 :: o5 :: o6 :: some (.int x) :: lo) 7 = true) (k : GW K nL E wd A q (o0 :: o1 :: o2 :: o3 :: o4 :: o5 :: o6 :: some (.int (x + v)) :: lo) st h) : GW K nL E wd A pc (o0 :: o1 :: o2 :: o3 :: o4 :: o5 :: o6 :: some (.int x) :: lo) st h := by
  subst hq
  obtain ⟨p, l, e, R, s, m, args, below, meth, c, cells, slots, Q⟩ := K
  obtain ⟨hx, hb, hml, hret, hlk, hown, hts, hN, hK, hA, hZ, hdf, hdl, hcc, hcs⟩ := X
  intro H locs ls hP hD hS hl
  obtain ⟨kk, hkk⟩ := List.getElem?_of_mem ((lvp_mem (o0 :: o1 :: o2 :: o3 :: o4 :: o5 :: o6 :: some (.int x) :: lo) 0 7 (.int x)).mpr ⟨Nat.zero_le _, rfl⟩)
  exact lv_iinc hx hb hd hl hkk (by rw [hv]) hn rfl (fun ls' hl' => k H locs ls' hP hD hS (lvp_store hl' rfl hok))
theorem P_iload8 (X : Cx K own cc nL ret E A d) {o0 o1 o2 o3 o4 o5 o6 o7 : Option Value} {x : Int32} (q : Nat) (hd : decode cc pc = .ok (.iload 8, 2)) (hq : pc + 2 = q) (k : GW K nL E wd A q (o0 :: o1 :: o2 :: o3 :: o4 :: o5 :: o6 :: o7 :: some (.int x) :: lo) (.int x :: st) h) : GW K nL E wd A pc (o0 :: o1 :: o2 :: o3 :: o4 :: o5 :: o6 :: o7 :: some (.int x) :: lo) (st) h := by
  subst hq
  obtain ⟨p, l, e, R, s, m, args, below, meth, c, cells, slots, Q⟩ := K
  obtain ⟨hx, hb, hml, hret, hlk, hown, hts, hN, hK, hA, hZ, hdf, hdl, hcc, hcs⟩ := X
  exact fun H locs ls hP hD hS hl => lv_iload hx hb hd (lvp_at hl 8 rfl) (k H locs ls hP hD hS hl)
theorem P_aload8 (X : Cx K own cc nL ret E A d) {o0 o1 o2 o3 o4 o5 o6 o7 : Option Value} {x : Nat} (q : Nat) (hd : decode cc pc = .ok (.aload 8, 2)) (hq : pc + 2 = q) (k : GW K nL E wd A q (o0 :: o1 :: o2 :: o3 :: o4 :: o5 :: o6 :: o7 :: some (.ref x) :: lo) (.ref x :: st) h) : GW K nL E wd A pc (o0 :: o1 :: o2 :: o3 :: o4 :: o5 :: o6 :: o7 :: some (.ref x) :: lo) (st) h := by
  subst hq
  obtain ⟨p, l, e, R, s, m, args, below, meth, c, cells, slots, Q⟩ := K
  obtain ⟨hx, hb, hml, hret, hlk, hown, hts, hN, hK, hA, hZ, hdf, hdl, hcc, hcs⟩ := X
  exact fun H locs ls hP hD hS hl => lv_aload hx hb hd (lvp_at hl 8 rfl) (k H locs ls hP hD hS hl)
theorem P_istore8 (X : Cx K own cc nL ret E A d) {o0 o1 o2 o3 o4 o5 o6 o7 : Option Value} {ow : Option Value} {x : Int32} (q : Nat) (hd : decode cc pc = .ok (.istore 8, 2)) (hq : pc + 2 = q) (hn : 8 < nL) (hok : lvok (o0 :: o1 :: o2 :: o3 :: o4 :: o5 :: o6 :: o7 :: ow :: lo) 8 = true) (k : GW K nL E wd A q (o0 :: o1 :: o2 :: o3 :: o4 :: o5 :: o6 :: o7 :: some (.int x) :: lo) st h) : GW K nL E wd A pc (o0 :: o1 :: o2 :: o3 :: o4 :: o5 :: o6 :: o7 :: ow :: lo) (.int x :: st) h := by
  subst hq
  obtain ⟨p, l, e, R, s, m, args, below, meth, c, cells, slots, Q⟩ := K
  obtain ⟨hx, hb, hml, hret, hlk, hown, hts, hN, hK, hA, hZ, hdf, hdl, hcc, hcs⟩ := X
  exact fun H locs ls hP hD hS hl => lv_istore hx hb hd hl hn rfl (fun ls' hl' => k H locs ls' hP hD hS (lvp_store hl' rfl hok))
theorem P_astore8 (X : Cx K own cc nL ret E A d) {o0 o1 o2 o3 o4 o5 o6 o7 : Option Value} {ow : Option Value} {x : Nat} (q : Nat) (hd : decode cc pc = .ok (.astore 8, 2)) (hq : pc + 2 = q) (hn : 8 < nL) (hok : lvok (o0 :: o1 :: o2 :: o3 :: o4 :: o5 :: o6 :: o7 :: ow :: lo) 8 = true) (k : GW K nL E wd A q (o0 :: o1 :: o2 :: o3 :: o4 :: o5 :: o6 :: o7 :: some (.ref x) :: lo) st h) : GW K nL E wd A pc (o0 :: o1 :: o2 :: o3 :: o4 :: o5 :: o6 :: o7 :: ow :: lo) (.ref x :: st) h := by
  subst hq
  obtain ⟨p, l, e, R, s, m, args, below, meth, c, cells, slots, Q⟩ := K
  obtain ⟨hx, hb, hml, hret, hlk, hown, hts, hN, hK, hA, hZ, hdf, hdl, hcc, hcs⟩ := X
  exact fun H locs ls hP hD hS hl => lv_astore hx hb hd hl hn rfl (fun ls' hl' => k H locs ls' hP hD hS (lvp_store hl' rfl hok))
theorem P_iinc8 (X : Cx K own cc nL ret E A d) {o0 o1 o2 o3 o4 o5 o6 o7 : Option Value} {x : Int32} {n : Int} (v : Int32) (hv : Int32.ofInt n = v) (q : Nat) (hd : decode cc pc = .ok (.iinc 8 n, 3)) (hq : pc + 3 = q) (hn : 8 < nL) (hok : lvok (o0 :: o1 :: o2 :: o3 :: o4 :: o5 :: o6 :: o7 :: some (.int x) :: lo) 8 = true) (k : GW K nL E wd A q (o0 :: o1 :: o2 :: o3 :: o4 :: o5 :: o6 :: o7 :: some (.int (x + v)) :: lo) st h) : GW K nL E wd A pc (o0 :: o1 :: o2 :: o3 :: o4 :: o5 :: o6 :: o7 :: some (.int x) :: lo) st h := by
  subst hq
  obtain ⟨p, l, e, R, s, m, args, below, meth, c, cells, slots, Q⟩ := K
  obtain ⟨hx, hb, hml, hret, hlk, hown, hts, hN, hK, hA, hZ, hdf, hdl, hcc, hcs⟩ := X
  intro H locs ls hP hD hS hl
  obtain ⟨kk, hkk⟩ := List.getElem?_of_mem ((lvp_mem (o0 :: o1 :: o2 :: o3 :: o4 :: o5 :: o6 :: o7 :: some (.int x) :: lo) 0 8 (.int x)).mpr ⟨Nat.zero_le _, rfl⟩)
  exact lv_iinc hx hb hd hl hkk (by rw [hv]) hn rfl (fun ls' hl' => k H locs ls' hP hD hS (lvp_store hl' rfl hok))
theorem P_iload9 (X : Cx K own cc nL ret E A d) {o0 o1 o2 o3 o4 o5 o6 o7 o8 : Option Value} {x : Int32} (q : Nat) (hd : decode cc pc = .ok (.iload 9, 2)) (hq : pc + 2 = q) (k : GW K nL E wd A q (o0 :: o1 :: o2 :: o3 :: o4 :: o5 :: o6 :: o7 :: o8 :: some (.int x) :: lo) (.int x :: st) h) : GW K nL E wd A pc (o0 :: o1 :: o2 :: o3 :: o4 :: o5 :: o6 :: o7 :: o8 :: some (.int x) :: lo) (st) h := by
  subst hq
  obtain ⟨p, l, e, R, s, m, args, below, meth, c, cells, slots, Q⟩ := K
  obtain ⟨hx, hb, hml, hret, hlk, hown, hts, hN, hK, hA, hZ, hdf, hdl, hcc, hcs⟩ := X
  exact fun H locs ls hP hD hS hl => lv_iload hx hb hd (lvp_at hl 9 rfl) (k H locs ls hP hD hS hl)
theorem P_aload9 (X : Cx K own cc nL ret E A d) {o0 o1 o2 o3 o4 o5 o6 o7 o8 : Option Value} {x : Nat} (q : Nat) (hd : decode cc pc = .ok (.aload 9, 2)) (hq : pc + 2 = q) (k : GW K nL E wd A q (o0 :: o1 :: o2 :: o3 :: o4 :: o5 :: o6 :: o7 :: o8 :: some (.ref x) :: lo) (.ref x :: st) h) : GW K nL E wd A pc (o0 :: o1 :: o2 :: o3 :: o4 :: o5 :: o6 :: o7 :: o8 :: some (.ref x) :: lo) (st) h := by
  subst hq
  obtain ⟨p, l, e, R, s, m, args, below, meth, c, cells, slots, Q⟩ := K
  obtain ⟨hx, hb, hml, hret, hlk, hown, hts, hN, hK, hA, hZ, hdf, hdl, hcc, hcs⟩ := X
  exact fun H locs ls hP hD hS hl => lv_aload hx hb hd (lvp_at hl 9 rfl) (k H locs ls hP hD hS hl)
theorem P_istore9 (X : Cx K own cc nL ret E A d) {o0 o1 o2 o3 o4 o5 o6 o7 o8 : Option Value} {ow : Option Value} {x : Int32} (q : Nat) (hd : decode cc pc = .ok (.istore 9, 2)) (hq : pc + 2 = q) (hn : 9 < nL) (hok : lvok (o0 :: o1 :: o2 :: o3 :: o4 :: o5 :: o6 :: o7 :: o8 :: ow :: lo) 9 = true) (k : GW K nL E wd A q (o0 :: o1 :: o2 :: o3 :: o4 :: o5 :: o6 :: o7 :: o8 :: some (.int x) :: lo) st h) : GW K nL E wd A pc (o0 :: o1 :: o2 :: o3 :: o4 :: o5 :: o6 :: o7 :: o8 :: ow :: lo) (.int x :: st) h := by
  subst hq
  obtain ⟨p, l, e, R, s, m, args, below, meth, c, cells, slots, Q⟩ := K
  obtain ⟨hx, hb, hml, hret, hlk, hown, hts, hN, hK, hA, hZ, hdf, hdl, hcc, hcs⟩ := X
  exact fun H locs ls hP hD hS hl => lv_istore hx hb hd hl hn rfl (fun ls' hl' => k H locs ls' hP hD hS (lvp_store hl' rfl hok))
theorem P_astore9 (X : Cx K own cc nL ret E A d) {o0 o1 o2 o3 o4 o5 o6 o7 o8 : Option Value} {ow : Option Value} {x : Nat} (q : Nat) (hd : decode cc pc = .ok (.astore 9, 2)) (hq : pc + 2 = q) (hn : 9 < nL) (hok : lvok (o0 :: o1 :: o2 :: o3 :: o4 :: o5 :: o6 :: o7 :: o8 :: ow :: lo) 9 = true) (k : GW K nL E wd A q (o0 :: o1 :: o2 :: o3 :: o4 :: o5 :: o6 :: o7 :: o8 :: some (.ref x) :: lo) st h) : GW K nL E wd A pc (o0 :: o1 :: o2 :: o3 :: o4 :: o5 :: o6 :: o7 :: o8 :: ow :: lo) (.ref x :: st) h := by
  subst hq
  obtain ⟨p, l, e, R, s, m, args, below, meth, c, cells, slots, Q⟩ := K
  obtain ⟨hx, hb, hml, hret, hlk, hown, hts, hN, hK, hA, hZ, hdf, hdl, hcc, hcs⟩ := X
  exact fun H locs ls hP hD hS hl => lv_astore hx hb hd hl hn rfl (fun ls' hl' => k H locs ls' hP hD hS (lvp_store hl' rfl hok))
theorem P_iinc9 (X : Cx K own cc nL ret E A d) {o0 o1 o2 o3 o4 o5 o6 o7 o8 : Option Value} {x : Int32} {n : Int} (v : Int32) (hv : Int32.ofInt n = v) (q : Nat) (hd : decode cc pc = .ok (.iinc 9 n, 3)) (hq : pc + 3 = q) (hn : 9 < nL) (hok : lvok (o0 :: o1 :: o2 :: o3 :: o4 :: o5 :: o6 :: o7 :: o8 :: some (.int x) :: lo) 9 = true) (k : GW K nL E wd A q (o0 :: o1 :: o2 :: o3 :: o4 :: o5 :: o6 :: o7 :: o8 :: some (.int (x + v)) :: lo) st h) : GW K nL E wd A pc (o0 :: o1 :: o2 :: o3 :: o4 :: o5 :: o6 :: o7 :: o8 :: some (.int x) :: lo) st h := by
  subst hq
  obtain ⟨p, l, e, R, s, m, args, below, meth, c, cells, slots, Q⟩ := K
  obtain ⟨hx, hb, hml, hret, hlk, hown, hts, hN, hK, hA, hZ, hdf, hdl, hcc, hcs⟩ := X
  intro H locs ls hP hD hS hl
  obtain ⟨kk, hkk⟩ := List.getElem?_of_mem ((lvp_mem (o0 :: o1 :: o2 :: o3 :: o4 :: o5 :: o6 :: o7 :: o8 :: some (.int x) :: lo) 0 9 (.int x)).mpr ⟨Nat.zero_le _, rfl⟩)
  exact lv_iinc hx hb hd hl hkk (by rw [hv]) hn rfl (fun ls' hl' => k H locs ls' hP hD hS (lvp_store hl' rfl hok))
theorem P_iload10 (X : Cx K own cc nL ret E A d) {o0 o1 o2 o3 o4 o5 o6 o7 o8 o9 : Option Value} {x : Int32} (q : Nat) (hd : decode cc pc = .ok (.iload 10, 2)) (hq : pc + 2 = q) (k : GW K nL E wd A q (o0 :: o1 :: o2 :: o3 :: o4 :: o5 :: o6 :: o7 :: o8 :: o9 :: some (.int x) :: lo) (.int x :: st) h) : GW K nL E wd A pc (o0 :: o1 :: o2 :: o3 :: o4 :: o5 :: o6 :: o7 :: o8 :: o9 :: some (.int x) :: lo) (st) h := by
  subst hq
  obtain ⟨p, l, e, R, s, m, args, below, meth, c, cells, slots, Q⟩ := K
  obtain ⟨hx, hb, hml, hret, hlk, hown, hts, hN, hK, hA, hZ, hdf, hdl, hcc, hcs⟩ := X
  exact fun H locs ls hP hD hS hl => lv_iload hx hb hd (lvp_at hl 10 rfl) (k H locs ls hP hD hS hl)
theorem P_aload10 (X : Cx K own cc nL ret E A d) {o0 o1 o2 o3 o4 o5 o6 o7 o8 o9 : Option Value} {x : Nat} (q : Nat) (hd : decode cc pc = .ok (.aload 10, 2)) (hq : pc + 2 = q) (k : GW K nL E wd A q (o0 :: o1 :: o2 :: o3 :: o4 :: o5 :: o6 :: o7 :: o8 :: o9 :: some (.ref x) :: lo) (.ref x :: st) h) : GW K nL E wd A pc (o0 :: o1 :: o2 :: o3 :: o4 :: o5 :: o6 :: o7 :: o8 :: o9 :: some (.ref x) :: lo) (st) h := by
  subst hq
  obtain ⟨p, l, e, R, s, m, args, below, meth, c, cells, slots, Q⟩ := K
  obtain ⟨hx, hb, hml, hret, hlk, hown, hts, hN, hK, hA, hZ, hdf, hdl, hcc, hcs⟩ := X
  exact fun H locs ls hP hD hS hl => lv_aload hx hb hd (lvp_at hl 10 rfl) (k H locs ls hP hD hS hl)
theorem P_istore10 (X : Cx K own cc nL ret E A d) {o0 o1 o2 o3 o4 o5 o6 o7 o8 o9 : Option Value} {ow : Option Value} {x : Int32} (q : Nat) (hd : decode cc pc = .ok (.istore 10, 2)) (hq : pc + 2 = q) (hn : 10 < nL) (hok : lvok (o0 :: o1 :: o2 :: o3 :: o4 :: o5 :: o6 :: o7 :: o8 :: o9 :: ow :: lo) 10 = true) (k : GW K nL E wd A q (o0 :: o1 :: o2 :: o3 :: o4 :: o5 :: o6 :: o7 :: o8 :: o9 :: some (.int x) :: lo) st h) : GW K nL E wd A pc (o0 :: o1 :: o2 :: o3 :: o4 :: o5 :: o6 :: o7 :: o8 :: o9 :: ow :: lo) (.int x :: st) h := by
  subst hq
  obtain ⟨p, l, e, R, s, m, args, below, meth, c, cells, slots, Q⟩ := K
  obtain ⟨hx, hb, hml, hret, hlk, hown, hts, hN, hK, hA, hZ, hdf, hdl, hcc, hcs⟩ := X
  exact fun H locs ls hP hD hS hl => lv_istore hx hb hd hl hn rfl (fun ls' hl' => k H locs ls' hP hD hS (lvp_store hl' rfl hok))
theorem P_astore10 (X : Cx K own cc nL ret E A d) {o0 o1 o2 o3 o4 o5 o6 o7 o8 o9 : Option Value} {ow : Option Value} {x : Nat} (q : Nat) (hd : decode cc pc = .ok (.astore 10, 2)) (hq : pc + 2 = q) (hn : 10 < nL) (hok : lvok (o0 :: o1 :: o2 :: o3 :: o4 :: o5 :: o6 :: o7 :: o8 :: o9 :: ow :: lo) 10 = true) (k : GW K nL E wd A q (o0 :: o1 :: o2 :: o3 :: o4 :: o5 :: o6 :: o7 :: o8 :: o9 :: some (.ref x) :: lo) st h) : GW K nL E wd A pc (o0 :: o1 :: o2 :: o3 :: o4 :: o5 :: o6 :: o7 :: o8 :: o9 :: ow :: lo) (.ref x :: st) h := by
  subst hq
  obtain ⟨p, l, e, R, s, m, args, below, meth, c, cells, slots, Q⟩ := K
  obtain ⟨hx, hb, hml, hret, hlk, hown, hts, hN, hK, hA, hZ, hdf, hdl, hcc, hcs⟩ := X
  exact fun H locs ls hP hD hS hl => lv_astore hx hb hd hl hn rfl (fun ls' hl' => k H locs ls' hP hD hS (lvp_store hl' rfl hok))
theorem P_iinc10 (X : Cx K own cc nL ret E A d) {o0 o1 o2 o3 o4 o5 o6 o7 o8 o9 : Option Value} {x : Int32} {n : Int} (v : Int32) (hv : Int32.ofInt n = v) (q : Nat) (hd : decode cc pc = .ok (.iinc 10 n, 3)) (hq : pc + 3 = q) (hn : 10 < nL) (hok : lvok (o0 :: o1 :: o2 :: o3 :: o4 :: o5 :: o6 :: o7 :: o8 :: o9 :: some (.int x) :: lo) 10 = true) (k : GW K nL E wd A q (o0 :: o1 :: o2 :: o3 :: o4 :: o5 :: o6 :: o7 :: o8 :: o9 :: some (.int (x + v)) :: lo) st h) : GW K nL E wd A pc (o0 :: o1 :: o2 :: o3 :: o4 :: o5 :: o6 :: o7 :: o8 :: o9 :: some (.int x) :: lo) st h := by
  subst hq
  obtain ⟨p, l, e, R, s, m, args, below, meth, c, cells, slots, Q⟩ := K
  obtain ⟨hx, hb, hml, hret, hlk, hown, hts, hN, hK, hA, hZ, hdf, hdl, hcc, hcs⟩ := X
  intro H locs ls hP hD hS hl
  obtain ⟨kk, hkk⟩ := List.getElem?_of_mem ((lvp_mem (o0 :: o1 :: o2 :: o3 :: o4 :: o5 :: o6 :: o7 :: o8 :: o9 :: some (.int x) :: lo) 0 10 (.int x)).mpr ⟨Nat.zero_le _, rfl⟩)
  exact lv_iinc hx hb hd hl hkk (by rw [hv]) hn rfl (fun ls' hl' => k H locs ls' hP hD hS (lvp_store hl' rfl hok))
theorem P_iload11 (X : Cx K own cc nL ret E A d) {o0 o1 o2 o3 o4 o5 o6 o7 o8 o9 o10 : Option Value} {x : Int32} (q : Nat) (hd : decode cc pc = .ok (.iload 11, 2)) (hq : pc + 2 = q) (k : GW K nL E wd A q (o0 :: o1 :: o2 :: o3 :: o4 :: o5 :: o6 :: o7 :: o8 :: o9 :: o10 :: some (.int x) :: lo) (.int x :: st) h) : GW K nL E wd A pc (o0 :: o1 :: o2 :: o3 :: o4 :: o5 :: o6 :: o7 :: o8 :: o9 :: o10 :: some (.int x) :: lo) (st) h := by
  subst hq
  obtain ⟨p, l, e, R, s, m, args, below, meth, c, cells, slots, Q⟩ := K
  obtain ⟨hx, hb, hml, hret, hlk, hown, hts, hN, hK, hA, hZ, hdf, hdl, hcc, hcs⟩ := X
  exact fun H locs ls hP hD hS hl => lv_iload hx hb hd (lvp_at hl 11 rfl) (k H locs ls hP hD hS hl)
theorem P_aload11 (X : Cx K own cc nL ret E A d) {o0 o1 o2 o3 o4 o5 o6 o7 o8 o9 o10 : Option Value} {x : Nat} (q : Nat) (hd : decode cc pc = .ok (.aload 11, 2)) (hq : pc + 2 = q) (k : GW K nL E wd A q (o0 :: o1 :: o2 :: o3 :: o4 :: o5 :: o6 :: o7 :: o8 :: o9 :: o10 :: some (.ref x) :: lo) (.ref x :: st) h) : GW K nL E wd A pc (o0 :: o1 :: o2 :: o3 :: o4 :: o5 :: o6 :: o7 :: o8 :: o9 :: o10 :: some (.ref x) :: lo) (st) h := by
  subst hq
  obtain ⟨p, l, e, R, s, m, args, below, meth, c, cells, slots, Q⟩ := K
  obtain ⟨hx, hb, hml, hret, hlk, hown, hts, hN, hK, hA, hZ, hdf, hdl, hcc, hcs⟩ := X
  exact fun H locs ls hP hD hS hl => lv_aload hx hb hd (lvp_at hl 11 rfl) (k H locs ls hP hD hS hl)
theorem P_istore11 (X : Cx K own cc nL ret E A d) {o0 o1 o2 o3 o4 o5 o6 o7 o8 o9 o10 : Option Value} {ow : Option Value} {x : Int32} (q : Nat) (hd : decode cc pc = .ok (.istore 11, 2)) (hq : pc + 2 = q) (hn : 11 < nL) (hok : lvok (o0 :: o1 :: o2 :: o3 :: o4 :: o5 :: o6 :: o7 :: o8 :: o9 :: o10 :: ow :: lo) 11 = true) (k : GW K nL E wd A q (o0 :: o1 :: o2 :: o3 :: o4 :: o5 :: o6 :: o7 :: o8 :: o9 :: o10 :: some (.int x) :: lo) st h) : GW K nL E wd A pc (o0 :: o1 :: o2 :: o3 :: o4 :: o5 :: o6 :: o7 :: o8 :: o9 :: o10 :: ow :: lo) (.int x :: st) h := by
  subst hq
  obtain ⟨p, l, e, R, s, m, args, below, meth, c, cells, slots, Q⟩ := K
  obtain ⟨hx, hb, hml, hret, hlk, hown, hts, hN, hK, hA, hZ, hdf, hdl, hcc, hcs⟩ := X
  exact fun H locs ls hP hD hS hl => lv_istore hx hb hd hl hn rfl (fun ls' hl' => k H locs ls' hP hD hS (lvp_store hl' rfl hok))
theorem P_astore11 (X : Cx K own cc nL ret E A d) {o0 o1 o2 o3 o4 o5 o6 o7 o8 o9 o10 : Option Value} {ow : Option Value} {x : Nat} (q : Nat) (hd : decode cc pc = .ok (.astore 11, 2)) (hq : pc + 2 = q) (hn : 11 < nL) (hok : lvok (o0 :: o1 :: o2 :: o3 :: o4 :: o5 :: o6 :: o7 :: o8 :: o9 :: o10 :: ow :: lo) 11 = true) (k : GW K nL E wd A q (o0 :: o1 :: o2 :: o3 :: o4 :: o5 :: o6 :: o7 :: o8 :: o9 :: o10 :: some (.ref x) :: lo) st h) : GW K nL E wd A pc (o0 :: o1 :: o2 :: o3 :: o4 :: o5 :: o6 :: o7 :: o8 :: o9 :: o10 :: ow :: lo) (.ref x :: st) h := by
  subst hq
  obtain ⟨p, l, e, R, s, m, args, below, meth, c, cells, slots, Q⟩ := K
  obtain ⟨hx, hb, hml, hret, hlk, hown, hts, hN, hK, hA, hZ, hdf, hdl, hcc, hcs⟩ := X
  exact fun H locs ls hP hD hS hl => lv_astore hx hb hd hl hn rfl (fun ls' hl' => k H locs ls' hP hD hS (lvp_store hl' rfl hok))
theorem P_iinc11 (X : Cx K own cc nL ret E A d) {o0 o1 o2 o3 o4 o5 o6 o7 o8 o9 o10 : Option Value} {x : Int32} {n : Int} (v : Int32) (hv : Int32.ofInt n = v) (q : Nat) (hd : decode cc pc = .ok (.iinc 11 n, 3)) (hq : pc + 3 = q) (hn : 11 < nL) (hok : lvok (o0 :: o1 :: o2 :: o3 :: o4 :: o5 :: o6 :: o7 :: o8 :: o9 :: o10 :: some (.int x) :: lo) 11 = true) (k : GW K nL E wd A q (o0 :: o1 :: o2 :: o3 :: o4 :: o5 :: o6 :: o7 :: o8 :: o9 :: o10 :: some (.int (x + v)) :: lo) st h) : GW K nL E wd A pc (o0 :: o1 :: o2 :: o3 :: o4 :: o5 :: o6 :: o7 :: o8 :: o9 :: o10 :: some (.int x) :: lo) st h := by
  subst hq
  obtain ⟨p, l, e, R, s, m, args, below, meth, c, cells, slots, Q⟩ := K
  obtain ⟨hx, hb, hml, hret, hlk, hown, hts, hN, hK, hA, hZ, hdf, hdl, hcc, hcs⟩ := X
  intro H locs ls hP hD hS hl
  obtain ⟨kk, hkk⟩ := List.getElem?_of_mem ((lvp_mem (o0 :: o1 :: o2 :: o3 :: o4 :: o5 :: o6 :: o7 :: o8 :: o9 :: o10 :: some (.int x) :: lo) 0 11 (.int x)).mpr ⟨Nat.zero_le _, rfl⟩)
  exact lv_iinc hx hb hd hl hkk (by rw [hv]) hn rfl (fun ls' hl' => k H locs ls' hP hD hS (lvp_store hl' rfl hok))
theorem P_iload12 (X : Cx K own cc nL ret E A d) {o0 o1 o2 o3 o4 o5 o6 o7 o8 o9 o10 o11 : Option Value} {x : Int32} (q : Nat) (hd : decode cc pc = .ok (.iload 12, 2)) (hq : pc + 2 = q) (k : GW K nL E wd A q (o0 :: o1 :: o2 :: o3 :: o4 :: o5 :: o6 :: o7 :: o8 :: o9 :: o10 :: o11 :: some (.int x) :: lo) (.int x :: st) h) : GW K nL E wd A pc (o0 :: o1 :: o2 :: o3 :: o4 :: o5 :: o6 :: o7 :: o8 :: o9 :: o10 :: o11 :: some (.int x) :: lo) (st) h := by
  subst hq
  obtain ⟨p, l, e, R, s, m, args, below, meth, c, cells, slots, Q⟩ := K
  obtain ⟨hx, hb, hml, hret, hlk, hown, hts, hN, hK, hA, hZ, hdf, hdl, hcc, hcs⟩ := X
  exact fun H locs ls hP hD hS hl => lv_iload hx hb hd (lvp_at hl 12 rfl) (k H locs ls hP hD hS hl)
theorem P_aload12 (X : Cx K own cc nL ret E A d) {o0 o1 o2 o3 o4 o5 o6 o7 o8 o9 o10 o11 : Option Value} {x : Nat} (q : Nat) (hd : decode cc pc = .ok (.aload 12, 2)) (hq : pc + 2 = q) (k : GW K nL E wd A q (o0 :: o1 :: o2 :: o3 :: o4 :: o5 :: o6 :: o7 :: o8 :: o9 :: o10 :: o11 :: some (.ref x) :: lo) (.ref x :: st) h) : GW K nL E wd A pc (o0 :: o1 :: o2 :: o3 :: o4 :: o5 :: o6 :: o7 :: o8 :: o9 :: o10 :: o11 :: some (.ref x) :: lo) (st) h := by
  subst hq
  obtain ⟨p, l, e, R, s, m, args, below, meth, c, cells, slots, Q⟩ := K
  obtain ⟨hx, hb, hml, hret, hlk, hown, hts, hN, hK, hA, hZ, hdf, hdl, hcc, hcs⟩ := X
  exact fun H locs ls hP hD hS hl => lv_aload hx hb hd (lvp_at hl 12 rfl) (k H locs ls hP hD hS hl)
theorem P_istore12 (X : Cx K own cc nL ret E A d) {o0 o1 o2 o3 o4 o5 o6 o7 o8 o9 o10 o11 : Option Value} {ow : Option Value} {x : Int32} (q : Nat) (hd : decode cc pc = .ok (.istore 12, 2)) (hq : pc + 2 = q) (hn : 12 < nL) (hok : lvok (o0 :: o1 :: o2 :: o3 :: o4 :: o5 :: o6 :: o7 :: o8 :: o9 :: o10 :: o11 :: ow :: lo) 12 = true) (k : GW K nL E wd A q (o0 :: o1 :: o2 :: o3 :: o4 :: o5 :: o6 :: o7 :: o8 :: o9 :: o10 :: o11 :: some (.int x) :: lo) st h) : GW K nL E wd A pc (o0 :: o1 :: o2 :: o3 :: o4 :: o5 :: o6 :: o7 :: o8 :: o9 :: o10 :: o11 :: ow :: lo) (.int x :: st) h := by
  subst hq
  obtain ⟨p, l, e, R, s, m, args, below, meth, c, cells, slots, Q⟩ := K
  obtain ⟨hx, hb, hml, hret, hlk, hown, hts, hN, hK, hA, hZ, hdf, hdl, hcc, hcs⟩ := X
  exact fun H locs ls hP hD hS hl => lv_istore hx hb hd hl hn rfl (fun ls' hl' => k H locs ls' hP hD hS (lvp_store hl' rfl hok))
theorem P_astore12 (X : Cx K own cc nL ret E A d) {o0 o1 o2 o3 o4 o5 o6 o7 o8 o9 o10 o11 : Option Value} {ow : Option Value} {x : Nat} (q : Nat) (hd : decode cc pc = .ok (.astore 12, 2)) (hq : pc + 2 = q) (hn : 12 < nL) (hok : lvok (o0 :: o1 :: o2 :: o3 :: o4 :: o5 :: o6 :: o7 :: o8 :: o9 :: o10 :: o11 :: ow :: lo) 12 = true) (k : GW K nL E wd A q (o0 :: o1 :: o2 :: o3 :: o4 :: o5 :: o6 :: o7 :: o8 :: o9 :: o10 :: o11 :: some (.ref x) :: lo) st h) : GW K nL E wd A pc (o0 :: o1 :: o2 :: o3 :: o4 :: o5 :: o6 :: o7 :: o8 :: o9 :: o10 :: o11 :: ow :: lo) (.ref x :: st) h := by
  subst hq
  obtain ⟨p, l, e, R, s, m, args, below, meth, c, cells, slots, Q⟩ := K
  obtain ⟨hx, hb, hml, hret, hlk, hown, hts, hN, hK, hA, hZ, hdf, hdl, hcc, hcs⟩ := X
  exact fun H locs ls hP hD hS hl => lv_astore hx hb hd hl hn rfl (fun ls' hl' => k H locs ls' hP hD hS (lvp_store hl' rfl hok))
theorem P_iinc12 (X : Cx K own cc nL ret E A d) {o0 o1 o2 o3 o4 o5 o6 o7 o8 o9 o10 o11 : Option Value} {x : Int32} {n : Int} (v : Int32) (hv : Int32.ofInt n = v) (q : Nat) (hd : decode cc pc = .ok (.iinc 12 n, 3)) (hq : pc + 3 = q) (hn : 12 < nL) (hok : lvok (o0 :: o1 :: o2 :: o3 :: o4 :: o5 :: o6 :: o7 :: o8 :: o9 :: o10 :: o11 :: some (.int x) :: lo) 12 = true) (k : GW K nL E wd A q (o0 :: o1 :: o2 :: o3 :: o4 :: o5 :: o6 :: o7 :: o8 :: o9 :: o10 :: o11 :: some (.int (x + v)) :: lo) st h) : GW K nL E wd A pc (o0 :: o1 :: o2 :: o3 :: o4 :: o5 :: o6 :: o7 :: o8 :: o9 :: o10 :: o11 :: some (.int x) :: lo) st h := by
  subst hq
  obtain ⟨p, l, e, R, s, m, args, below, meth, c, cells, slots, Q⟩ := K
  obtain ⟨hx, hb, hml, hret, hlk, hown, hts, hN, hK, hA, hZ, hdf, hdl, hcc, hcs⟩ := X
  intro H locs ls hP hD hS hl
  obtain ⟨kk, hkk⟩ := List.getElem?_of_mem ((lvp_mem (o0 :: o1 :: o2 :: o3 :: o4 :: o5 :: o6 :: o7 :: o8 :: o9 :: o10 :: o11 :: some (.int x) :: lo) 0 12 (.int x)).mpr ⟨Nat.zero_le _, rfl⟩)
  exact lv_iinc hx hb hd hl hkk (by rw [hv]) hn rfl (fun ls' hl' => k H locs ls' hP hD hS (lvp_store hl' rfl hok))
theorem P_iload13 (X : Cx K own cc nL ret E A d) {o0 o1 o2 o3 o4 o5 o6 o7 o8 o9 o10 o11 o12 : Option Value} {x : Int32} (q : Nat) (hd : decode cc pc = .ok (.iload 13, 2)) (hq : pc + 2 = q) (k : GW K nL E wd A q (o0 :: o1 :: o2 :: o3 :: o4 :: o5 :: o6 :: o7 :: o8 :: o9 :: o10 :: o11 :: o12 :: some (.int x) :: lo) (.int x :: st) h) : GW K nL E wd A pc (o0 :: o1 :: o2 :: o3 :: o4 :: o5 :: o6 :: o7 :: o8 :: o9 :: o10 :: o11 :: o12 :: some (.int x) :: lo) (st) h := by
  subst hq
  obtain ⟨p, l, e, R, s, m, args, below, meth, c, cells, slots, Q⟩ := K
  obtain ⟨hx, hb, hml, hret, hlk, hown, hts, hN, hK, hA, hZ, hdf, hdl, hcc, hcs⟩ := X
  exact fun H locs ls hP hD hS hl => lv_iload hx hb hd (lvp_at hl 13 rfl) (k H locs ls hP hD hS hl)
theorem P_aload13 (X : Cx K own cc nL ret E A d) {o0 o1 o2 o3 o4 o5 o6 o7 o8 o9 o10 o11 o12 : Option Value} {x : Nat} (q : Nat) (hd : decode cc pc = .ok (.aload 13, 2)) (hq : pc + 2 = q) (k : GW K nL E wd A q (o0 :: o1 :: o2 :: o3 :: o4 :: o5 :: o6 :: o7 :: o8 :: o9 :: o10 :: o11 :: o12 :: some (.ref x) :: lo) (.ref x :: st) h) : GW K nL E wd A pc (o0 :: o1 :: o2 :: o3 :: o4 :: o5 :: o6 :: o7 :: o8 :: o9 :: o10 :: o11 :: o12 :: some (.ref x) :: lo) (st) h := by
  subst hq
  obtain ⟨p, l, e, R, s, m, args, below, meth, c, cells, slots, Q⟩ := K
  obtain ⟨hx, hb, hml, hret, hlk, hown, hts, hN, hK, hA, hZ, hdf, hdl, hcc, hcs⟩ := X
  exact fun H locs ls hP hD hS hl => lv_aload hx hb hd (lvp_at hl 13 rfl) (k H locs ls hP hD hS hl)
theorem P_istore13 (X : Cx K own cc nL ret E A d) {o0 o1 o2 o3 o4 o5 o6 o7 o8 o9 o10 o11 o12 : Option Value} {ow : Option Value} {x : Int32} (q : Nat) (hd : decode cc pc = .ok (.istore 13, 2)) (hq : pc + 2 = q) (hn : 13 < nL) (hok : lvok (o0 :: o1 :: o2 :: o3 :: o4 :: o5 :: o6 :: o7 :: o8 :: o9 :: o10 :: o11 :: o12 :: ow :: lo) 13 = true) (k : GW K nL E wd A q (o0 :: o1 :: o2 :: o3 :: o4 :: o5 :: o6 :: o7 :: o8 :: o9 :: o10 :: o11 :: o12 :: some (.int x) :: lo) st h) : GW K nL E wd A pc (o0 :: o1 :: o2 :: o3 :: o4 :: o5 :: o6 :: o7 :: o8 :: o9 :: o10 :: o11 :: o12 :: ow :: lo) (.int x :: st) h := by
  subst hq
  obtain ⟨p, l, e, R, s, m, args, below, meth, c, cells, slots, Q⟩ := K
  obtain ⟨hx, hb, hml, hret, hlk, hown, hts, hN, hK, hA, hZ, hdf, hdl, hcc, hcs⟩ := X
  exact fun H locs ls hP hD hS hl => lv_istore hx hb hd hl hn rfl (fun ls' hl' => k H locs ls' hP hD hS (lvp_store hl' rfl hok))
theorem P_astore13 (X : Cx K own cc nL ret E A d) {o0 o1 o2 o3 o4 o5 o6 o7 o8 o9 o10 o11 o12 : Option Value} {ow : Option Value} {x : Nat} (q : Nat) (hd : decode cc pc = .ok (.astore 13, 2)) (hq : pc + 2 = q) (hn : 13 < nL) (hok : lvok (o0 :: o1 :: o2 :: o3 :: o4 :: o5 :: o6 :: o7 :: o8 :: o9 :: o10 :: o11 :: o12 :: ow :: lo) 13 = true) (k : GW K nL E wd A q (o0 :: o1 :: o2 :: o3 :: o4 :: o5 :: o6 :: o7 :: o8 :: o9 :: o10 :: o11 :: o12 :: some (.ref x) :: lo) st h) : GW K nL E wd A pc (o0 :: o1 :: o2 :: o3 :: o4 :: o5 :: o6 :: o7 :: o8 :: o9 :: o10 :: o11 :: o12 :: ow :: lo) (.ref x :: st) h := by
  subst hq
  obtain ⟨p, l, e, R, s, m, args, below, meth, c, cells, slots, Q⟩ := K
  obtain ⟨hx, hb, hml, hret, hlk, hown, hts, hN, hK, hA, hZ, hdf, hdl, hcc, hcs⟩ := X
  exact fun H locs ls hP hD hS hl => lv_astore hx hb hd hl hn rfl (fun ls' hl' => k H locs ls' hP hD hS (lvp_store hl' rfl hok))
theorem P_iinc13 (X : Cx K own cc nL ret E A d) {o0 o1 o2 o3 o4 o5 o6 o7 o8 o9 o10 o11 o12 : Option Value} {x : Int32} {n : Int} (v : Int32) (hv : Int32.ofInt n = v) (q : Nat) (hd : decode cc pc = .ok (.iinc 13 n, 3)) (hq : pc + 3 = q) (hn : 13 < nL) (hok : lvok (o0 :: o1 :: o2 :: o3 :: o4 :: o5 :: o6 :: o7 :: o8 :: o9 :: o10 :: o11 :: o12 :: some (.int x) :: lo) 13 = true) (k : GW K nL E wd A q (o0 :: o1 :: o2 :: o3 :: o4 :: o5 :: o6 :: o7 :: o8 :: o9 :: o10 :: o11 :: o12 :: some (.int (x + v)) :: lo) st h) : GW K nL E wd A pc (o0 :: o1 :: o2 :: o3 :: o4 :: o5 :: o6 :: o7 :: o8 :: o9 :: o10 :: o11 :: o12 :: some (.int x) :: lo) st h := by
  subst hq
  obtain ⟨p, l, e, R, s, m, args, below, meth, c, cells, slots, Q⟩ := K
  obtain ⟨hx, hb, hml, hret, hlk, hown, hts, hN, hK, hA, hZ, hdf, hdl, hcc, hcs⟩ := X
  intro H locs ls hP hD hS hl
  obtain ⟨kk, hkk⟩ := List.getElem?_of_mem ((lvp_mem (o0 :: o1 :: o2 :: o3 :: o4 :: o5 :: o6 :: o7 :: o8 :: o9 :: o10 :: o11 :: o12 :: some (.int x) :: lo) 0 13 (.int x)).mpr ⟨Nat.zero_le _, rfl⟩)
  exact lv_iinc hx hb hd hl hkk (by rw [hv]) hn rfl (fun ls' hl' => k H locs ls' hP hD hS (lvp_store hl' rfl hok))
theorem P_iload14 (X : Cx K own cc nL ret E A d) {o0 o1 o2 o3 o4 o5 o6 o7 o8 o9 o10 o11 o12 o13 : Option Value} {x : Int32} (q : Nat) (hd : decode cc pc = .ok (.iload 14, 2)) (hq : pc + 2 = q) (k : GW K nL E wd A q (o0 :: o1 :: o2 :: o3 :: o4 :: o5 :: o6 :: o7 :: o8 :: o9 :: o10 :: o11 :: o12 :: o13 :: some (.int x) :: lo) (.int x :: st) h) : GW K nL E wd A pc (o0 :: o1 :: o2 :: o3 :: o4 :: o5 :: o6 :: o7 :: o8 :: o9 :: o10 :: o11 :: o12 :: o13 :: some (.int x) :: lo) (st) h := by
  subst hq
  obtain ⟨p, l, e, R, s, m, args, below, meth, c, cells, slots, Q⟩ := K
  obtain ⟨hx, hb, hml, hret, hlk, hown, hts, hN, hK, hA, hZ, hdf, hdl, hcc, hcs⟩ := X
  exact fun H locs ls hP hD hS hl => lv_iload hx hb hd (lvp_at hl 14 rfl) (k H locs ls hP hD hS hl)
theorem P_aload14 (X : Cx K own cc nL ret E A d) {o0 o1 o2 o3 o4 o5 o6 o7 o8 o9 o10 o11 o12 o13 : Option Value} {x : Nat} (q : Nat) (hd : decode cc pc = .ok (.aload 14, 2)) (hq : pc + 2 = q) (k : GW K nL E wd A q (o0 :: o1 :: o2 :: o3 :: o4 :: o5 :: o6 :: o7 :: o8 :: o9 :: o10 :: o11 :: o12 :: o13 :: some (.ref x) :: lo) (.ref x :: st) h) : GW K nL E wd A pc (o0 :: o1 :: o2 :: o3 :: o4 :: o5 :: o6 :: o7 :: o8 :: o9 :: o10 :: o11 :: o12 :: o13 :: some (.ref x) :: lo) (st) h := by
  subst hq
  obtain ⟨p, l, e, R, s, m, args, below, meth, c, cells, slots, Q⟩ := K
  obtain ⟨hx, hb, hml, hret, hlk, hown, hts, hN, hK, hA, hZ, hdf, hdl, hcc, hcs⟩ := X
  exact fun H locs ls hP hD hS hl => lv_aload hx hb hd (lvp_at hl 14 rfl) (k H locs ls hP hD hS hl)
theorem P_istore14 (X : Cx K own cc nL ret E A d) {o0 o1 o2 o3 o4 o5 o6 o7 o8 o9 o10 o11 o12 o13 : Option Value} {ow : Option Value} {x : Int32} (q : Nat) (hd : decode cc pc = .ok (.istore 14, 2)) (hq : pc + 2 = q) (hn : 14 < nL) (hok : lvok (o0 :: o1 :: o2 :: o3 :: o4 :: o5 :: o6 :: o7 :: o8 :: o9 :: o10 :: o11 :: o12 :: o13 :: ow :: lo) 14 = true) (k : GW K nL E wd A q (o0 :: o1 :: o2 :: o3 :: o4 :: o5 :: o6 :: o7 :: o8 :: o9 :: o10 :: o11 :: o12 :: o13 :: some (.int x) :: lo) st h) : GW K nL E wd A pc (o0 :: o1 :: o2 :: o3 :: o4 :: o5 :: o6 :: o7 :: o8 :: o9 :: o10 :: o11 :: o12 :: o13 :: ow :: lo) (.int x :: st) h := by
  subst hq
  obtain ⟨p, l, e, R, s, m, args, below, meth, c, cells, slots, Q⟩ := K
  obtain ⟨hx, hb, hml, hret, hlk, hown, hts, hN, hK, hA, hZ, hdf, hdl, hcc, hcs⟩ := X
  exact fun H locs ls hP hD hS hl => lv_istore hx hb hd hl hn rfl (fun ls' hl' => k H locs ls' hP hD hS (lvp_store hl' rfl hok))
theorem P_astore14 (X : Cx K own cc nL ret E A d) {o0 o1 o2 o3 o4 o5 o6 o7 o8 o9 o10 o11 o12 o13 : Option Value} {ow : Option Value} {x : Nat} (q : Nat) (hd : decode cc pc = .ok (.astore 14, 2)) (hq : pc + 2 = q) (hn : 14 < nL) (hok : lvok (o0 :: o1 :: o2 :: o3 :: o4 :: o5 :: o6 :: o7 :: o8 :: o9 :: o10 :: o11 :: o12 :: o13 :: ow :: lo) 14 = true) (k : GW K nL E wd A q (o0 :: o1 :: o2 :: o3 :: o4 :: o5 :: o6 :: o7 :: o8 :: o9 :: o10 :: o11 :: o12 :: o13 :: some (.ref x) :: lo) st h) : GW K nL E wd A pc (o0 :: o1 :: o2 :: o3 :: o4 :: o5 :: o6 :: o7 :: o8 :: o9 :: o10 :: o11 :: o12 :: o13 :: ow :: lo) (.ref x :: st) h := by
  subst hq
  obtain ⟨p, l, e, R, s, m, args, below, meth, c, cells, slots, Q⟩ := K
  obtain ⟨hx, hb, hml, hret, hlk, hown, hts, hN, hK, hA, hZ, hdf, hdl, hcc, hcs⟩ := X
  exact fun H locs ls hP hD hS hl => lv_astore hx hb hd hl hn rfl (fun ls' hl' => k H locs ls' hP hD hS (lvp_store hl' rfl hok))
theorem P_iinc14 (X : Cx K own cc nL ret E A d) {o0 o1 o2 o3 o4 o5 o6 o7 o8 o9 o10 o11 o12 o13 : Option Value} {x : Int32} {n : Int} (v : Int32) (hv : Int32.ofInt n = v) (q : Nat) (hd : decode cc pc = .ok (.iinc 14 n, 3)) (hq : pc + 3 = q) (hn : 14 < nL) (hok : lvok (o0 :: o1 :: o2 :: o3 :: o4 :: o5 :: o6 :: o7 :: o8 :: o9 :: o10 :: o11 :: o12 :: o13 :: some (.int x) :: lo) 14 = true) (k : GW K nL E wd A q (o0 :: o1 :: o2 :: o3 :: o4 :: o5 :: o6 :: o7 :: o8 :: o9 :: o10 :: o11 :: o12 :: o13 :: some (.int (x + v)) :: lo) st h) : GW K nL E wd A pc (o0 :: o1 :: o2 :: o3 :: o4 :: o5 :: o6 :: o7 :: o8 :: o9 :: o10 :: o11 :: o12 :: o13 :: some (.int x) :: lo) st h := by
  subst hq
  obtain ⟨p, l, e, R, s, m, args, below, meth, c, cells, slots, Q⟩ := K
  obtain ⟨hx, hb, hml, hret, hlk, hown, hts, hN, hK, hA, hZ, hdf, hdl, hcc, hcs⟩ := X
  intro H locs ls hP hD hS hl
  obtain ⟨kk, hkk⟩ := List.getElem?_of_mem ((lvp_mem (o0 :: o1 :: o2 :: o3 :: o4 :: o5 :: o6 :: o7 :: o8 :: o9 :: o10 :: o11 :: o12 :: o13 :: some (.int x) :: lo) 0 14 (.int x)).mpr ⟨Nat.zero_le _, rfl⟩)
  exact lv_iinc hx hb hd hl hkk (by rw [hv]) hn rfl (fun ls' hl' => k H locs ls' hP hD hS (lvp_store hl' rfl hok))
theorem P_iload15 (X : Cx K own cc nL ret E A d) {o0 o1 o2 o3 o4 o5 o6 o7 o8 o9 o10 o11 o12 o13 o14 : Option Value} {x : Int32} (q : Nat) (hd : decode cc pc = .ok (.iload 15, 2)) (hq : pc + 2 = q) (k : GW K nL E wd A q (o0 :: o1 :: o2 :: o3 :: o4 :: o5 :: o6 :: o7 :: o8 :: o9 :: o10 :: o11 :: o12 :: o13 :: o14 :: some (.int x) :: lo) (.int x :: st) h) : GW K nL E wd A pc (o0 :: o1 :: o2 :: o3 :: o4 :: o5 :: o6 :: o7 :: o8 :: o9 :: o10 :: o11 :: o12 :: o13 :: o14 :: some (.int x) :: lo) (st) h := by
  subst hq
  obtain ⟨p, l, e, R, s, m, args, below, meth, c, cells, slots, Q⟩ := K
  obtain ⟨hx, hb, hml, hret, hlk, hown, hts, hN, hK, hA, hZ, hdf, hdl, hcc, hcs⟩ := X
  exact fun H locs ls hP hD hS hl => lv_iload hx hb hd (lvp_at hl 15 rfl) (k H locs ls hP hD hS hl)
theorem P_aload15 (X : Cx K own cc nL ret E A d) {o0 o1 o2 o3 o4 o5 o6 o7 o8 o9 o10 o11 o12 o13 o14 : Option Value} {x : Nat} (q : Nat) (hd : decode cc pc = .ok (.aload 15, 2)) (hq : pc + 2 = q) (k : GW K nL E wd A q (o0 :: o1 :: o2 :: o3 :: o4 :: o5 :: o6 :: o7 :: o8 :: o9 :: o10 :: o11 :: o12 :: o13 :: o14 :: some (.ref x) :: lo) (.ref x :: st) h) : GW K nL E wd A pc (o0 :: o1 :: o2 :: o3 :: o4 :: o5 :: o6 :: o7 :: o8 :: o9 :: o10 :: o11 :: o12 :: o13 :: o14 :: some (.ref x) :: lo) (st) h := by
  subst hq
  obtain ⟨p, l, e, R, s, m, args, below, meth, c, cells, slots, Q⟩ := K
  obtain ⟨hx, hb, hml, hret, hlk, hown, hts, hN, hK, hA, hZ, hdf, hdl, hcc, hcs⟩ := X
  exact fun H locs ls hP hD hS hl => lv_aload hx hb hd (lvp_at hl 15 rfl) (k H locs ls hP hD hS hl)
theorem P_istore15 (X : Cx K own cc nL ret E A d) {o0 o1 o2 o3 o4 o5 o6 o7 o8 o9 o10 o11 o12 o13 o14 : Option Value} {ow : Option Value} {x : Int32} (q : Nat) (hd : decode cc pc = .ok (.istore 15, 2)) (hq : pc + 2 = q) (hn : 15 < nL) (hok : lvok (o0 :: o1 :: o2 :: o3 :: o4 :: o5 :: o6 :: o7 :: o8 :: o9 :: o10 :: o11 :: o12 :: o13 :: o14 :: ow :: lo) 15 = true) (k : GW K nL E wd A q (o0 :: o1 :: o2 :: o3 :: o4 :: o5 :: o6 :: o7 :: o8 :: o9 :: o10 :: o11 :: o12 :: o13 :: o14 :: some (.int x) :: lo) st h) : GW K nL E wd A pc (o0 :: o1 :: o2 :: o3 :: o4 :: o5 :: o6 :: o7 :: o8 :: o9 :: o10 :: o11 :: o12 :: o13 :: o14 :: ow :: lo) (.int x :: st) h := by
  subst hq
  obtain ⟨p, l, e, R, s, m, args, below, meth, c, cells, slots, Q⟩ := K
  obtain ⟨hx, hb, hml, hret, hlk, hown, hts, hN, hK, hA, hZ, hdf, hdl, hcc, hcs⟩ := X
  exact fun H locs ls hP hD hS hl => lv_istore hx hb hd hl hn rfl (fun ls' hl' => k H locs ls' hP hD hS (lvp_store hl' rfl hok))
theorem P_astore15 (X : Cx K own cc nL ret E A d) {o0 o1 o2 o3 o4 o5 o6 o7 o8 o9 o10 o11 o12 o13 o14 : Option Value} {ow : Option Value} {x : Nat} (q : Nat) (hd : decode cc pc = .ok (.astore 15, 2)) (hq : pc + 2 = q) (hn : 15 < nL) (hok : lvok (o0 :: o1 :: o2 :: o3 :: o4 :: o5 :: o6 :: o7 :: o8 :: o9 :: o10 :: o11 :: o12 :: o13 :: o14 :: ow :: lo) 15 = true) (k : GW K nL E wd A q (o0 :: o1 :: o2 :: o3 :: o4 :: o5 :: o6 :: o7 :: o8 :: o9 :: o10 :: o11 :: o12 :: o13 :: o14 :: some (.ref x) :: lo) st h) : GW K nL E wd A pc (o0 :: o1 :: o2 :: o3 :: o4 :: o5 :: o6 :: o7 :: o8 :: o9 :: o10 :: o11 :: o12 :: o13 :: o14 :: ow :: lo) (.ref x :: st) h := by
  subst hq
  obtain ⟨p, l, e, R, s, m, args, below, meth, c, cells, slots, Q⟩ := K
  obtain ⟨hx, hb, hml, hret, hlk, hown, hts, hN, hK, hA, hZ, hdf, hdl, hcc, hcs⟩ := X
  exact fun H locs ls hP hD hS hl => lv_astore hx hb hd hl hn rfl (fun ls' hl' => k H locs ls' hP hD hS (lvp_store hl' rfl hok))
theorem P_iinc15 (X : Cx K own cc nL ret E A d) {o0 o1 o2 o3 o4 o5 o6 o7 o8 o9 o10 o11 o12 o13 o14 : Option Value} {x : Int32} {n : Int} (v : Int32) (hv : Int32.ofInt n = v) (q : Nat) (hd : decode cc pc = .ok (.iinc 15 n, 3)) (hq : pc + 3 = q) (hn : 15 < nL) (hok : lvok (o0 :: o1 :: o2 :: o3 :: o4 :: o5 :: o6 :: o7 :: o8 :: o9 :: o10 :: o11 :: o12 :: o13 :: o14 :: some (.int x) :: lo) 15 = true) (k : GW K nL E wd A q (o0 :: o1 :: o2 :: o3 :: o4 :: o5 :: o6 :: o7 :: o8 :: o9 :: o10 :: o11 :: o12 :: o13 :: o14 :: some (.int (x + v)) :: lo) st h) : GW K nL E wd A pc (o0 :: o1 :: o2 :: o3 :: o4 :: o5 :: o6 :: o7 :: o8 :: o9 :: o10 :: o11 :: o12 :: o13 :: o14 :: some (.int x) :: lo) st h := by
  subst hq
  obtain ⟨p, l, e, R, s, m, args, below, meth, c, cells, slots, Q⟩ := K
  obtain ⟨hx, hb, hml, hret, hlk, hown, hts, hN, hK, hA, hZ, hdf, hdl, hcc, hcs⟩ := X
  intro H locs ls hP hD hS hl
  obtain ⟨kk, hkk⟩ := List.getElem?_of_mem ((lvp_mem (o0 :: o1 :: o2 :: o3 :: o4 :: o5 :: o6 :: o7 :: o8 :: o9 :: o10 :: o11 :: o12 :: o13 :: o14 :: some (.int x) :: lo) 0 15 (.int x)).mpr ⟨Nat.zero_le _, rfl⟩)
  exact lv_iinc hx hb hd hl hkk (by rw [hv]) hn rfl (fun ls' hl' => k H locs ls' hP hD hS (lvp_store hl' rfl hok))
end PR
