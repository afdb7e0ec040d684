/-! fields, arrays, calls, ends -/
def bI (b : Bool) : Int32 := if b then 1 else 0
theorem bI_01 (b : Bool) : bI b = 0 ∨ bI b = 1 := by cases b <;> simp [bI]
theorem bI_0 {b : Bool} : bI b = 0 ↔ b = false := by cases b <;> simp [bI]
theorem bI_n0 {b : Bool} : ¬ bI b = 0 ↔ b = true := by cases b <;> simp [bI]
/-- a field: own's entry ix is slot i of class number ci -/
def FL (own : String) (ix ci i : Nat) : Prop := ∃ (C : String) (T : u_T) (N : Nat), vwCl[ci]? = some (C, T, N) ∧ i < N ∧ (∀ w ∈ u_ws C T N, w ∈ TB) ∧ (Cond.fieldLink own ix C (T i).2.1 (T i).2.2.1 ∈ TB ∨ ∃ host, Cond.fieldLinkNest own ix C (T i).2.1 (T i).2.2.1 host ∈ NWl) ∧ (T i).1 = C
/-- a field of an int that may be written -/
def FW (own : String) (ix ci i : Nat) : Prop := ∃ (C : String) (T : u_T) (N : Nat) (ty : Nat → FieldType), vwCl[ci]? = some (C, T, N) ∧ i < N ∧ (∀ w ∈ u_ws C T N, w ∈ TB) ∧ (Cond.fieldLink own ix C (T i).2.1 (T i).2.2.1 ∈ TB ∨ ∃ host, Cond.fieldLinkNest own ix C (T i).2.1 (T i).2.2.1 host ∈ NWl) ∧ (T i).1 = C ∧ (∀ k, k < N → parseFieldDescriptor (T k).2.2.1 = some (ty k)) ∧ (∀ a, a < N → ∀ b, b < N → a ≠ b → (T a).2.1 ≠ (T b).2.1) ∧ (T i).2.2.2 = false ∧ parseFieldDescriptor (T i).2.2.1 = some .int
def LK (own : String) (ix : Nat) (y : MethodName) : Prop := Cond.methodLink own ix y ∈ TB ∨ ∃ host, Cond.methodLinkNest own ix y host ∈ NWl
def MK (y : MethodName) (cc : ByteArray) (nL : Nat) (ret : Option FieldType) (n : Nat) : Prop := Cond.code y cc nL ret ∈ TB ∧ Cond.initialized y.cls ∈ TB ∧ (y.cls ≠ "java/lang/invoke/MethodHandle" ∧ y.cls ≠ "java/lang/invoke/VarHandle" ∧ (parseMethodDescriptor y.desc).map (fun d => d.parameters.length) = some n) ∧ nL ≤ 21
def MV (y : MethodName) (cc : ByteArray) (nL : Nat) (ret : Option FieldType) (n : Nat) : Prop := MK y cc nL ret n ∧ Cond.instanceMethod y ∈ TB ∧ Cond.selects y.cls y y ∈ TB
def MS (y : MethodName) (cc : ByteArray) (nL : Nat) (ret : Option FieldType) (n : Nat) : Prop := MK y cc nL ret n ∧ Cond.static y ∈ TB
section PR2
variable {K : Kx} {own : String} {cc : ByteArray} {nL : Nat} {ret : Option FieldType} {E : Ev} {wd : Wd} {A : Nat → Prop} {d : Nat} {pc : Nat} {lo : List (Option Value)} {st : List Value} {h : Hp}
theorem P_get (X : Cx K own cc nL ret E A d) {ix ci i k : Nat} {fs : List Value} {v : Value} (q : Nat) (hd : decode cc pc = .ok (.getfield ix, 3)) (hq : pc + 3 = q) (hF : FL own ix ci i) (hk : k < wd.1) (hc : wd.2.2 k (h k) = .inr (ci, fs)) (hv : fs[i]? = some v) (kk : GW K nL E wd A q lo (v :: st) h) : GW K nL E wd A pc lo (.ref (wd.2.1 k) :: st) h := by
  subst hq
  obtain ⟨p, l, e, R, s, m, args, below, meth, c, cells, slots, Q⟩ := K
  obtain ⟨hx, hb, hml, hret, hlk, hown, hts, hN, hK, hA, hZ, hdf, hdl, hcc, hcs⟩ := X
  obtain ⟨C, T, N, f1, f2, f3, f4, f5⟩ := hF
  intro H locs ls hP hD hS hl
  have he : (mkW wd h)[k]? = some (wd.2.1 k, .inr (ci, fs)) := by rw [mkW_at hk, hc]
  rcases f4 with f4 | ⟨host, f4⟩
  · exact va_get hx hb hts f3 hown hK hP k he f1 i f2 (hts _ f4) (fun x hx => by rw [f5] at hx; exact hx) hv hd (kk H locs ls hP hD hS hl)
  · exact va_getN hx hb hts f3 hown hK hP k he f1 i f2 (va_Nw.use rfl (hN _ f4)) (fun x hx => by rw [f5] at hx; exact hx) hv hd (kk H locs ls hP hD hS hl)
theorem P_put (X : Cx K own cc nL ret E A d) {ix ci i k : Nat} {fs : (Nat → Int32) → List Value} {x : Int32} (q : Nat) (hd : decode cc pc = .ok (.putfield ix, 3)) (hq : pc + 3 = q) (hF : FW own ix ci i) (hk : k < wd.1) (hc : ∀ f, wd.2.2 k f = .inr (ci, fs f)) (hs : ∀ f x, (fs f).set i (.int x) = fs (upd f i x)) (hlen : i < (fs (h k)).length) (kk : GW K nL E wd A q lo st (put h k i x)) : GW K nL E wd A pc lo (.int x :: .ref (wd.2.1 k) :: st) h := by
  subst hq
  obtain ⟨p, l, e, R, s, m, args, below, meth, c, cells, slots, Q⟩ := K
  obtain ⟨hx, hb, hml, hret, hlk, hown, hts, hN, hK, hA, hZ, hdf, hdl, hcc, hcs⟩ := X
  obtain ⟨C, T, N, ty, f1, f2, f3, f4, f5, f6, f7, f8, f9⟩ := hF
  intro H locs ls hP hD hS hl
  have he : (mkW wd h)[k]? = some (wd.2.1 k, .inr (ci, fs (h k))) := by rw [mkW_at hk, hc]
  have e2 : (mkW wd h).set k (wd.2.1 k, .inr (ci, (fs (h k)).set i (.int x))) = mkW wd (put h k i x) := by
    rw [hs, ← hc, mkW_set hk]; rfl
  rcases f4 with f4 | ⟨host, f4⟩
  · exact va_put hx hb hts f3 ty f6 f7 hown hK hP hD hS k he f1 i f2 (hts _ f4) (fun x hx => by rw [f5] at hx; exact hx) f8 f9 rfl rfl hlen hd (fun H1 locs1 h1 h2 h3 => kk H1 locs1 ls (by rw [e2] at h1; exact h1) (by rw [e2] at h2; exact h2) h3 hl)
  · exact va_putN hx hb hts f3 ty f6 f7 hown hK hP hD hS k he f1 i f2 (va_Nw.use rfl (hN _ f4)) (fun x hx => by rw [f5] at hx; exact hx) f8 f9 rfl rfl hlen hd (fun H1 locs1 h1 h2 h3 => kk H1 locs1 ls (by rw [e2] at h1; exact h1) (by rw [e2] at h2; exact h2) h3 hl)
theorem P_iald (X : Cx K own cc nL ret E A d) {k n j : Nat} {i : Int32} (q : Nat) (hd : decode cc pc = .ok (.iaload, 1)) (hq : pc + 1 = q) (hk : k < wd.1) (hc : ∀ f, wd.2.2 k f = .inl (E.2.1 0, n, .inl f)) (hn : n < 2 ^ 31) (hi : i = nI j) (hj : j < n) (kk : GW K nL E wd A q lo (.int (h k j) :: st) h) : GW K nL E wd A pc lo (.int i :: .ref (wd.2.1 k) :: st) h := by
  subst hq hi
  obtain ⟨p, l, e, R, s, m, args, below, meth, c, cells, slots, Q⟩ := K
  obtain ⟨hx, hb, hml, hret, hlk, hown, hts, hN, hK, hA, hZ, hdf, hdl, hcc, hcs⟩ := X
  intro H locs ls hP hD hS hl
  have he : (mkW wd h)[k]? = some (wd.2.1 k, .inl (E.2.1 0, n, .inl (h k))) := by rw [mkW_at hk, hc]
  refine va_iald hx hb hK hP k 0 he rfl (nI_in hj hn) hd ?_
  rw [nI_clamp (Nat.lt_trans hj hn)]
  exact kk H locs ls hP hD hS hl
theorem P_zald (X : Cx K own cc nL ret E A d) {k n j : Nat} {i : Int32} (q : Nat) (hd : decode cc pc = .ok (.baload, 1)) (hq : pc + 1 = q) (hk : k < wd.1) (hc : ∀ f, wd.2.2 k f = .inl (E.2.1 1, n, .inl f)) (hn : n < 2 ^ 31) (hi : i = nI j) (hj : j < n) (kk : GW K nL E wd A q lo (.int (h k j) :: st) h) : GW K nL E wd A pc lo (.int i :: .ref (wd.2.1 k) :: st) h := by
  subst hq hi
  obtain ⟨p, l, e, R, s, m, args, below, meth, c, cells, slots, Q⟩ := K
  obtain ⟨hx, hb, hml, hret, hlk, hown, hts, hN, hK, hA, hZ, hdf, hdl, hcc, hcs⟩ := X
  intro H locs ls hP hD hS hl
  have he : (mkW wd h)[k]? = some (wd.2.1 k, .inl (E.2.1 1, n, .inl (h k))) := by rw [mkW_at hk, hc]
  refine va_zald hx hb hK hP k 1 he rfl (nI_in hj hn) hd ?_
  rw [nI_clamp (Nat.lt_trans hj hn)]
  exact kk H locs ls hP hD hS hl
theorem P_iast (X : Cx K own cc nL ret E A d) {k n j : Nat} {i x : Int32} (q : Nat) (hd : decode cc pc = .ok (.iastore, 1)) (hq : pc + 1 = q) (hk : k < wd.1) (hc : ∀ f, wd.2.2 k f = .inl (E.2.1 0, n, .inl f)) (hn : n < 2 ^ 31) (hi : i = nI j) (hj : j < n) (kk : GW K nL E wd A q lo st (put h k j x)) : GW K nL E wd A pc lo (.int x :: .int i :: .ref (wd.2.1 k) :: st) h := by
  subst hq hi
  obtain ⟨p, l, e, R, s, m, args, below, meth, c, cells, slots, Q⟩ := K
  obtain ⟨hx, hb, hml, hret, hlk, hown, hts, hN, hK, hA, hZ, hdf, hdl, hcc, hcs⟩ := X
  intro H locs ls hP hD hS hl
  have he : (mkW wd h)[k]? = some (wd.2.1 k, .inl (E.2.1 0, n, .inl (h k))) := by rw [mkW_at hk, hc]
  have e2 : (mkW wd h).set k (wd.2.1 k, .inl (E.2.1 0, n, .inl (upd (h k) j x))) = mkW wd (put h k j x) := by
    rw [← hc, mkW_set hk]; rfl
  refine va_iast hx hb hK hP hD hS k 0 he rfl (nI_in hj hn) hd (fun H1 locs1 h1 h2 h3 => ?_)
  rw [nI_clamp (Nat.lt_trans hj hn), e2] at h1 h2
  exact kk H1 locs1 ls h1 h2 h3 hl
theorem P_zast (X : Cx K own cc nL ret E A d) {k n j : Nat} {i x : Int32} (q : Nat) (hd : decode cc pc = .ok (.bastore, 1)) (hq : pc + 1 = q) (hk : k < wd.1) (hc : ∀ f, wd.2.2 k f = .inl (E.2.1 1, n, .inl f)) (hn : n < 2 ^ 31) (hi : i = nI j) (hj : j < n) (h01 : x = 0 ∨ x = 1) (kk : GW K nL E wd A q lo st (put h k j x)) : GW K nL E wd A pc lo (.int x :: .int i :: .ref (wd.2.1 k) :: st) h := by
  subst hq hi
  obtain ⟨p, l, e, R, s, m, args, below, meth, c, cells, slots, Q⟩ := K
  obtain ⟨hx, hb, hml, hret, hlk, hown, hts, hN, hK, hA, hZ, hdf, hdl, hcc, hcs⟩ := X
  intro H locs ls hP hD hS hl
  have he : (mkW wd h)[k]? = some (wd.2.1 k, .inl (E.2.1 1, n, .inl (h k))) := by rw [mkW_at hk, hc]
  have e2 : (mkW wd h).set k (wd.2.1 k, .inl (E.2.1 1, n, .inl (upd (h k) j x))) = mkW wd (put h k j x) := by
    rw [← hc, mkW_set hk]; rfl
  refine va_zast hx hb hK hP hD hS k 1 he rfl (nI_in hj hn) hd (fun H1 locs1 h1 h2 h3 => ?_)
  have e3 : vp_nar .boolean x = x := by rcases h01 with rfl | rfl <;> decide +kernel
  rw [nI_clamp (Nat.lt_trans hj hn), e3, e2] at h1 h2
  exact kk H1 locs1 ls h1 h2 h3 hl
theorem P_aald (X : Cx K own cc nL ret E A d) {k n j : Nat} {i : Int32} {f : Nat → Option Nat} {a : Nat} (q : Nat) (hd : decode cc pc = .ok (.aaload, 1)) (hq : pc + 1 = q) (hk : k < wd.1) (hc : wd.2.2 k (h k) = .inl (E.2.1 2, n, .inr (.inr (.inr (.inr f))))) (hn : n < 2 ^ 31) (hi : i = nI j) (hj : j < n) (ha : f j = some a) (kk : GW K nL E wd A q lo (.ref a :: st) h) : GW K nL E wd A pc lo (.int i :: .ref (wd.2.1 k) :: st) h := by
  subst hq hi
  obtain ⟨p, l, e, R, s, m, args, below, meth, c, cells, slots, Q⟩ := K
  obtain ⟨hx, hb, hml, hret, hlk, hown, hts, hN, hK, hA, hZ, hdf, hdl, hcc, hcs⟩ := X
  intro H locs ls hP hD hS hl
  have he : (mkW wd h)[k]? = some (wd.2.1 k, .inl (E.2.1 2, n, .inr (.inr (.inr (.inr f))))) := by rw [mkW_at hk, hc]
  refine va_aldq hx hb hK hP k 2 he rfl (nI_in hj hn) hd ?_
  rw [nI_clamp (Nat.lt_trans hj hn), ha]
  exact kk H locs ls hP hD hS hl
/-- ABOVE -/
theorem P_above (X : Cx K own cc nL ret E A d) {ix : Nat} (q : Nat) (hd : decode cc pc = .ok (.getstatic ix, 3)) (hq : pc + 3 = q) (hF : Cond.fieldLink own ix "TownAsks" "ABOVE" "[I" ∈ TB ∨ ∃ host, Cond.fieldLinkNest own ix "TownAsks" "ABOVE" "[I" host ∈ NWl) (kk : GW K nL E wd A q lo (.ref E.2.2.2 :: st) h) : GW K nL E wd A pc lo st h := by
  subst hq
  obtain ⟨p, l, e, R, s, m, args, below, meth, c, cells, slots, Q⟩ := K
  obtain ⟨hx, hb, hml, hret, hlk, hown, hts, hN, hK, hA, hZ, hdf, hdl, hcc, hcs⟩ := X
  intro H locs ls hP hD hS hl
  rcases hF with f4 | ⟨host, f4⟩
  · exact va_gets hx hb hZ.1 hS hown (hts _ f4) (fun _ z => z) hd (kk H locs ls hP hD hS hl)
  · exact va_getsN hx hb hZ.1 hS hown (va_Nw.use rfl (hN _ f4)) (fun _ z => z) hd (kk H locs ls hP hD hS hl)
theorem P_aboveld (X : Cx K own cc nL ret E A d) {j : Nat} {i : Int32} (q : Nat) (hd : decode cc pc = .ok (.iaload, 1)) (hq : pc + 1 = q) (hi : i = nI j) (hj : j < 5) (kk : GW K nL E wd A q lo (.int (abv j) :: st) h) : GW K nL E wd A pc lo (.int i :: .ref E.2.2.2 :: st) h := by
  subst hq hi
  obtain ⟨p, l, e, R, s, m, args, below, meth, c, cells, slots, Q⟩ := K
  obtain ⟨hx, hb, hml, hret, hlk, hown, hts, hN, hK, hA, hZ, hdf, hdl, hcc, hcs⟩ := X
  intro H locs ls hP hD hS hl
  exact va_ti hx hb hZ.2 hS (nI_in hj (by decide)) (by rw [nI_clamp (by omega)]; rfl) hd (kk H locs ls hP hD hS hl)
theorem P_abs (X : Cx K own cc nL ret E A d) {ix : Nat} {x : Int32} (q : Nat) (hd : decode cc pc = .ok (.invokestatic ix, 3)) (hq : pc + 3 = q) (w1 : Cond.methodLink own ix Lib.Math.abs.name ∈ TB) (w2 : Cond.static Lib.Math.abs.name ∈ TB) (w3 : Cond.initialized "java/lang/Math" ∈ TB) (w4 : Cond.code Lib.Math.abs.name Lib.Math.abs.code 1 (some .int) ∈ TB) (h1 : 1 ≤ d) (hcat : (st.map fun v => v.category).sum ≤ 8) (kk : GW K nL E wd A q lo (.int (if 0 ≤ x then x else 0 - x) :: st) h) : GW K nL E wd A pc lo (.int x :: st) h := by
  subst hq
  obtain ⟨p, l, e, R, s, m, args, below, meth, c, cells, slots, Q⟩ := K
  obtain ⟨hx, hb, hml, hret, hlk, hown, hts, hN, hK, hA, hZ, hdf, hdl, hcc, hcs⟩ := X
  intro H locs ls hP hD hS hl
  exact va_mabs hx hb (by rw [hml]; exact hl.1.symm) hown (hts _ w1) (hts _ w2) (hts _ w3) (hts _ w4) (by omega) (by omega) hcc hcs hd (kk H locs ls hP hD hS hl)
theorem P_iret (X : Cx K own cc nL (some .int) E A d) {post : Option Value → Hp → Prop} (hQ : KQ K E wd post A) {v : Int32} (hd : decode cc pc = .ok (.ireturn, 1)) (hp : post (some (.int v)) h) : GW K nL E wd A pc lo [.int v] h := by
  obtain ⟨p, l, e, R, s, m, args, below, meth, c, cells, slots, Q⟩ := K
  obtain ⟨hx, hb, hml, hret, hlk, hown, hts, hN, hK, hA, hZ, hdf, hdl, hcc, hcs⟩ := X
  cases hQ
  intro H locs ls hP hD hS hl
  exact W.iret hx hb hret (fun t ht hW => ⟨⟨some (.int v), h, rfl, hp, by rw [ht]; exact hP, va_K.moved hW.alike hK, hD⟩, hS.F ht⟩) hS.2.2 hd hlk
theorem P_zret (X : Cx K own cc nL (some .boolean) E A d) {post : Option Value → Hp → Prop} (hQ : KQ K E wd post A) {v : Int32} (hd : decode cc pc = .ok (.ireturn, 1)) (h01 : v = 0 ∨ v = 1) (hp : post (some (.int v)) h) : GW K nL E wd A pc lo [.int v] h := by
  obtain ⟨p, l, e, R, s, m, args, below, meth, c, cells, slots, Q⟩ := K
  obtain ⟨hx, hb, hml, hret, hlk, hown, hts, hN, hK, hA, hZ, hdf, hdl, hcc, hcs⟩ := X
  cases hQ
  intro H locs ls hP hD hS hl
  exact W.zret hx hb hret (by rcases h01 with rfl | rfl <;> decide +kernel) (fun t ht hW => ⟨⟨some (.int v), h, rfl, hp, by rw [ht]; exact hP, va_K.moved hW.alike hK, hD⟩, hS.F ht⟩) hS.2.2 hd hlk
theorem P_ret (X : Cx K own cc nL none E A d) {post : Option Value → Hp → Prop} (hQ : KQ K E wd post A) (hd : decode cc pc = .ok (.return_, 1)) (hp : post none h) : GW K nL E wd A pc lo [] h := by
  obtain ⟨p, l, e, R, s, m, args, below, meth, c, cells, slots, Q⟩ := K
  obtain ⟨hx, hb, hml, hret, hlk, hown, hts, hN, hK, hA, hZ, hdf, hdl, hcc, hcs⟩ := X
  cases hQ
  intro H locs ls hP hD hS hl
  exact W.vret hx hb hret (fun t ht hW => ⟨⟨none, h, rfl, hp, by rw [ht]; exact hP, va_K.moved hW.alike hK, hD⟩, hS.F ht⟩) hS.2.2 hd hlk
theorem P_lookup (X : Cx K own cc nL ret E A d) {dflt : Int} {ps : Array (Int × Int)} {len : Nat} {x : Int32} {off : Int} (q : Nat) (hd : decode cc pc = .ok (.lookupswitch dflt ps, len)) (hp : (ps.toList.zip (ps.toList.drop 1)).all (fun (a, next) => a.1 < next.1) = true) (ho : Op.lookupswitch.offset ps.toList dflt x.toInt = off) (hq : (pc : Int) + off = (q : Int)) (k : GW K nL E wd A q lo st h) : GW K nL E wd A pc lo (.int x :: st) h := by
  obtain ⟨p, l, e, R, s, m, args, below, meth, c, cells, slots, Q⟩ := K
  obtain ⟨hx, hb, hml, hret, hlk, hown, hts, hN, hK, hA, hZ, hdf, hdl, hcc, hcs⟩ := X
  exact fun H locs ls hP hD hS hl => lv_lookup hx hb hd hp ho hq (k H locs ls hP hD hS hl)
theorem P_tblOut (X : Cx K own cc nL ret E A d) {dflt lw hi : Int} {offs : Array Int} {len : Nat} {x : Int32} (q : Nat) (hd : decode cc pc = .ok (.tableswitch dflt lw hi offs, len)) (hz : x.toInt < lw ∨ hi < x.toInt) (hq : (pc : Int) + dflt = (q : Int)) (k : GW K nL E wd A q lo st h) : GW K nL E wd A pc lo (.int x :: st) h := by
  obtain ⟨p, l, e, R, s, m, args, below, meth, c, cells, slots, Q⟩ := K
  obtain ⟨hx, hb, hml, hret, hlk, hown, hts, hN, hK, hA, hZ, hdf, hdl, hcc, hcs⟩ := X
  exact fun H locs ls hP hD hS hl => lv_tableOut hx hb hd hz hq (k H locs ls hP hD hS hl)
theorem P_tblIn (X : Cx K own cc nL ret E A d) {dflt lw hi : Int} {offs : Array Int} {len : Nat} {x : Int32} {off : Int} (q : Nat) (hd : decode cc pc = .ok (.tableswitch dflt lw hi offs, len)) (h1 : ¬ x.toInt < lw) (h2 : ¬ hi < x.toInt) (ho : offs[(x.toInt - lw).toNat]? = some off) (hq : (pc : Int) + off = (q : Int)) (k : GW K nL E wd A q lo st h) : GW K nL E wd A pc lo (.int x :: st) h := by
  obtain ⟨p, l, e, R, s, m, args, below, meth, c, cells, slots, Q⟩ := K
  obtain ⟨hx, hb, hml, hret, hlk, hown, hts, hN, hK, hA, hZ, hdf, hdl, hcc, hcs⟩ := X
  exact fun H locs ls hP hD hS hl => lv_tableIn hx hb hd h1 h2 ho hq (k H locs ls hP hD hS hl)
theorem P_top {x y : Int32} (e : x = y) (k : GW K nL E wd A pc lo (.int y :: st) h) : GW K nL E wd A pc lo (.int x :: st) h := by rw [e]; exact k
theorem P_tn (x : Int32) (k : ∀ y, y = x → GW K nL E wd A pc lo (.int y :: st) h) : GW K nL E wd A pc lo (.int x :: st) h := k x rfl
/-- what a callee's start needs, out of the caller's -/
theorem PP_of {s U : State} {H : Heap} {locs : List Loc} {avs : List Value} (hN : NW s) (hK : va_K E.1 vwCl (tyE E) s) (hA : ∀ q, s.heap.size ≤ q → A q) (hZ : ZZ E A s s.heap) (hP : va_P E.1 vwCl (mkW wd h) H) (hD : va_D A (mkW wd h)) (hS : va_S A s.heap H locs) (hU : U.heap = H) (hW : s.WarmedH U.vm) : PP E wd avs h H.size avs.toArray U := by
  have hF : ∀ q, AW wd H.size q → A q := by
    intro q hq
    rcases hq with ⟨k, hk, rfl⟩ | hq
    · exact hD.2 k _ (mkW_at hk)
    · exact hA q (Nat.le_trans hS.1 hq)
  subst hU
  exact ⟨rfl, rfl, hP, va_K.moved hW.alike hK, mkW_D hD (fun _ _ => trivial), NW.warm hW hN, (va_Z.moved hW.alike (hZ.1.kept hS.2.1)).narrow hF, (va_T.moved hW.alike (hZ.2.kept hS.2.1)).narrow hF⟩
theorem P_run {p : Program} {l : Launch} {e : Env} {R : Room} {s : State} {m : MethodId} {args : Array Value} {below : List Frame} {meth : Method} {c : Code} {cells slots : Nat} {Q : State → Prop} {H : Heap} {locs : List Loc} {ls : Array Slot} {st0 : List Value} {post : Option Value → Hp → Prop} {a : Array Value}
    (hA : ∀ q, s.heap.size ≤ q → A q) (hD : va_D A (mkW wd h)) (hS : va_S A s.heap H locs) (hl : lv_has ls nL (lvp 0 lo))
    (run : va_Run p l e R s m args below meth c H locs cells slots 0 0 (F0 m pc ls st0) st (QP E wd post (AW wd H.size) a) (AW wd H.size))
    (kk : ∀ r h', post r h' → GW (p, l, e, R, s, m, args, below, meth, c, cells, slots, Q) nL E wd A (pc + 3) lo (r.toList ++ st) h') : W p l e R s m args below meth c H locs cells slots Q (F0 m pc ls st0) := by
  have hF : ∀ q, AW wd H.size q → A q := by
    intro q hq
    rcases hq with ⟨k, hk, rfl⟩ | hq
    · exact hD.2 k _ (mkW_at hk)
    · exact hA q (Nat.le_trans hS.1 hq)
  intro T hT XX
  obtain ⟨v, st₀, t, T', L, h0, X', hL, e1, e2, ⟨⟨r, h', hv, hp, hP1, hK1, hD1⟩, hz, hkk⟩, stp⟩ := run T hT XX
  cases hv
  rw [h0] at hz hkk
  obtain ⟨t2, a1, b1⟩ := kk v h' hp T'.heap (locs ++ L) ls (by rw [e1]; exact hP1) (mkW_D hD (fun k hk => hD.2 k _ (mkW_at hk)))
    ⟨Nat.le_trans hS.1 (by rw [e1]; exact hz), fun q h1 h2 => by rw [e1, hkk q (Nat.lt_of_lt_of_le h1 hS.1) (fun z => h2 (hF q z))]; exact hS.2.1 q h1 h2, fun q hq => by
      rcases List.mem_append.mp hq with h | h
      · exact hS.2.2 q h
      · exact hF _ (hL q h)⟩ hl T' rfl X'
  exact ⟨t2, stp t2 a1, b1⟩
theorem P_callV (X : Cx K own cc nL ret E A d) {y : MethodName} {cc' : ByteArray} {nL' n ix k ci N : Nat} {ret' : Option FieldType} {post : Option Value → Hp → Prop} {avs st0 fs : List Value} {T : u_T} (q : Nat) (hd : decode cc pc = .ok (.invokevirtual ix, 3)) (hq : pc + 3 = q) (hL : LK own ix y) (hV : MV y cc' nL' ret' n) (h1 : 1 ≤ d) (hM : Cl (d - 1) y cc' nL' ret' E wd (.ref (wd.2.1 k) :: avs) h post) (hst : st0 = avs.reverse ++ .ref (wd.2.1 k) :: st) (hn : avs.length = n) (hcat : (st.map fun v => v.category).sum ≤ 8) (hk : k < wd.1) (hc : wd.2.2 k (h k) = .inr (ci, fs)) (hcl : vwCl[ci]? = some (y.cls, T, N)) (kk : ∀ r h', post r h' → GW K nL E wd A q lo (r.toList ++ st) h') : GW K nL E wd A pc lo st0 h := by
  subst hq
  obtain ⟨p, l, e, R, s, m, args, below, meth, c, cells, slots, Q⟩ := K
  obtain ⟨hx, hb, hml, hret, hlk, hown, hts, hN, hK, hA, hZ, hdf, hdl, hcc, hcs⟩ := X
  obtain ⟨⟨m1, m2, m3, m4⟩, m5, m6⟩ := hV
  intro H locs ls hP hD hS hl
  have he : (mkW wd h)[k]? = some (wd.2.1 k, .inr (ci, fs)) := by rw [mkW_at hk, hc]
  have hR : (rmD (d - 1)).frames + 1 ≤ R.frames ∧ 8 + (nL' + 11) + (rmD (d - 1)).locals ≤ R.locals := ⟨by show d - 1 + 1 ≤ _; omega, by show 8 + (nL' + 11) + 40 * (d - 1) ≤ _; omega⟩
  have hp : PreV s H y.cls (wd.2.1 k) (PP E wd (.ref (wd.2.1 k) :: avs) h H.size) avs := ⟨PP_blind, va_recv hK hP hcl he, fun U hU hW => PP_of hN hK hA hZ hP hD hS hU hW⟩
  refine P_run (a := (Value.ref (wd.2.1 k) :: avs).toArray) hA hD hS hl ?_ kk
  rcases hL with hL | ⟨host, hL⟩
  · exact va_runV ⟨hx, hb, hml, hown, hts⟩ (hM l H.size) ⟨callB_of n hts (wsM_good0 m1) rfl rfl rfl (hts _ m2) (hts _ hL) m3 hR, hts _ m5, hts _ m6⟩ hp rfl hn hl.1 hst (lv_room hcat) hd ⟨hcc, hcs⟩
  · exact va_runVN ⟨hx, hb, hml, hown, hts⟩ (hM l H.size) ⟨va_cnB n hts (wsM_good0 m1) rfl rfl rfl (hN _ hL) (hts _ m2) m3 hR, hts _ m5, hts _ m6⟩ hp rfl hn hl.1 hst (lv_room hcat) hd ⟨hcc, hcs⟩
theorem P_callS (X : Cx K own cc nL ret E A d) {y : MethodName} {cc' : ByteArray} {nL' n ix : Nat} {ret' : Option FieldType} {post : Option Value → Hp → Prop} {avs st0 : List Value} (q : Nat) (hd : decode cc pc = .ok (.invokestatic ix, 3)) (hq : pc + 3 = q) (hL : LK own ix y) (hV : MS y cc' nL' ret' n) (h1 : 1 ≤ d) (hM : Cl (d - 1) y cc' nL' ret' E wd avs h post) (hst : st0 = avs.reverse ++ st) (hn : avs.length = n) (hcat : (st.map fun v => v.category).sum ≤ 8) (kk : ∀ r h', post r h' → GW K nL E wd A q lo (r.toList ++ st) h') : GW K nL E wd A pc lo st0 h := by
  subst hq
  obtain ⟨p, l, e, R, s, m, args, below, meth, c, cells, slots, Q⟩ := K
  obtain ⟨hx, hb, hml, hret, hlk, hown, hts, hN, hK, hA, hZ, hdf, hdl, hcc, hcs⟩ := X
  obtain ⟨⟨m1, m2, m3, m4⟩, m5⟩ := hV
  intro H locs ls hP hD hS hl
  have hR : (rmD (d - 1)).frames + 1 ≤ R.frames ∧ 8 + (nL' + 11) + (rmD (d - 1)).locals ≤ R.locals := ⟨by show d - 1 + 1 ≤ _; omega, by show 8 + (nL' + 11) + 40 * (d - 1) ≤ _; omega⟩
  have hp : PreS s H (PP E wd avs h H.size) avs := ⟨PP_blind, fun U hU hW => PP_of hN hK hA hZ hP hD hS hU hW⟩
  refine P_run (a := avs.toArray) hA hD hS hl ?_ kk
  rcases hL with hL | ⟨host, hL⟩
  · exact va_runS ⟨hx, hb, hml, hown, hts⟩ (hM l H.size) ⟨callB_of n hts (wsM_good0 m1) rfl rfl rfl (hts _ m2) (hts _ hL) m3 hR, hts _ m5⟩ hp rfl hn hl.1 hst (lv_room hcat) hd ⟨hcc, hcs⟩
  · exact va_runSN ⟨hx, hb, hml, hown, hts⟩ (hM l H.size) ⟨va_cnB n hts (wsM_good0 m1) rfl rfl rfl (hN _ hL) (hts _ m2) m3 hR, hts _ m5, trivial⟩ hp rfl hn hl.1 hst (lv_room hcat) hd ⟨hcc, hcs⟩
theorem P_cpy (X : Cx K own cc nL ret E A d) {ix k0 k1 n0 n1 js jd jn : Nat} {sp dp n : Int32} (q : Nat) (hd : decode cc pc = .ok (.invokestatic ix, 3)) (hq : pc + 3 = q) (w1 : Cond.methodLink own ix arraycopyName ∈ TB) (w2 : Cond.native arraycopyName ∈ TB) (w3 : Cond.static arraycopyName ∈ TB) (w4 : Cond.initialized "java/lang/System" ∈ TB) (h1 : 1 ≤ d) (hk0 : k0 < wd.1) (hk1 : k1 < wd.1) (hc0 : ∀ f, wd.2.2 k0 f = .inl (E.2.1 0, n0, .inl f)) (hc1 : ∀ f, wd.2.2 k1 f = .inl (E.2.1 0, n1, .inl f)) (hs : sp = nI js) (hdd : dp = nI jd) (hnn : n = nI jn) (b0 : js + jn ≤ n0) (b1 : jd + jn ≤ n1) (b2 : n0 < 2 ^ 31) (b3 : n1 < 2 ^ 31) (hcat : (st.map fun v => v.category).sum ≤ 8)
    (kk : GW K nL E wd A q lo st (up2 h k1 (va_cpy (h k0) (h k1) js jd jn))) : GW K nL E wd A pc lo (.int n :: .int dp :: .ref (wd.2.1 k1) :: .int sp :: .ref (wd.2.1 k0) :: st) h := by
  subst hq hs hdd hnn
  obtain ⟨p, l, e, R, s, m, args, below, meth, c, cells, slots, Q⟩ := K
  obtain ⟨hx, hb, hml, hret, hlk, hown, hts, hN, hK, hA, hZ, hdf, hdl, hcc, hcs⟩ := X
  intro H locs ls hP hD hS hl
  have he0 : (mkW wd h)[k0]? = some (wd.2.1 k0, .inl (E.2.1 0, n0, .inl (h k0))) := by rw [mkW_at hk0, hc0]
  have he1 : (mkW wd h)[k1]? = some (wd.2.1 k1, .inl (E.2.1 0, n1, .inl (h k1))) := by rw [mkW_at hk1, hc1]
  have e2 : (mkW wd h).set k1 (wd.2.1 k1, .inl (E.2.1 0, n1, .inl (va_cpy (h k0) (h k1) js jd jn))) = mkW wd (up2 h k1 (va_cpy (h k0) (h k1) js jd jn)) := by
    rw [← hc1, mkW_set hk1]
  have cs : (nI js).toNatClampNeg = js := nI_clamp (by omega)
  have cd : (nI jd).toNatClampNeg = jd := nI_clamp (by omega)
  have cn : (nI jn).toNatClampNeg = jn := nI_clamp (by omega)
  refine va_copyi hx hb (by rw [hml]; exact hl.1.symm) hown (hts _ w1) (hts _ w2) (hts _ w3) (hts _ w4) hK hP hD hS k0 k1 0 0 he0 he1 rfl rfl rfl (nI_pos (by omega)) (nI_pos (by omega)) (nI_pos (by omega)) (by rw [cs, cn]; exact b0) (by rw [cd, cn]; exact b1) (fun _ _ => rfl) (by omega) (by show _ + (7 + 11) ≤ _; omega) hd (fun H1 locs1 h1 h2 h3 => ?_)
  rw [cs, cd, cn, e2] at h1 h2
  exact kk H1 locs1 ls h1 h2 h3 hl
end PR2
