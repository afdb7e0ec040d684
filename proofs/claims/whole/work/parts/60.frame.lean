/-! both objects side by side: a contract over one of them holds beside the other -/
abbrev eY (E : Ev) (ay : Nat → Nat) : Ev := (E.1, E.2.1, ay, E.2.2.2)
def wdL (E : Ev) (ay : Nat → Nat) : Wd := (84, fun k => if k < 51 then E.2.2.1 k else ay (k - 51), fun k f => if k < 51 then cfX E k f else cfY (eY E ay) (k - 51) f)
def jn (h g : Hp) : Hp := fun k => if k < 51 then h k else g (k - 51)
theorem jn_X {h g : Hp} {k : Nat} (hk : k < 51) : jn h g k = h k := if_pos hk
theorem jn_Y {h g : Hp} {k : Nat} : jn h g (51 + k) = g k := by rw [jn, if_neg (by omega), Nat.add_sub_cancel_left]
theorem wL_X {E : Ev} {ay : Nat → Nat} {h g : Hp} {k : Nat} (hk : k < 51) : (mkW (wdL E ay) (jn h g))[k]? = some (E.2.2.1 k, cfX E k (h k)) := by
  rw [mkW_at (show k < (wdL E ay).1 by show k < 84; omega), jn_X hk]
  show some ((if k < 51 then E.2.2.1 k else ay (k - 51)), (if k < 51 then cfX E k (h k) else cfY (eY E ay) (k - 51) (h k))) = _
  rw [if_pos hk, if_pos hk]
theorem wL_Y {E : Ev} {ay : Nat → Nat} {h g : Hp} {k : Nat} (hk : k < 33) : (mkW (wdL E ay) (jn h g))[51 + k]? = some (ay k, cfY (eY E ay) k (g k)) := by
  rw [mkW_at (show 51 + k < (wdL E ay).1 by show 51 + k < 84; omega), jn_Y]
  show some ((if 51 + k < 51 then E.2.2.1 (51 + k) else ay (51 + k - 51)), (if 51 + k < 51 then cfX E (51 + k) (g k) else cfY (eY E ay) (51 + k - 51) (g k))) = _
  rw [if_neg (by omega), if_neg (by omega), Nat.add_sub_cancel_left]
theorem wL_inv {E : Ev} {ay : Nat → Nat} {h g : Hp} {k : Nat} {q : Nat × va_E} (hq : (mkW (wdL E ay) (jn h g))[k]? = some q) : (k < 51 ∧ q = (E.2.2.1 k, cfX E k (h k))) ∨ (∃ j9, j9 < 33 ∧ k = 51 + j9 ∧ q = (ay j9, cfY (eY E ay) j9 (g j9))) := by
  obtain ⟨hk, -⟩ := mkW_inv hq
  have hk : k < 84 := hk
  by_cases z : k < 51
  · rw [wL_X z] at hq
    exact Or.inl ⟨z, (Option.some.inj hq).symm⟩
  · obtain ⟨j9, rfl⟩ : ∃ j9, k = 51 + j9 := ⟨k - 51, by omega⟩
    rw [wL_Y (by omega)] at hq
    exact Or.inr ⟨j9, by omega, rfl, (Option.some.inj hq).symm⟩
theorem AW_X {E : Ev} {ay : Nat → Nat} {sz q : Nat} (h : AW (wdX E) sz q) : AW (wdL E ay) sz q := by
  rcases h with ⟨k, hk, e⟩ | h
  · have hk : k < 51 := hk
    refine Or.inl ⟨k, by show k < 84; omega, ?_⟩
    show q = if k < 51 then E.2.2.1 k else ay (k - 51)
    rw [if_pos hk]; exact e
  · exact Or.inr h
theorem AW_Y {E : Ev} {ay : Nat → Nat} {sz q : Nat} (h : AW (wdY (eY E ay)) sz q) : AW (wdL E ay) sz q := by
  rcases h with ⟨k, hk, e⟩ | h
  · have hk : k < 33 := hk
    refine Or.inl ⟨51 + k, by show 51 + k < 84; omega, ?_⟩
    show q = if 51 + k < 51 then E.2.2.1 (51 + k) else ay (51 + k - 51)
    rw [if_neg (by omega), Nat.add_sub_cancel_left]; exact e
  · exact Or.inr h
theorem ZZ_narrow {E : Ev} {A B : Nat → Prop} {U : State} {H : Heap} (h : ZZ E A U H) (hAB : ∀ q, B q → A q) : ZZ E B U H := ⟨h.1.narrow hAB, h.2.narrow hAB⟩
theorem wL_PX {E : Ev} {ay : Nat → Nat} {h g : Hp} {H : Heap} (hP : va_P E.1 vwCl (mkW (wdL E ay) (jn h g)) H) : va_P E.1 vwCl (mkW (wdX E) h) H := by
  intro k q hq
  obtain ⟨hk, rfl⟩ := mkW_inv hq
  exact hP k _ (wL_X hk)
theorem wL_PY {E : Ev} {ay : Nat → Nat} {h g : Hp} {H : Heap} (hP : va_P E.1 vwCl (mkW (wdL E ay) (jn h g)) H) : va_P E.1 vwCl (mkW (wdY (eY E ay)) g) H := by
  intro k q hq
  obtain ⟨hk, rfl⟩ := mkW_inv hq
  exact hP (51 + k) _ (wL_Y hk)
theorem wL_P {E : Ev} {ay : Nat → Nat} {h g : Hp} {H : Heap} (hX : va_P E.1 vwCl (mkW (wdX E) h) H) (hY : va_P E.1 vwCl (mkW (wdY (eY E ay)) g) H) : va_P E.1 vwCl (mkW (wdL E ay) (jn h g)) H := by
  intro k q hq
  rcases wL_inv hq with ⟨hk, rfl⟩ | ⟨j9, hj, rfl, rfl⟩
  · exact hX k _ (mkW_at (w := wdX E) hk)
  · exact hY j9 _ (mkW_at (w := wdY (eY E ay)) hj)
theorem wL_DX {E : Ev} {ay : Nat → Nat} {h g : Hp} {A : Nat → Prop} (hD : va_D A (mkW (wdL E ay) (jn h g))) : va_D A (mkW (wdX E) h) := by
  refine ⟨fun i j p q hp hq e => ?_, fun k q hq => ?_⟩
  · obtain ⟨hi, rfl⟩ := mkW_inv hp
    obtain ⟨hj, rfl⟩ := mkW_inv hq
    exact hD.1 i j _ _ (wL_X hi) (wL_X hj) e
  · obtain ⟨hk, rfl⟩ := mkW_inv hq
    exact hD.2 k _ (wL_X hk)
theorem wL_DY {E : Ev} {ay : Nat → Nat} {h g : Hp} {A : Nat → Prop} (hD : va_D A (mkW (wdL E ay) (jn h g))) : va_D A (mkW (wdY (eY E ay)) g) := by
  refine ⟨fun i j p q hp hq e => ?_, fun k q hq => ?_⟩
  · obtain ⟨hi, rfl⟩ := mkW_inv hp
    obtain ⟨hj, rfl⟩ := mkW_inv hq
    have := hD.1 (51 + i) (51 + j) _ _ (wL_Y hi) (wL_Y hj) e
    omega
  · obtain ⟨hk, rfl⟩ := mkW_inv hq
    exact hD.2 (51 + k) _ (wL_Y hk)
theorem wL_ne {E : Ev} {ay : Nat → Nat} {h g : Hp} {A : Nat → Prop} {i j : Nat} (hD : va_D A (mkW (wdL E ay) (jn h g))) (hi : i < 51) (hj : j < 33) : E.2.2.1 i ≠ ay j := fun e => by
  have := hD.1 i (51 + j) _ _ (wL_X hi) (wL_Y hj) e
  omega
theorem Cl_X {d : Nat} {y : MethodName} {cc : ByteArray} {nL : Nat} {ret : Option FieldType} {E : Ev} {ay : Nat → Nat} {avs : List Value} {h g : Hp} {post : Option Value → Hp → Prop} (hM : Cl d y cc nL ret E (wdX E) avs h post) : Cl d y cc nL ret E (wdL E ay) avs (jn h g) (fun r h' => ∃ h1, post r h1 ∧ h' = jn h1 g) := by
  intro l sz p e ha hc hk s m args below hf hfit hP hK
  obtain ⟨q0, q1, qP, qK, qD, qN, qZ⟩ := hP
  have hP' : PP E (wdX E) avs h sz args s := ⟨q0, q1, wL_PX qP, qK, wL_DX qD, qN, ZZ_narrow qZ (fun q hq => AW_X hq)⟩
  obtain ⟨n, oc, h1, h2, h3, ⟨⟨v, h', e1, e2, e3, e4, e5⟩, e6⟩, Lc, e7, e8⟩ := hM l sz p e ha hc hk s m args below hf hfit hP' hK
  refine ⟨n, oc, h1, h2, h3, ⟨⟨v, jn h' g, e1, ⟨h', e2, rfl⟩, wL_P e3 ((wL_PY qP).kept (fun k q hq => ?_)), e4, mkW_D qD (fun k hk => AW_in hk)⟩, e6.1, fun q z1 z2 => e6.2 q z1 (fun z => z2 (AW_X z))⟩, Lc, e7, fun q hq => AW_X (e8 q hq)⟩
  have hlt := (wL_PY qP k q hq).lt
  obtain ⟨hk', rfl⟩ := mkW_inv hq
  have hk' : k < 33 := hk'
  refine e6.2 _ hlt (fun z => ?_)
  rcases z with ⟨i, hi, e⟩ | z
  · exact wL_ne qD hi hk' e.symm
  · have : s.heap.size ≤ ay k := by rw [q1]; exact z
    have : ay k < s.heap.size := hlt
    omega
theorem Cl_Y {d : Nat} {y : MethodName} {cc : ByteArray} {nL : Nat} {ret : Option FieldType} {E : Ev} {ay : Nat → Nat} {avs : List Value} {h g : Hp} {post : Option Value → Hp → Prop} (hM : Cl d y cc nL ret (eY E ay) (wdY (eY E ay)) avs g post) : Cl d y cc nL ret E (wdL E ay) avs (jn h g) (fun r h' => ∃ g1, post r g1 ∧ h' = jn h g1) := by
  intro l sz p e ha hc hk s m args below hf hfit hP hK
  obtain ⟨q0, q1, qP, qK, qD, qN, qZ⟩ := hP
  have pY := wL_PY (E := E) (ay := ay) qP
  have dY := wL_DY (E := E) (ay := ay) qD
  have hP' : PP (eY E ay) (wdY (eY E ay)) avs g sz args s := ⟨q0, q1, pY, qK, dY, qN, ZZ_narrow (E := E) qZ (fun q hq => AW_Y hq)⟩
  obtain ⟨n, oc, h1, h2, h3, ⟨⟨v, g', e1, e2, e3, e4, e5⟩, e6⟩, Lc, e7, e8⟩ := hM l sz p e ha hc hk s m args below hf hfit hP' hK
  refine ⟨n, oc, h1, h2, h3, ⟨⟨v, jn h g', e1, ⟨g', e2, rfl⟩, wL_P ((wL_PX qP).kept (fun k q hq => ?_)) e3, e4, mkW_D qD (fun k hk => AW_in hk)⟩, e6.1, fun q z1 z2 => e6.2 q z1 (fun z => z2 (AW_Y z))⟩, Lc, e7, fun q hq => AW_Y (e8 q hq)⟩
  have hlt := (wL_PX qP k q hq).lt
  obtain ⟨hk', rfl⟩ := mkW_inv hq
  have hk' : k < 51 := hk'
  refine e6.2 _ hlt (fun z => ?_)
  rcases z with ⟨i, hi, e⟩ | z
  · exact wL_ne qD hk' hi e
  · have : s.heap.size ≤ E.2.2.1 k := by rw [q1]; exact z
    have : E.2.2.1 k < s.heap.size := hlt
    omega
/-- the law's own script -/
def SX (K : Kx) (A : Nat → Prop) (b L : Nat) (xs : Nat → Int32) : Prop :=
  match K with
  | (_, _, _, _, s, _, _, _, _, _, _, _, _) => va_X b L xs s s.heap ∧ b < s.heap.size ∧ ¬ A b
section PS
variable {K : Kx} {own : String} {cc : ByteArray} {nL : Nat} {ret : Option FieldType} {E : Ev} {wd : Wd} {A : Nat → Prop} {d : Nat} {pc : Nat} {lo : List (Option Value)} {st : List Value} {h : Hp}
theorem P_sld (X : Cx K own cc nL ret E A d) {b L : Nat} {xs : Nat → Int32} (hSX : SX K A b L xs) (hL : L ≤ 3072) {j : Nat} {i : Int32} (q : Nat) (hd : decode cc pc = .ok (.iaload, 1)) (hq : pc + 1 = q) (hi : i = nI j) (hj : j < L) (kk : GW K nL E wd A q lo (.int (xs j) :: st) h) : GW K nL E wd A pc lo (.int i :: .ref b :: st) h := by
  subst hq hi
  obtain ⟨p, l, e, R, s, m, args, below, meth, c, cells, slots, Q⟩ := K
  obtain ⟨hx, hb, hml, hret, hlk, hown, hts, hN, hK, hA, hZ, hdf, hdl, hcc, hcs⟩ := X
  obtain ⟨s1, s2, s3⟩ := hSX
  intro H locs ls hP hD hS hl
  refine va_sld hx hb s1 s2 s3 hS (nI_in hj (by omega)) hd ?_
  rw [nI_clamp (by omega)]
  exact kk H locs ls hP hD hS hl
theorem P_slen (X : Cx K own cc nL ret E A d) {b L : Nat} {xs : Nat → Int32} (hSX : SX K A b L xs) (q : Nat) (hd : decode cc pc = .ok (.arraylength, 1)) (hq : pc + 1 = q) (kk : GW K nL E wd A q lo (.int (nI L) :: st) h) : GW K nL E wd A pc lo (.ref b :: st) h := by
  subst hq
  obtain ⟨p, l, e, R, s, m, args, below, meth, c, cells, slots, Q⟩ := K
  obtain ⟨hx, hb, hml, hret, hlk, hown, hts, hN, hK, hA, hZ, hdf, hdl, hcc, hcs⟩ := X
  obtain ⟨s1, s2, s3⟩ := hSX
  intro H locs ls hP hD hS hl
  exact va_slen hx hb s1 s2 s3 hS hd (kk H locs ls hP hD hS hl)
end PS
