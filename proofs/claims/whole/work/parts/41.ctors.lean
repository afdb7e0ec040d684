/-- a final field that holds a reference, of the class itself -/
def FP (own : String) (ix ci i : Nat) : Prop := ∃ (T : u_T) (N : Nat) (ty : Nat → FieldType) (ft : FieldType), vwCl[ci]? = some (own, T, N) ∧ i < N ∧ (∀ w ∈ u_ws own T N, w ∈ TB) ∧ Cond.fieldLink own ix own (T i).2.1 (T i).2.2.1 ∈ TB ∧ (T i).1 = own ∧ (∀ k, k < N → parseFieldDescriptor (T k).2.2.1 = some (ty k)) ∧ (∀ a, a < N → ∀ b, b < N → a ≠ b → (T a).2.1 ≠ (T b).2.1) ∧ (T i).2.2.2 = true ∧ parseFieldDescriptor (T i).2.2.1 = some ft ∧ (∀ x, narrow ft (.ref x) = .ref x) ∧ (∀ x, fits ft (.ref x) = true)
theorem va_P_split {D : va_G} {cl : List vw_C} {w1 w2 : va_W} {H : Heap} (h : va_P D cl (w1 ++ w2) H) : va_P D cl w1 H ∧ va_P D cl w2 H := by
  refine ⟨fun k q hk => h k q ?_, fun k q hk => h (w1.length + k) q ?_⟩
  · rw [List.getElem?_append_left (List.getElem?_eq_some_iff.mp hk).1]; exact hk
  · rw [List.getElem?_append_right (by omega), Nat.add_sub_cancel_left]; exact hk
section AR2
variable {K : Kx} {own : String} {cc : ByteArray} {nL : Nat} {E : Ev} {A : Nat → Prop} {d b : Nat} {pc : Nat} {lo : List (Option Value)} {st : List Value} {L : List va_E} {kc ks : Nat}

theorem A_putF (X : CxA K own cc nL E A b d) {L1 : List va_E} {mc ms : Nat} (hKI : KI K E b L1 mc ms) {ix ci i k0 x : Nat} {fs : List Value} (q : Nat) (hd : decode cc pc = .ok (.putfield ix, 3)) (hq : pc + 3 = q) (hF : FP own ix ci i) (hk : L[k0]? = some (.inr (ci, fs))) (hl0 : i < fs.length) (k : GA K nL E A b q lo st (L.set k0 (.inr (ci, fs.set i (.ref x)))) kc ks) : GA K nL E A b pc lo (.ref x :: .ref (b + k0) :: st) L kc ks := by
  subst hq
  obtain ⟨p, l, e, R, s, m, args, below, meth, c, cells, slots, Q⟩ := K
  obtain ⟨hx, hb, hml, hlk, hown, hts, hN, hK, hO, hA, hAb, hdf, hdl⟩ := X
  obtain ⟨T, N, ty, ft, f1, f2, f3, f4, f5, f6, f7, f8, f9, f10, f11⟩ := hF
  obtain ⟨-, -, hin2, -⟩ := hKI
  intro H locs ls hz hP hS0 hl
  have he := mkL_at (b := b) hk
  have hap := va_apart (own := own) hts f3 ty f6 f7 hK f1
  obtain ⟨r, h1, cell, q1, q2, q3, q4⟩ := hP k0 _ he
  have hr : r = (own, T, N) := Option.some.inj (h1.symm.trans f1)
  subst hr
  obtain ⟨hS, hfc, kC, hkC, hkind⟩ := hK.1 ci _ f1
  obtain ⟨cf, kf, fi, f, hi, hsl⟩ := hS i f2
  have hlay := hts _ (f3 _ (u_in_lay f2))
  unfold u_lay at hlay
  rw [if_pos f8] at hlay
  have hst := (u_facts hfc hkC (u_lays hts f3 f2) hi).1
  have hcf : m.cls = cf := by
    obtain ⟨_, _, c', _, _, _, -, -, hf', -, -, -, hown2, -⟩ := Cond.laysFinal_spec hlay
    have e1 : c' = cf := by have := hi.symm.trans hf'; simp at this; exact this.1.symm
    rw [f5] at hown2
    rw [← e1]; exact Option.some.inj (hown.symm.trans hown2)
  have h6 := u_fits hfc hkC hkind (Or.inr hlay) hi f9 (f10 x) (f11 x)
  have hi' : s.fieldFound? own (T i).2.1 (T i).2.2.1 = some (cf, kf, fi, f) := by rw [f5] at hi; exact hi
  refine W.putFinK hx hb hown (hts _ f4) hi' hst hcf hin2 (by rw [q2]; exact h6) q1 q3 (by rw [hsl]; exact k2_hasslot (q4 i f2)) rfl rfl hd fun H' e1 e2 e3 => ?_
  rw [hsl] at e1 ⊢
  have hD := mkL_D (L := L) hAb
  exact k H' _ ls (by rw [A_len, e2, hz]) (A_set (s := s) (locs1 := locs) hk (hP.set hD he ⟨_, f1, t_OB.to (V := updV (vp_V fs) i (.ref x)) ⟨_, e1, q2, q3, t_set q4 hap f2 (.ref x)⟩ (fun j _ => vp_updV_set hl0 (.ref x) j)⟩ e3)) (hS0.put e2 e3 (hD.2 k0 _ he)) hl
theorem A_puti (X : CxA K own cc nL E A b d) {ix ci i k0 : Nat} {x : Int32} {fs : List Value} (q : Nat) (hd : decode cc pc = .ok (.putfield ix, 3)) (hq : pc + 3 = q) (hF : FW own ix ci i) (hk : L[k0]? = some (.inr (ci, fs))) (hl0 : i < fs.length) (k : GA K nL E A b q lo st (L.set k0 (.inr (ci, fs.set i (.int x)))) kc ks) : GA K nL E A b pc lo (.int x :: .ref (b + k0) :: st) L kc ks := by
  subst hq
  obtain ⟨p, l, e, R, s, m, args, below, meth, c, cells, slots, Q⟩ := K
  obtain ⟨hx, hb, hml, hlk, hown, hts, hN, hK, hO, hA, hAb, hdf, hdl⟩ := X
  obtain ⟨C, T, N, ty, f1, f2, f3, f4, f5, f6, f7, f8, f9⟩ := hF
  intro H locs ls hz hP hS0 hl
  have he := mkL_at (b := b) hk
  have hap := va_apart (own := own) hts f3 ty f6 f7 hK f1
  obtain ⟨r, h1, cell, q1, q2, q3, q4⟩ := hP k0 _ he
  have hr : r = (C, T, N) := Option.some.inj (h1.symm.trans f1)
  subst hr
  obtain ⟨hS, hfc, kC, hkC, hkind⟩ := hK.1 ci _ f1
  obtain ⟨cf, kf, fi, f, hi, hsl⟩ := hS i f2
  have hlay := hts _ (f3 _ (u_in_lay f2))
  unfold u_lay at hlay
  rw [if_neg (by rw [f8]; decide)] at hlay
  have hst := (u_facts hfc hkC (u_lays hts f3 f2) hi).1
  have h6 := u_store hfc hkC hkind hlay hi f9 rfl rfl (v := .int x)
  have hi' : s.fieldFound? C (T i).2.1 (T i).2.2.1 = some (cf, kf, fi, f) := by rw [f5] at hi; exact hi
  have hD := mkL_D (L := L) hAb
  rcases f4 with f4 | ⟨host, f4⟩
  · refine W.putK hx hb (f := f) ⟨hown, hts _ f4, ⟨_, _, _, hi'⟩, hst⟩ (by rw [q2]; exact h6) q1 q3 (by rw [hsl]; exact k2_hasslot (q4 i f2)) rfl rfl hd fun H' e1 e2 e3 => ?_
    rw [hsl] at e1 ⊢
    exact k H' _ ls (by rw [A_len, e2, hz]) (A_set (s := s) (locs1 := locs) hk (hP.set hD he ⟨_, f1, t_OB.to (V := updV (vp_V fs) i (.int x)) ⟨_, e1, q2, q3, t_set q4 hap f2 (.int x)⟩ (fun j _ => vp_updV_set hl0 (.int x) j)⟩ e3)) (hS0.put e2 e3 (hD.2 k0 _ he)) hl
  · refine va_WputK hx hb (f := f) hown (va_Nw.use rfl (hN _ f4)) hi' hst (by rw [q2]; exact h6) q1 q3 (by rw [hsl]; exact k2_hasslot (q4 i f2)) rfl rfl hd fun H' e1 e2 e3 => ?_
    rw [hsl] at e1 ⊢
    exact k H' _ ls (by rw [A_len, e2, hz]) (A_set (s := s) (locs1 := locs) hk (hP.set hD he ⟨_, f1, t_OB.to (V := updV (vp_V fs) i (.int x)) ⟨_, e1, q2, q3, t_set q4 hap f2 (.int x)⟩ (fun j _ => vp_updV_set hl0 (.int x) j)⟩ e3)) (hS0.put e2 e3 (hD.2 k0 _ he)) hl
theorem A_ast (X : CxA K own cc nL E A b d) {k0 n j : Nat} {i x : Int32} {f : Nat → Int32} (q : Nat) (hd : decode cc pc = .ok (.iastore, 1)) (hq : pc + 1 = q) (hk : L[k0]? = some (.inl (E.2.1 0, n, .inl f))) (hn : n < 2 ^ 31) (hi : i = nI j) (hj : j < n) (k : GA K nL E A b q lo st (L.set k0 (.inl (E.2.1 0, n, .inl (upd f j x)))) kc ks) : GA K nL E A b pc lo (.int x :: .int i :: .ref (b + k0) :: st) L kc ks := by
  subst hq hi
  obtain ⟨p, l, e, R, s, m, args, below, meth, c, cells, slots, Q⟩ := K
  obtain ⟨hx, hb, hml, hlk, hown, hts, hN, hK, hO, hA, hAb, hdf, hdl⟩ := X
  intro H locs ls hz hP hS hl
  have he := mkL_at (b := b) hk
  have hin : vp_in (nI j) n := nI_in hj hn
  have hcl : (nI j).toNatClampNeg = j := nI_clamp (Nat.lt_trans hj hn)
  have hD := mkL_D (L := L) hAb
  refine W.iast hx hb (hP k0 _ he) ((hK.2 0 _ rfl).1 n (fun j => .int (f j))) (fun q => by cases q) (by show ¬ (nI j < 0 ∨ (arrV _ _ _).slots.size ≤ _); rw [arrV_size]; exact hin) rfl rfl hd fun H1 e1 z oq => ?_
  refine k H1 _ ls (by rw [A_len, z, hz]) (A_set (s := s) (locs1 := locs) hk (hP.set hD he ?_ oq)) (hS.put z oq (hD.2 k0 _ he)) hl
  show H1[b + k0]? = some (vp_cell _ _)
  rw [e1, vp_cell_i, vp_cell_i, arrV_store, hcl]
  congr 2
  funext q
  by_cases hq : q = j
  · subst hq
    simp [updV, upd]
  · simp [updV, upd, hq]
theorem A_getr (X : CxA K own cc nL E A b d) {ix ci i k0 : Nat} {fs : List Value} {v : Value} (q : Nat) (hd : decode cc pc = .ok (.getfield ix, 3)) (hq : pc + 3 = q) (hF : FL own ix ci i) (hk : L[k0]? = some (.inr (ci, fs))) (hv : fs[i]? = some v) (k : GA K nL E A b q lo (v :: st) L kc ks) : GA K nL E A b pc lo (.ref (b + k0) :: st) L kc ks := by
  subst hq
  obtain ⟨p, l, e, R, s, m, args, below, meth, c, cells, slots, Q⟩ := K
  obtain ⟨hx, hb, hml, hlk, hown, hts, hN, hK, hO, hA, hAb, hdf, hdl⟩ := X
  obtain ⟨C, T, N, f1, f2, f3, f4, f5⟩ := hF
  intro H locs ls hz hP hS hl
  have he := mkL_at (b := b) hk
  rcases f4 with f4 | ⟨host, f4⟩
  · exact va_get hx hb hts f3 hown hK hP k0 he f1 i f2 (hts _ f4) (fun x hx => by rw [f5] at hx; exact hx) hv hd (k H locs ls hz hP hS hl)
  · exact va_getN hx hb hts f3 hown hK hP k0 he f1 i f2 (va_Nw.use rfl (hN _ f4)) (fun x hx => by rw [f5] at hx; exact hx) hv hd (k H locs ls hz hP hS hl)
theorem A_ret (X : CxA K own cc nL E (AL b) b d) {mc ms : Nat} (hKI : KI K E b L mc ms) (hd : decode cc pc = .ok (.return_, 1)) : GA K nL E (AL b) b pc lo [] L mc ms := by
  obtain ⟨p, l, e, R, s, m, args, below, meth, c, cells, slots, Q⟩ := K
  obtain ⟨hx, hb, hml, hlk, hown, hts, hN, hK, hO, hA, hAb, hdf, hdl⟩ := X
  obtain ⟨rfl, hr, -⟩ := hKI
  intro H locs ls hz hP hS hl
  exact W.vret hx hb hr (fun t ht hW => ⟨⟨rfl, by rw [ht]; exact hz, by rw [ht]; exact hP⟩, hS.F ht⟩) hS.2.2 hd hlk
theorem A_callI (X : CxA K own cc nL E A b d) {y : MethodName} {cc' : ByteArray} {nL' ix mc ms : Nat} {L0 L1 : List va_E} (pre : List va_E) (q : Nat) (hd : decode cc pc = .ok (.invokespecial ix, 3)) (hq : pc + 3 = q) (hL : LK own ix y) (hV : MK y cc' nL' none 0) (hi : Cond.instanceMethod y ∈ TB) (hy : y.name = "<init>") (h1 : 1 ≤ d) (hLs : L = pre ++ L0) (hM : CI (d - 1) y cc' nL' E (b + pre.length) L0 L1 mc ms) (hc1 : kc + mc ≤ (RmK K).cells) (hc2 : ks + ms ≤ (RmK K).slots) (hcat : (st.map fun v => v.category).sum ≤ 8) (k : GA K nL E A b q lo st (pre ++ L1) (kc + mc) (ks + ms)) : GA K nL E A b pc lo (.ref (b + pre.length) :: st) L kc ks := by
  subst hq hLs
  obtain ⟨p, l, e, R, s, m, args, below, meth, c, cells, slots, Q⟩ := K
  obtain ⟨hx, hb, hml, hlk, hown, hts, hN, hK, hO, hA, hAb, hdf, hdl⟩ := X
  obtain ⟨m1, m2, m3, m4⟩ := hV
  intro H locs ls hz hP hS hl
  have hz2 : H.size = (b + pre.length) + L0.length := by rw [hz, List.length_append]; omega
  rw [mkL_app] at hP
  obtain ⟨hPa, hPb⟩ := va_P_split hP
  have hR : (rmI (d - 1) mc ms).frames + 1 ≤ R.frames ∧ 8 + (nL' + 11) + (rmI (d - 1) mc ms).locals ≤ R.locals := ⟨by show d - 1 + 1 ≤ _; omega, by show 8 + (nL' + 11) + 40 * (d - 1) ≤ _; omega⟩
  have hp : PreS s H (PI E (b + pre.length) L0) (.ref (b + pre.length) :: []) := ⟨PI_blind, fun U hU hW => ⟨rfl, by rw [hU]; exact hz2, by rw [hU]; exact hPb, va_K.moved hW.alike hK, NW.warm hW hN, va_AO.moved hW.alike hO⟩⟩
  have run : va_Run p l e R s m args below meth c H locs kc ks mc ms (F0 m pc ls (.ref (b + pre.length) :: st)) st (QI E (b + pre.length) L1 [Value.ref (b + pre.length)].toArray) (AL (b + pre.length)) := by
    rcases hL with hL | ⟨host, hL⟩
    · exact va_runI (As := []) ⟨hx, hb, hml, hown, hts⟩ (hM l) ⟨callB_of 0 hts (wsM_good0 m1) rfl rfl rfl (hts _ m2) (hts _ hL) m3 hR, hy, hts _ hi⟩ hp rfl rfl hl.1 rfl (lv_room hcat) hd ⟨hc1, hc2⟩
    · exact va_runIN (As := []) ⟨hx, hb, hml, hown, hts⟩ (hM l) ⟨va_cnB 0 hts (wsM_good0 m1) rfl rfl rfl (hN _ hL) (hts _ m2) m3 hR, hy, hts _ hi⟩ hp rfl rfl hl.1 rfl (lv_room hcat) hd ⟨hc1, hc2⟩
  have hF : ∀ q9, AL (b + pre.length) q9 → A q9 := fun q9 h9 => hAb q9 (by have : b + pre.length ≤ q9 := h9; omega)
  intro T hT XX
  obtain ⟨v, st₀, t, T', Lc, h0, X', hLc, e1, e2, ⟨⟨hv, hsz1, hP1⟩, hzz, hkk⟩, stp⟩ := run T hT XX
  cases hv
  rw [h0] at hzz hkk
  obtain ⟨t2, a1, b1⟩ := k T'.heap (locs ++ Lc) ls (by rw [e1, hsz1, List.length_append]; omega) (by
      rw [mkL_app, e1]
      refine va_P.app (hPa.kept (fun k x hx => ?_)) hP1
      obtain ⟨c9, hc9, rfl⟩ := mkL_inv hx
      have hlt := (List.getElem?_eq_some_iff.mp hc9).1
      exact hkk (b + k) (by omega) (fun z => by have : b + pre.length ≤ b + k := z; omega))
    ⟨Nat.le_trans hS.1 (by rw [e1]; exact hzz), fun q h1 h2 => by rw [e1, hkk q (Nat.lt_of_lt_of_le h1 hS.1) (fun z => h2 (hF q z))]; exact hS.2.1 q h1 h2, fun q hq => by
      rcases List.mem_append.mp hq with h | h
      · exact hS.2.2 q h
      · exact hF _ (hLc q h)⟩ hl T' rfl X'
  exact ⟨t2, stp t2 a1, b1⟩
end AR2

