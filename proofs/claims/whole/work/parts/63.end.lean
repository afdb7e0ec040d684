/-! the law from its entry -/
set_option maxRecDepth 100000 in
set_option maxHeartbeats 4000000 in
theorem law_made {K : Kx} {D : va_G} {cA : Nat → ClassId} {b0 tA b : Nat} (X : CxA K RL cL_law 4 (eX D cA b0 tA) (AL b0) b0 41) (hc : 84 ≤ (RmK K).cells) (hs : 9813 ≤ (RmK K).slots) (kk : GA K 4 (eX D cA b0 tA) (AL b0) b0 16 [some (.ref b), some (.ref b0), some (.ref (b0 + 51)), none] [] (LX (eX D cA b0 tA) b0 ++ LY (eX D cA b0 tA) (b0 + 51)) 84 9813) : GA K 4 (eX D cA b0 tA) (AL b0) b0 0 [some (.ref b), none, none, none] [] [] 0 0 := by
  refine A_new X tyX8 [.null, .null, .null, .null, .null, .null, .null, .null, .null, .null, .null, .int 0] 3 dL_law_0 rfl cl_L_7 in_X8 ini_X8 uwX8 tyX8_ok (ci := 8) rfl (fun jz hjz => by rcases (show jz = 0 ∨ jz = 1 ∨ jz = 2 ∨ jz = 3 ∨ jz = 4 ∨ jz = 5 ∨ jz = 6 ∨ jz = 7 ∨ jz = 8 ∨ jz = 9 ∨ jz = 10 ∨ jz = 11 by omega) with rfl | rfl | rfl | rfl | rfl | rfl | rfl | rfl | rfl | rfl | rfl | rfl <;> rfl) (by omega) (by omega) ?_
  show GA K 4 (eX D cA b0 tA) (AL b0) b0 3 [some (.ref b), none, none, none] [.ref b0] [.inr (8, [.null, .null, .null, .null, .null, .null, .null, .null, .null, .null, .null, .int 0])] 1 12
  refine A_dup X rfl 4 dL_law_3 rfl ?_
  refine A_callI X [] 7 dL_law_4 rfl lk_L_9 mk_X8_init mi_X8_init rfl (by omega) rfl (k_X8_init (b := b0) (by omega)) (by omega) (by omega) (Nat.le_of_ble_eq_true rfl) ?_
  show GA K 4 (eX D cA b0 tA) (AL b0) b0 7 [some (.ref b), none, none, none] [.ref b0] (LX (eX D cA b0 tA) b0) 51 832
  refine A_astore1 X 8 dL_law_7 rfl (by decide) rfl ?_
  refine A_new X tyX9 [.int 0, .int 0, .null, .null, .null, .null, .null, .null, .null, .null, .int 0, .null, .null, .null, .null, .null, .null, .int 0, .null, .int 0, .null, .null, .null, .null, .null, .null, .null, .null, .null, .null, .null, .null, .null, .int 0, .int 0, .null, .null, .null, .int 0, .int 0, .null] 11 dL_law_8 rfl cl_L_10 in_X9 ini_X9 uwX9 tyX9_ok (ci := 9) rfl (fun jz hjz => by rcases (show jz = 0 ∨ jz = 1 ∨ jz = 2 ∨ jz = 3 ∨ jz = 4 ∨ jz = 5 ∨ jz = 6 ∨ jz = 7 ∨ jz = 8 ∨ jz = 9 ∨ jz = 10 ∨ jz = 11 ∨ jz = 12 ∨ jz = 13 ∨ jz = 14 ∨ jz = 15 ∨ jz = 16 ∨ jz = 17 ∨ jz = 18 ∨ jz = 19 ∨ jz = 20 ∨ jz = 21 ∨ jz = 22 ∨ jz = 23 ∨ jz = 24 ∨ jz = 25 ∨ jz = 26 ∨ jz = 27 ∨ jz = 28 ∨ jz = 29 ∨ jz = 30 ∨ jz = 31 ∨ jz = 32 ∨ jz = 33 ∨ jz = 34 ∨ jz = 35 ∨ jz = 36 ∨ jz = 37 ∨ jz = 38 ∨ jz = 39 ∨ jz = 40 by omega) with rfl | rfl | rfl | rfl | rfl | rfl | rfl | rfl | rfl | rfl | rfl | rfl | rfl | rfl | rfl | rfl | rfl | rfl | rfl | rfl | rfl | rfl | rfl | rfl | rfl | rfl | rfl | rfl | rfl | rfl | rfl | rfl | rfl | rfl | rfl | rfl | rfl | rfl | rfl | rfl | rfl <;> rfl) (by omega) (by omega) ?_
  show GA K 4 (eX D cA b0 tA) (AL b0) b0 11 [some (.ref b), some (.ref b0), none, none] [.ref (b0 + 51)] ((LX (eX D cA b0 tA) b0) ++ [.inr (9, [.int 0, .int 0, .null, .null, .null, .null, .null, .null, .null, .null, .int 0, .null, .null, .null, .null, .null, .null, .int 0, .null, .int 0, .null, .null, .null, .null, .null, .null, .null, .null, .null, .null, .null, .null, .null, .int 0, .int 0, .null, .null, .null, .int 0, .int 0, .null])]) 52 873
  refine A_dup X rfl 12 dL_law_11 rfl ?_
  refine A_callI X (LX (eX D cA b0 tA) b0) 15 dL_law_12 rfl lk_L_12 mk_X9_init mi_X9_init rfl (by omega) rfl (k_X9_init (b := b0 + 51) (by omega)) (by omega) (by omega) (Nat.le_of_ble_eq_true rfl) ?_
  show GA K 4 (eX D cA b0 tA) (AL b0) b0 15 [some (.ref b), some (.ref b0), none, none] [.ref (b0 + 51)] (LX (eX D cA b0 tA) b0 ++ LY (eX D cA b0 tA) (b0 + 51)) 84 9813
  exact A_astore2 X 16 dL_law_15 rfl (by decide) rfl kk
/-! THE CLAIM OUT OF ONE WALK OF THE LAW'S BODY. Your part is whole_start (and what it stands on); all else here is the same for every law, but numbers. -/
def R_law : String := "TownAsksLaw"
def lw_P (b : Addr) (xs : List Int32) (args : Array Value) (s : State) : Prop := args = #[.ref b] ∧ s.IntsAt b xs ∧ xs.length ≤ 3072 ∧ (Jvm.Cond.and given_1 narrow_1).before args s = true
def lw_Q (_ : Array Value) (s : State) (o : Outcome) (t : State) : Prop := o = .returned (some (.int 1)) ∧ Framed s o t [] 600000 7302250
def lw_Z (below : List Frame) (a : Array Value) (s : State) : State → Prop := fun t => ∃ o, t.status = .running ∧ Ended t below o ∧ lw_Q a s o t
/-- the law's own end, with 1 on the stack, nothing written that was there before, its room as the claim has it -/
theorem lw_ret {p : Program} {l : Launch} {e : Env} {s : State} {m : MethodId} {below : List Frame} {meth : Method} {c : Code} {b : Nat} (hx : p.tables.exec = Jvm.exec) (hb : c.code = code) (hr : meth.sig.returnType = ret) (hlocks : meth.locks = false) {pc : Nat} {H : Heap} {ls : Array Slot} (hdg : decode code pc = .ok (.ireturn, 1)) : W p l e room_1 s m #[Value.ref b] below meth c H [] 600000 7302250 (lw_Z below #[Value.ref b] s) (F0 m pc ls [.int 1]) := by
  intro T hT X
  obtain ⟨fs, hret, hrun, hended, hW, hframe⟩ := X.leave (v := some (.int 1)) (hlocks := hlocks) (fun h => by rw [hr] at h; cases h)
  have hmeth' : T.vm.method? m = some meth := X.method'
  refine ⟨T.setFrames fs, ?_, .returned (some (.int 1)), hrun, hended, rfl, ⟨_, rfl⟩, hW, hframe⟩
  jvm_step X.here [X.here.top, hx, hb, hdg, hmeth', hr, ret, narrow_b1]
  (try refine ⟨rfl, ?_⟩); (try refine ⟨rfl, ?_⟩)
  first | (intro acts; rw [hret _ acts rfl rfl rfl]) | rw [hret _ _ rfl rfl rfl]
  exact Steps.refl _
/-- what holds at the law's entry: the machine, the code, the tables' words (any of lw_tbl by 'hts w (by decide +kernel)'), the script of L ints xs at the cell b, what the Statement gives of the start (any of its parts by flat_of_before) -/
def lw_At (p : Program) (s : State) (m : MethodId) (meth : Method) (c : Code) (b L : Nat) (xs : Nat → Int32) : Prop :=
  p.tables.exec = Jvm.exec ∧ c.code = code ∧ meth.sig.returnType = ret ∧ c.maxLocals = 4 ∧ s.vm.findClass R_law = some m.cls ∧ (∀ w ∈ lw_tbl, w.before #[Value.ref b] s = true) ∧ va_X b L xs s s.heap ∧ b < s.heap.size ∧ meth.locks = false ∧ (Jvm.Cond.and given_1 narrow_1).before #[Value.ref b] s = true
set_option maxRecDepth 100000 in
set_option maxHeartbeats 4000000 in
theorem whole_start {p : Program} {e : Env} {s : State} {m : MethodId} {below : List Frame} {meth : Method} {c : Code} (l : Launch) {b L : Nat} {xs : Nat → Int32} (hL : L ≤ 3072) (C0 : lw_At p s m meth c b L xs) : W p l e room_1 s m #[Value.ref b] below meth c s.heap [] 0 0 (lw_Z below #[Value.ref b] s) (entryFrame m ([Value.ref b] : List Value).toArray 4) := by
  obtain ⟨hx, hb, hr, hml, hown, hts, hX, hbl, hlocks, hgv⟩ := id C0
  have htb : ∀ w ∈ TB, w.before #[Value.ref b] s = true := fun w hw => hts w (List.mem_filter.mp hw).1
  have hNW : NW s := fun w hw => by
    have hn := (List.mem_filter.mp hw).2
    have h1 := hts w (List.mem_filter.mp hw).1
    cases w <;> first | (cases hn; done) | exact va_Nw.of rfl h1
  obtain ⟨c0, i0, k0⟩ := u_known (C := RX0) (T := TX0) (N := 9) (n := 9) htb uwX0 (htb _ in_X0)
  obtain ⟨c1, i1, k1⟩ := u_known (C := RX1) (T := TX1) (N := 11) (n := 11) htb uwX1 (htb _ in_X1)
  obtain ⟨c2, i2, k2⟩ := u_known (C := RX2) (T := TX2) (N := 5) (n := 5) htb uwX2 (htb _ in_X2)
  obtain ⟨c3, i3, k3⟩ := u_known (C := RX3) (T := TX3) (N := 4) (n := 4) htb uwX3 (htb _ in_X3)
  obtain ⟨c4, i4, k4⟩ := u_known (C := RX4) (T := TX4) (N := 3) (n := 3) htb uwX4 (htb _ in_X4)
  obtain ⟨c5, i5, k5⟩ := u_known (C := RX5) (T := TX5) (N := 3) (n := 3) htb uwX5 (htb _ in_X5)
  obtain ⟨c6, i6, k6⟩ := u_known (C := RX6) (T := TX6) (N := 2) (n := 2) htb uwX6 (htb _ in_X6)
  obtain ⟨c7, i7, k7⟩ := u_known (C := RX7) (T := TX7) (N := 7) (n := 7) htb uwX7 (htb _ in_X7)
  obtain ⟨c8, i8, k8⟩ := u_known (C := RX8) (T := TX8) (N := 12) (n := 12) htb uwX8 (htb _ in_X8)
  obtain ⟨c9, i9, k9⟩ := u_known (C := RX9) (T := TX9) (N := 41) (n := 41) htb uwX9 (htb _ in_X9)
  obtain ⟨D, hKc⟩ : ∃ D : va_G, ∀ (k : Nat) (q : vw_C), vwCl[k]? = some q → u_Kn s q.1 q.2.1 q.2.2 (D.1 k) (D.2 k) := by
    refine ⟨(fun k => match k with | 0 => c0 | 1 => c1 | 2 => c2 | 3 => c3 | 4 => c4 | 5 => c5 | 6 => c6 | 7 => c7 | 8 => c8 | _ => c9, fun k => match k with | 0 => i0 | 1 => i1 | 2 => i2 | 3 => i3 | 4 => i4 | 5 => i5 | 6 => i6 | 7 => i7 | 8 => i8 | _ => i9), ?_⟩
    intro k q hq
    match k, hq with
    | 0, hq => cases hq; exact k0
    | 1, hq => cases hq; exact k1
    | 2, hq => cases hq; exact k2
    | 3, hq => cases hq; exact k3
    | 4, hq => cases hq; exact k4
    | 5, hq => cases hq; exact k5
    | 6, hq => cases hq; exact k6
    | 7, hq => cases hq; exact k7
    | 8, hq => cases hq; exact k8
    | 9, hq => cases hq; exact k9
    | k + 10, hq => cases hq
  obtain ⟨a0, ka0, m0, p1, p2, p3⟩ := Cond.arrayClass_spec (htb _ tb_int)
  obtain ⟨a1, ka1, m1, r1, r2, r3⟩ := Cond.arrayClass_spec (htb _ tb_boolean)
  have hov : (Cond.arrayOver (.object "TownAsks$Sheet")).before #[Value.ref b] s = true := hts _ (List.mem_of_getElem? (i := 258) (by decide +kernel))
  have hAO : va_AO "TownAsks$Sheet" s := va_AO.of hov
  obtain ⟨m2, a2, ka2, q1, q2, q3, q4, q5⟩ := Cond.arrayOver_spec hov
  obtain ⟨cA, eA0, eA1, eA2⟩ : ∃ cA : Nat → ClassId, cA 0 = a0 ∧ cA 1 = a1 ∧ cA 2 = a2 := ⟨fun k => match k with | 0 => a0 | 1 => a1 | _ => a2, rfl, rfl, rfl⟩
  subst eA0 eA1 eA2
  have hfl := flat_of_before _ hgv
  have hab : ∀ z : Nat, z < s.heap.size → ¬ (fun q : Nat => s.heap.size ≤ q) z := fun z hz => Nat.not_le.mpr hz
  obtain ⟨tA, hev, hT⟩ := va_Tof (tm := .static "TownAsks" "ABOVE" "[I") (ty := .int) (N := 5) (f := abF) (A := fun q : Nat => s.heap.size ≤ q) (by decide) (hfl (Cond.arrayOf (.static "TownAsks" "ABOVE" "[I") .int) (by decide +kernel)) (va_eqt (hfl (Cond.eq (.length (.static "TownAsks" "ABOVE" "[I")) (.int 5)) (by decide +kernel))) (fun j hj => by
    match j, hj with
    | 0, _ => exact va_eqt (hfl (Cond.eq (.elem (.static "TownAsks" "ABOVE" "[I") (.int 0)) (.int (-1))) (by decide +kernel))
    | 1, _ => exact va_eqt (hfl (Cond.eq (.elem (.static "TownAsks" "ABOVE" "[I") (.int 1)) (.int 0)) (by decide +kernel))
    | 2, _ => exact va_eqt (hfl (Cond.eq (.elem (.static "TownAsks" "ABOVE" "[I") (.int 2)) (.int 0)) (by decide +kernel))
    | 3, _ => exact va_eqt (hfl (Cond.eq (.elem (.static "TownAsks" "ABOVE" "[I") (.int 3)) (.int 0)) (by decide +kernel))
    | 4, _ => exact va_eqt (hfl (Cond.eq (.elem (.static "TownAsks" "ABOVE" "[I") (.int 4)) (.int 2)) (by decide +kernel))
    | j + 5, hj => exact absurd hj (by omega)) hab
  have hZ : va_Z "TownAsks" "ABOVE" "[I" (.ref tA) (fun q : Nat => s.heap.size ≤ q) s s.heap := va_Zref (hts _ (List.mem_of_getElem? (i := 408) (by decide +kernel))) (htb _ ini_X8) hev hab
  have hK : va_K D vwCl (tyE (eX D cA s.heap.size tA)) s := by
    refine ⟨hKc, fun k q hq => ?_⟩
    match k, hq with
    | 0, hq => cases hq; exact ⟨fun n z => ⟨fun k h => (by cases h), ka0, p2, m0, p3⟩, p1⟩
    | 1, hq => cases hq; exact ⟨fun n z => ⟨fun k h => (by cases h), ka1, r2, m1, r3⟩, r1⟩
    | 2, hq => cases hq; exact ⟨fun n z => ⟨fun k h => (by cases h), ka2, q3, m2, q4⟩, ⟨ka2, m2, q3, q4, q1, q5⟩⟩
    | k + 3, hq => cases hq
  have hl := lv_entry ([.ref b]) (n := 4) (Nat.le_of_ble_eq_true rfl)
  rw [lg_entry_eq]
  generalize (lg_sl ([.ref b]) ++ List.replicate (4 - (lg_sl ([.ref b])).length) Slot.unset).toArray = ls at hl ⊢
  have hl : lv_has ls 4 (lvp 0 [some (.ref b), none, none, none]) := hl
  have Xa : CxA (p, l, e, room_1, s, m, #[Value.ref b], below, meth, c, 84, 9813, lw_Z below #[Value.ref b] s) RL cL_law 4 (eX D cA s.heap.size tA) (AL s.heap.size) s.heap.size 41 := ⟨hx, hb, hml, hlocks, hown, htb, hNW, hK, hAO, fun q h => h, fun q h => h, by decide, by decide⟩
  have Xl : Cx (p, l, e, room_1, s, m, #[Value.ref b], below, meth, c, 84, 9813, lw_Z below #[Value.ref b] s) RL cL_law 4 (some .boolean) (eX D cA s.heap.size tA) (AL s.heap.size) 41 := ⟨hx, hb, hml, hr, hlocks, hown, htb, hNW, hK, fun q h => h, ⟨hZ, hT⟩, by decide, by decide, by decide, by decide⟩
  have hSX : SX (p, l, e, room_1, s, m, #[Value.ref b], below, meth, c, 84, 9813, lw_Z below #[Value.ref b] s) (AL s.heap.size) b L xs := ⟨hX, hbl, Nat.not_le.mpr hbl⟩
  have hEnd : ∀ (lo : List (Option Value)) (h : Hp), GW (p, l, e, room_1, s, m, #[Value.ref b], below, meth, c, 84, 9813, lw_Z below #[Value.ref b] s) 4 (eX D cA s.heap.size tA) (wdL (eX D cA s.heap.size tA) (fun k => s.heap.size + 51 + k)) (AL s.heap.size) 1106 lo [.int 1] h := by
    intro lo h H locs ls hP hD hS hl
    exact va_forget (fun q hq => hS.2.2 q hq) (W.widen (k := 600000) (n := 7302250) (by decide) (by decide) (lw_ret hx hb hr hlocks dL_law_1106))
  refine law_made Xa (show 84 ≤ 600000 by decide) (show 9813 ≤ 7302250 by decide) ?_ s.heap [] ls rfl (fun k q hq => by cases hq) va_S.rf hl
  intro H locs ls hz hP hS hl
  have G : GW (p, l, e, room_1, s, m, #[Value.ref b], below, meth, c, 84, 9813, lw_Z below #[Value.ref b] s) 4 (eX D cA s.heap.size tA) (wdL (eX D cA s.heap.size tA) (fun k => s.heap.size + 51 + k)) (AL s.heap.size) 16 [some (.ref b), some (.ref s.heap.size), some (.ref (s.heap.size + 51)), none] [] (jn h0 g0) := by
    refine P_iconst Xl (0) rfl 17 dL_law_16 rfl ?_
    refine P_istore3 Xl 18 dL_law_17 rfl (by decide) rfl ?_
    exact law_loop Xl hSX hL hEnd (L + 1) 0 h0 g0 (by omega) (by decide) Rel_0
  exact G H locs ls (made_P hP) made_D hS hl
set_option maxHeartbeats 4000000 in
theorem lw_walk (l : Launch) (b : Addr) (xs : List Int32) : MetFree l x (headSpec (Jvm.Cond.code x code maxLocals ret :: tables_1) room_1) (lw_P b xs) (fun _ _ _ _ _ => True) lw_Q := by
  refine MetFree.of_bodyS (code := code) (maxLocals := maxLocals) (ret := ret) (by decide) ?_ ?_
  · intro args s m h hn
    obtain ⟨meth, c, h1, h2, h3, h4, h5, h6, -, -⟩ := Cond.code_spec hn (atoms_spec (ws := Jvm.Cond.code x code maxLocals ret :: tables_1) h _ List.mem_cons_self)
    exact ⟨meth, c, h1, h2, h3, h4, h5, h6⟩
  · intro p e s m args below meth c s₁ B hml0 hP _
    obtain ⟨rfl, hx, hbd, hgv⟩ := hP
    obtain ⟨scr, harrAt, hlist, hof, hsmall⟩ := hx
    obtain ⟨hcb, hkn, -, -⟩ := State.arrayAt?_spec harrAt
    have hown : s.vm.findClass R_law = some m.cls := findClass_of_methodNamed B.named
    have hts0 : ∀ c ∈ (Jvm.Cond.code x code maxLocals ret :: tables_1), c.before #[Value.ref b] s = true := atoms_spec (ws := Jvm.Cond.code x code maxLocals ret :: tables_1) B.pre
    have hts : ∀ w ∈ lw_tbl, w.before #[Value.ref b] s = true := k2_hts_sels lw_privs (fun w hw => hts0 w (List.mem_cons_of_mem _ hw)) lw_privs_ok
    have hml : c.maxLocals = 4 := B.maxLocals_eq (hts0 _ List.mem_cons_self)
    have X₀ : Stand p l e room_1 s m #[Value.ref b] below meth c s₁ [] 0 0 := Stand.of_body B
    have hh0 : s₁.heap = s.heap := by rw [B.state]; rfl
    have hsz : scr.slots.size = xs.length := by rw [← Array.length_toList, hlist, List.length_map]
    have hval : ∀ j : Nat, j < xs.length → scr.slots[j]? = some (.int (xs.getD j 0)) := fun j hj => by
      rw [← Array.getElem?_toList, hlist]
      simp [hj]
    have hbl : b < s.heap.size := (Array.getElem?_eq_some_iff.mp hcb).1
    have hX : va_X b xs.length (fun j => xs.getD j 0) s s.heap := ⟨scr, hcb, hof, hkn, hsz, hval⟩
    have K : W p l e room_1 s m #[Value.ref b] below meth c s₁.heap [] 0 0 (lw_Z below #[Value.ref b] s) (entryFrame m ([Value.ref b] : List Value).toArray 4) := by
      rw [hh0]
      exact whole_start l hbd ⟨B.exec, B.bytes, B.returns, hml, hown, hts, hX, hbl, B.notSynchronized, hgv⟩
    obtain ⟨t, a1, o, b1, b2, b3⟩ := K s₁ rfl X₀
    exact ⟨t, o, a1, b1, b2, b3⟩
theorem lw_pre_spec {args : Array Value} {s : State} (h : (Jvm.Cond.and given_1 narrow_1).before args s = true) (hr : rest_1_c.before args s = true) : ∃ (b : Addr) (xs : List Int32), lw_P b xs args s := by
  have hs := flat_of_before _ h
  have hq := flat_of_before _ hr
  have hc : (Cond.count 1).before args s = true := hs _ (by decide +kernel)
  have harr : (Cond.arrayOf (.arg 0) .int).before args s = true := hs _ (by decide +kernel)
  have hle : (Cond.le (.length (.arg 0)) (.int 3072)).before args s = true := hs _ (by decide +kernel)
  have hlen : (Cond.isInt (.length (.arg 0))).before args s = true := hq _ (by decide +kernel)
  have hall : (Cond.all (.arg 0) (.isInt (.elem (.arg 0) (.index 0)))).before args s = true := hq _ (by decide +kernel)
  obtain ⟨b, xs, hb, hx⟩ := State.ints_of_pre rfl harr hlen hall
  have hsm : xs.length < 2 ^ 31 := hx.choose_spec.2.2.2
  have hev : (Term.length (.arg 0)).eval args s none [] s = some (.int xs.length.toInt32) := hx.length_eval hb
  have hv := Cond.le_ints hev (show (Term.int 3072).eval args s none [] s = some (.int 3072) from rfl)
  have hd : xs.length.toInt32 ≤ 3072 := by
    simpa [Cond.before, Cond.holds, hv] using hle
  have hN : xs.length ≤ 3072 := (Int32.ofNat_le_ofNat hsm (by decide)).mp (show Int32.ofNat xs.length ≤ Int32.ofNat 3072 from hd)
  exact ⟨b, xs, Cond.one_arg hc (show args[0]? = some (.ref b) from hb), hx, hN, h⟩
theorem lw_comes (l : Launch) : Comes l x (Jvm.Cond.code x code maxLocals ret :: tables_1) room_1 (fun tb e args s => Calls_1 tb e args s ∧ rest_1 tb e args s ∧ Pre_1 tb e args s)
    (fun _ _ args s o t => lw_Q args s o t) := by
  intro p e ha hc hk s m args below hf hfit hheap happ hpre
  obtain ⟨b, xs, hP⟩ := lw_pre_spec hpre.2.2 hpre.2.1
  obtain ⟨k, o, h1, h2, h3, hQ⟩ := lw_walk l b xs p e ha hc hk s m args below hf ((Spec.applies_iff_loose hf).mp happ).1 hP trivial
  exact ⟨k, o, h1, h2, h3, hQ⟩
theorem lw_frame {s t : State} {o : Outcome} {args : Array Value} (h : Framed s o t [] 600000 7302250) :
    Framed s o t (fieldLocs frame_1_writes args s ++ arrayLocs frame_1_arrays args s ++ staticLocs frame_1_statics s) 600000 7302250 := h
theorem lw_limb (L : Cond) (hL : ∀ (args : Array Value) (s t : State), L.after args s (.returned (some (.int 1))) t = true) :
    ArmFor flags0 classFile x code maxLocals ret World_1 tables_1 room_1 Calls_1 rest_1 Pre_1
      (fun tb e a s o t => postC L tb e a s o t ∧ Framed s o t (fieldLocs frame_1_writes a s ++ arrayLocs frame_1_arrays a s ++ staticLocs frame_1_statics s) 600000 7302250) := by
  intro l _ _ _ p e ha hc hk s m args below hf hfit hheap happ hpre
  obtain ⟨k, o, h1, h2, h3, rfl, hF⟩ := lw_comes l p e ha hc hk s m args below hf hfit hheap happ hpre
  exact ⟨k, _, h1, h2, h3, hL args s _, lw_frame hF⟩
theorem i_vc : Claimed_1_1 ∧ Claimed_1_2 := ⟨lw_limb limb_1_1 (fun args s t => by simp [limb_1_1, Cond.after, Cond.holds, Cond.value]), lw_limb limb_1_2 (fun args s t => Cond.after_iff.mpr (by
  first | (rw [show limb_1_2 = Cond.eq .result (.int 1) from rfl, Cond.eq_ints (x := 1) (y := 1) rfl rfl]; simp; done) | (simp [limb_1_2, Cond.value, Term.eval]; done)))⟩
