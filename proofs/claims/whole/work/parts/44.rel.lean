/-! the class's numbers and the reference's -/
theorem Cl_mono {d : Nat} {y : MethodName} {cc : ByteArray} {nL : Nat} {ret : Option FieldType} {E : Ev} {wd : Wd} {avs : List Value} {h : Hp} {post post' : Option Value → Hp → Prop} (hM : Cl d y cc nL ret E wd avs h post) (hi : ∀ r h', post r h' → post' r h') : Cl d y cc nL ret E wd avs h post' := by
  intro l sz p e ha hc hk s m args below hf hfit hP hK
  obtain ⟨n, oc, h1, h2, h3, ⟨⟨v, h', e1, e2, e3⟩, e4⟩, e5⟩ := hM l sz p e ha hc hk s m args below hf hfit hP hK
  exact ⟨n, oc, h1, h2, h3, ⟨⟨v, h', e1, hi v h' e2, e3⟩, e4⟩, e5⟩
def RA (h g : Hp) (nA : Nat) : Prop := h 1 8 = nI nA ∧ g 0 1 = nI nA ∧ nA ≤ 40 ∧ g 1 = h 12 ∧ g 2 = h 13 ∧ g 3 = h 14 ∧ g 4 = h 15 ∧ g 5 = h 16 ∧ g 6 = h 17 ∧ g 7 = h 18 ∧ g 8 = h 19 ∧ AB (h 12) (h 13) (h 14) (h 15) (h 16) (h 18) (h 19)
def RT (h g : Hp) (nA nT : Nat) : Prop := h 2 6 = nI nT ∧ g 0 10 = nI nT ∧ nT ≤ nA ∧ g 9 = h 20 ∧ g 10 = h 21 ∧ g 11 = h 22 ∧ g 12 = h 23 ∧ g 13 = h 24 ∧ Bd (h 20) 40 ∧ Bd (h 21) 2 ∧ Bd (h 24) 6 ∧ (∀ t, nT ≤ t → h 22 t = 0) ∧ (∀ t, t < nT → h 21 t = 0 → h 25 t = g 14 t)
def RD (h g : Hp) (nL nR : Nat) : Prop := h 4 1 = nI nL ∧ g 0 17 = nI nL ∧ nL ≤ 80 ∧ g 15 = h 28 ∧ Bd (h 28) 256 ∧ h 5 4 = nI nR ∧ g 0 19 = nI nR ∧ nR ≤ 12 ∧ TVX h nR ∧ (∀ r, r < nR → gvX h r = gvY (g 16) r ∧ sdX h r = sdY (g 16) r ∧ h 30 r = g 16 (4 * r + 1) ∧ h 31 r = g 16 (4 * r + 2) ∧ h 32 r = g 16 (4 * r + 3))
def RM (h g : Hp) : Prop := g 17 = h 7 ∧ g 18 = h 40 ∧ g 19 = h 41 ∧ g 20 = h 42 ∧ g 21 = h 9 ∧ g 22 = h 10 ∧ (∀ k, k < 5 → ∃ n, 1 ≤ n ∧ n ≤ 40 ∧ h 7 k = nI n)
def RS (h g : Hp) : Prop := ∀ j, j < 4 → h (43 + j) 1 = g 23 j ∧ h (43 + j) 2 = g 24 j ∧ (∃ n, n ≤ 12 ∧ h (43 + j) 2 = nI n) ∧ (¬ h (43 + j) 1 = 0 → ∀ i, i < 12 → h (47 + j) i = g 25 (12 * j + i))
def Rel (h g : Hp) : Prop := ∃ nA nT nL nR : Nat, RA h g nA ∧ RT h g nA nT ∧ RD h g nL nR ∧ RM h g ∧ RS h g ∧ h 0 11 = g 0 0
/-- what the places below hold, and nothing else, matters -/
theorem Rel_cong {h h2 g g2 : Hp} (hR : Rel h g) (e0 : h2 0 11 = h 0 11 ∨ h2 0 11 = g2 0 0) (e1 : h2 1 8 = h 1 8) (e2 : h2 2 6 = h 2 6) (e4 : h2 4 1 = h 4 1) (e5 : h2 5 4 = h 5 4) (ek : ∀ k, (k = 7 ∨ k = 9 ∨ k = 10 ∨ (12 ≤ k ∧ k ≤ 25) ∨ (28 ≤ k ∧ k ≤ 32) ∨ (40 ≤ k)) → h2 k = h k) (f0 : g2 0 0 = g 0 0 ∨ h2 0 11 = g2 0 0) (f1 : g2 0 1 = g 0 1) (f2 : g2 0 10 = g 0 10) (f3 : g2 0 17 = g 0 17) (f4 : g2 0 19 = g 0 19) (fk : ∀ k, 1 ≤ k → k ≤ 25 → g2 k = g k) : Rel h2 g2 := by
  obtain ⟨nA, nT, nL, nR, hA, hT, hD, hM, hS, hf⟩ := hR
  refine ⟨nA, nT, nL, nR, ?_, ?_, ?_, ?_, ?_, ?_⟩
  · simp only [RA] at hA ⊢
    rw [e1, f1, fk 1 (by omega) (by omega), fk 2 (by omega) (by omega), fk 3 (by omega) (by omega), fk 4 (by omega) (by omega), fk 5 (by omega) (by omega), fk 6 (by omega) (by omega), fk 7 (by omega) (by omega), fk 8 (by omega) (by omega), ek 12 (by omega), ek 13 (by omega), ek 14 (by omega), ek 15 (by omega), ek 16 (by omega), ek 17 (by omega), ek 18 (by omega), ek 19 (by omega)]
    exact hA
  · simp only [RT] at hT ⊢
    rw [e2, f2, fk 9 (by omega) (by omega), fk 10 (by omega) (by omega), fk 11 (by omega) (by omega), fk 12 (by omega) (by omega), fk 13 (by omega) (by omega), fk 14 (by omega) (by omega), ek 20 (by omega), ek 21 (by omega), ek 22 (by omega), ek 23 (by omega), ek 24 (by omega), ek 25 (by omega)]
    exact hT
  · have e29 := ek 29 (by omega)
    have egv : gvX h2 = gvX h := by funext r; show decide (h2 29 r = 97) = _; rw [e29]
    have esd : sdX h2 = sdX h := by funext r; show decide (h2 29 r = 115) = _; rw [e29]
    simp only [RD, TVX] at hD ⊢
    rw [egv, esd, e4, f3, e5, f4, fk 15 (by omega) (by omega), fk 16 (by omega) (by omega), ek 28 (by omega), ek 30 (by omega), ek 31 (by omega), ek 32 (by omega)]
    exact hD
  · simp only [RM] at hM ⊢
    rw [fk 17 (by omega) (by omega), fk 18 (by omega) (by omega), fk 19 (by omega) (by omega), fk 20 (by omega) (by omega), fk 21 (by omega) (by omega), fk 22 (by omega) (by omega), ek 7 (by omega), ek 40 (by omega), ek 41 (by omega), ek 42 (by omega), ek 9 (by omega), ek 10 (by omega)]
    exact hM
  · intro j hj
    have := hS j hj
    rw [fk 23 (by omega) (by omega), fk 24 (by omega) (by omega), fk 25 (by omega) (by omega), ek (43 + j) (by omega), ek (47 + j) (by omega)]
    exact this
  · rcases e0 with e0 | e0
    · rcases f0 with f0 | f0
      · rw [e0, f0, hf]
      · exact f0
    · exact e0
theorem Rel_fi {h g : Hp} (hR : Rel h g) : Rel (fiX h) (fiY g) := by
  have hf : h 0 11 = g 0 0 := by obtain ⟨_, _, _, _, -, -, -, -, -, hf⟩ := hR; exact hf
  refine Rel_cong hR (Or.inr ?_) ?_ ?_ ?_ ?_ ?_ (Or.inr ?_) ?_ ?_ ?_ ?_ ?_
  · rw [fiX, fiY, put_s, put_s, hf]
  · rw [fiX, put_n (by decide)]
  · rw [fiX, put_n (by decide)]
  · rw [fiX, put_n (by decide)]
  · rw [fiX, put_n (by decide)]
  · intro k hk
    rw [fiX, put_n (by omega)]
  · rw [fiX, fiY, put_s, put_s, hf]
  · rw [fiY, put_i (by decide)]
  · rw [fiY, put_i (by decide)]
  · rw [fiY, put_i (by decide)]
  · rw [fiY, put_i (by decide)]
  · intro k h1 h2
    rw [fiY, put_n (by omega)]
/-- what 'went' holds is nobody's -/
theorem Rel_went {h g : Hp} {v : Int32} (hR : Rel h g) : Rel h (put g 0 33 v) := by
  refine Rel_cong hR (Or.inl rfl) rfl rfl rfl rfl (fun _ _ => rfl) (Or.inl ?_) ?_ ?_ ?_ ?_ ?_
  · rw [put_i (by decide)]
  · rw [put_i (by decide)]
  · rw [put_i (by decide)]
  · rw [put_i (by decide)]
  · rw [put_i (by decide)]
  · intro k h1 h2
    rw [put_n (by omega)]
/-- a call on both: the same answer, and the numbers still agree -/
def OP (yX : MethodName) (cX : ByteArray) (nX : Nat) (yY : MethodName) (cY : ByteArray) (nY : Nat) (E E2 : Ev) (avs : List Value) (h g : Hp) : Prop :=
  ∃ (v : Int32) (Qx : Hp → Prop), Cl 40 yX cX nX (some .int) E (wdX E) (.ref (E.2.2.1 0) :: avs) h (fun r h' => r = some (.int v) ∧ Qx h') ∧ Cl 40 yY cY nY (some .int) E2 (wdY E2) (.ref (E2.2.2.1 0) :: avs) g (fun r g' => r = some (.int v) ∧ ∀ h', Qx h' → Rel h' g')
theorem OP_of {yX : MethodName} {cX : ByteArray} {nX : Nat} {yY : MethodName} {cY : ByteArray} {nY : Nat} {E E2 : Ev} {avs : List Value} {h g h2 g2 : Hp} {v v2 : Int32} (a : Cl 40 yX cX nX (some .int) E (wdX E) (.ref (E.2.2.1 0) :: avs) h (Rt (some (.int v)) h2)) (b : Cl 40 yY cY nY (some .int) E2 (wdY E2) (.ref (E2.2.2.1 0) :: avs) g (Rt (some (.int v2)) g2)) (hv : v2 = v) (hR : Rel h2 g2) : OP yX cX nX yY cY nY E E2 avs h g := by
  subst hv
  exact ⟨v2, fun h' => h' = h2, Cl_mono a (fun r h' z => ⟨z.1, z.2⟩), Cl_mono b (fun r g' z => ⟨z.1, fun h' e => by rw [e, z.2]; exact hR⟩)⟩
theorem Rel_if {c c2 : Prop} [Decidable c] [Decidable c2] {h1 h2 g1 g2 : Hp} (e : c2 ↔ c) (a : c → Rel h1 g1) (b : ¬ c → Rel h2 g2) : Rel (if c then h1 else h2) (if c2 then g1 else g2) := by
  by_cases z : c
  · rw [if_pos z, if_pos (e.mpr z)]; exact a z
  · rw [if_neg z, if_neg (fun q => z (e.mp q))]; exact b z
