/-! the two objects as they are made -/
def LX (E : Ev) (b : Nat) : List va_E := [.inr (8, [.ref (b + 1), .ref (b + 10), .ref (b + 17), .ref (b + 20), .ref (b + 22), .ref (b + 27), .ref (b + 35), .ref (b + 36), .ref (b + 40), .ref (b + 41), .ref (b + 42), .int 0]), .inr (0, [.ref (b + 2), .ref (b + 3), .ref (b + 4), .ref (b + 5), .ref (b + 6), .ref (b + 7), .ref (b + 8), .ref (b + 9), .int 0]), .inl (E.2.1 0, 40, .inl (fun _ => 0)), .inl (E.2.1 0, 40, .inl (fun _ => 0)), .inl (E.2.1 0, 40, .inl (fun _ => 0)), .inl (E.2.1 0, 40, .inl (fun _ => 0)), .inl (E.2.1 0, 40, .inl (fun _ => 0)), .inl (E.2.1 0, 40, .inl (fun _ => 0)), .inl (E.2.1 0, 5, .inl (upd (upd (upd (upd (upd (fun _ => 0) 0 2) 1 2) 2 2) 3 2) 4 2)), .inl (E.2.1 0, 5, .inl (upd (upd (upd (upd (upd (fun _ => 0) 0 30) 1 30) 2 30) 3 30) 4 30)), .inr (7, [.ref (b + 11), .ref (b + 12), .ref (b + 13), .ref (b + 14), .ref (b + 15), .ref (b + 16), .int 0]), .inl (E.2.1 0, 40, .inl (fun _ => 0)), .inl (E.2.1 1, 40, .inl (fun _ => 0)), .inl (E.2.1 0, 40, .inl (fun _ => 0)), .inl (E.2.1 0, 40, .inl (fun _ => 0)), .inl (E.2.1 0, 40, .inl (fun _ => 0)), .inl (E.2.1 1, 40, .inl (fun _ => 0)), .inr (3, [.ref (b + 18), .ref (b + 19), .int 0, .int 0]), .inl (E.2.1 0, 12, .inl (fun _ => 0)), .inl (E.2.1 0, 12, .inl (fun _ => 0)), .inr (6, [.ref (b + 21), .int 0]), .inl (E.2.1 0, 80, .inl (fun _ => 0)), .inr (2, [.ref (b + 23), .ref (b + 24), .ref (b + 25), .ref (b + 26), .int 0]), .inl (E.2.1 0, 12, .inl (fun _ => 0)), .inl (E.2.1 0, 12, .inl (fun _ => 0)), .inl (E.2.1 0, 12, .inl (fun _ => 0)), .inl (E.2.1 0, 12, .inl (fun _ => 0)), .inr (1, [.ref (b + 28), .ref (b + 29), .ref (b + 30), .ref (b + 31), .ref (b + 32), .ref (b + 33), .ref (b + 34), .int 0, .int 0, .int 0, .int 0]), .inl (E.2.1 0, 6, .inl (fun _ => 0)), .inl (E.2.1 0, 6, .inl (fun _ => 0)), .inl (E.2.1 0, 6, .inl (fun _ => 0)), .inl (E.2.1 0, 6, .inl (fun _ => 0)), .inl (E.2.1 0, 6, .inl (fun _ => 0)), .inl (E.2.1 0, 6, .inl (fun _ => 0)), .inl (E.2.1 0, 6, .inl (fun _ => 0)), .inl (E.2.1 0, 5, .inl (upd (upd (upd (upd (upd (fun _ => 0) 0 4) 1 4) 2 4) 3 4) 4 4)), .inr (5, [.ref (b + 37), .ref (b + 38), .ref (b + 39)]), .inl (E.2.1 0, 6, .inl (fun _ => 0)), .inl (E.2.1 0, 6, .inl (fun _ => 0)), .inl (E.2.1 0, 6, .inl (fun _ => 0)), .inl (E.2.1 0, 4, .inl (fun _ => 0)), .inl (E.2.1 0, 4, .inl (fun _ => 0)), .inl (E.2.1 2, 4, .inr (.inr (.inr (.inr (va_up (va_up (va_up (va_up (fun _ => none) 0 (some (b + 43))) 1 (some (b + 45))) 2 (some (b + 47))) 3 (some (b + 49))))))), .inr (4, [.ref (b + 44), .int 0, .int 0]), .inl (E.2.1 0, 12, .inl (fun _ => 0)), .inr (4, [.ref (b + 46), .int 0, .int 0]), .inl (E.2.1 0, 12, .inl (fun _ => 0)), .inr (4, [.ref (b + 48), .int 0, .int 0]), .inl (E.2.1 0, 12, .inl (fun _ => 0)), .inr (4, [.ref (b + 50), .int 0, .int 0]), .inl (E.2.1 0, 12, .inl (fun _ => 0))]
def LY (E : Ev) (b : Nat) : List va_E := [.inr (9, [.int 0, .int 0, .ref (b + 1), .ref (b + 2), .ref (b + 3), .ref (b + 4), .ref (b + 5), .ref (b + 6), .ref (b + 7), .ref (b + 8), .int 0, .ref (b + 9), .ref (b + 10), .ref (b + 11), .ref (b + 12), .ref (b + 13), .ref (b + 14), .int 0, .ref (b + 15), .int 0, .ref (b + 16), .ref (b + 17), .ref (b + 18), .ref (b + 19), .ref (b + 20), .ref (b + 21), .ref (b + 22), .ref (b + 23), .ref (b + 24), .ref (b + 25), .ref (b + 26), .ref (b + 27), .ref (b + 28), .int 0, .int 0, .ref (b + 29), .ref (b + 30), .ref (b + 31), .int 0, .int 0, .ref (b + 32)]), .inl (E.2.1 0, 40, .inl (fun _ => 0)), .inl (E.2.1 0, 40, .inl (fun _ => 0)), .inl (E.2.1 0, 40, .inl (fun _ => 0)), .inl (E.2.1 0, 40, .inl (fun _ => 0)), .inl (E.2.1 0, 40, .inl (fun _ => 0)), .inl (E.2.1 0, 40, .inl (fun _ => 0)), .inl (E.2.1 0, 5, .inl (upd (upd (upd (upd (upd (fun _ => 0) 0 2) 1 2) 2 2) 3 2) 4 2)), .inl (E.2.1 0, 5, .inl (upd (upd (upd (upd (upd (fun _ => 0) 0 30) 1 30) 2 30) 3 30) 4 30)), .inl (E.2.1 0, 40, .inl (fun _ => 0)), .inl (E.2.1 1, 40, .inl (fun _ => 0)), .inl (E.2.1 0, 40, .inl (fun _ => 0)), .inl (E.2.1 0, 40, .inl (fun _ => 0)), .inl (E.2.1 0, 40, .inl (fun _ => 0)), .inl (E.2.1 1, 40, .inl (fun _ => 0)), .inl (E.2.1 0, 80, .inl (fun _ => 0)), .inl (E.2.1 0, 48, .inl (fun _ => 0)), .inl (E.2.1 0, 5, .inl (upd (upd (upd (upd (upd (fun _ => 0) 0 4) 1 4) 2 4) 3 4) 4 4)), .inl (E.2.1 0, 6, .inl (fun _ => 0)), .inl (E.2.1 0, 6, .inl (fun _ => 0)), .inl (E.2.1 0, 6, .inl (fun _ => 0)), .inl (E.2.1 0, 4, .inl (fun _ => 0)), .inl (E.2.1 0, 4, .inl (fun _ => 0)), .inl (E.2.1 0, 4, .inl (fun _ => 0)), .inl (E.2.1 0, 4, .inl (fun _ => 0)), .inl (E.2.1 0, 48, .inl (fun _ => 0)), .inl (E.2.1 1, 4096, .inl (fun _ => 0)), .inl (E.2.1 0, 4096, .inl (fun _ => 0)), .inl (E.2.1 0, 12, .inl (fun _ => 0)), .inl (E.2.1 0, 6, .inl (fun _ => 0)), .inl (E.2.1 0, 7, .inl (fun _ => 0)), .inl (E.2.1 0, 6, .inl (fun _ => 0)), .inl (E.2.1 0, 12, .inl (fun _ => 0))]
def aXl : List Nat := [0, 1, 10, 17, 20, 22, 27, 35, 36, 40, 41, 42, 2, 3, 4, 5, 6, 7, 8, 9, 11, 12, 13, 14, 15, 16, 18, 19, 21, 23, 24, 25, 26, 28, 29, 30, 31, 32, 33, 34, 37, 38, 39, 43, 45, 47, 49, 44, 46, 48, 50]
def aX (k : Nat) : Nat := aXl.getD k 0
def f5 (v : Int32) : Nat → Int32 := upd (upd (upd (upd (upd (fun _ => 0) 0 v) 1 v) 2 v) 3 v) 4 v
def h0 : Hp := fun k => if k = 7 then f5 4 else if k = 18 then f5 2 else if k = 19 then f5 30 else fun _ => 0
def g0 : Hp := fun k => if k = 17 then f5 4 else if k = 7 then f5 2 else if k = 8 then f5 30 else fun _ => 0
abbrev eX (D : va_G) (cA : Nat → ClassId) (b tA : Nat) : Ev := (D, cA, fun k => b + aX k, tA)
theorem aX_lt : ∀ k, k < 51 → aX k < 51 := by decide +kernel
theorem aX_inj : ∀ i, i < 51 → ∀ j, j < 51 → aX i = aX j → i = j := by decide +kernel
set_option maxRecDepth 100000 in
set_option maxHeartbeats 4000000 in
theorem made_X {D : va_G} {cA : Nat → ClassId} {b tA : Nat} : ∀ k, k < 51 → k ≠ 11 → (LX (eX D cA b tA) b)[aX k]? = some (cfX (eX D cA b tA) k (h0 k)) := by
  intro k hk h11
  match k, hk, h11 with
  | 0, _, _ => rfl
  | 1, _, _ => rfl
  | 2, _, _ => rfl
  | 3, _, _ => rfl
  | 4, _, _ => rfl
  | 5, _, _ => rfl
  | 6, _, _ => rfl
  | 7, _, _ => rfl
  | 8, _, _ => rfl
  | 9, _, _ => rfl
  | 10, _, _ => rfl
  | 11, _, h11 => exact absurd rfl h11
  | 12, _, _ => rfl
  | 13, _, _ => rfl
  | 14, _, _ => rfl
  | 15, _, _ => rfl
  | 16, _, _ => rfl
  | 17, _, _ => rfl
  | 18, _, _ => rfl
  | 19, _, _ => rfl
  | 20, _, _ => rfl
  | 21, _, _ => rfl
  | 22, _, _ => rfl
  | 23, _, _ => rfl
  | 24, _, _ => rfl
  | 25, _, _ => rfl
  | 26, _, _ => rfl
  | 27, _, _ => rfl
  | 28, _, _ => rfl
  | 29, _, _ => rfl
  | 30, _, _ => rfl
  | 31, _, _ => rfl
  | 32, _, _ => rfl
  | 33, _, _ => rfl
  | 34, _, _ => rfl
  | 35, _, _ => rfl
  | 36, _, _ => rfl
  | 37, _, _ => rfl
  | 38, _, _ => rfl
  | 39, _, _ => rfl
  | 40, _, _ => rfl
  | 41, _, _ => rfl
  | 42, _, _ => rfl
  | 43, _, _ => rfl
  | 44, _, _ => rfl
  | 45, _, _ => rfl
  | 46, _, _ => rfl
  | 47, _, _ => rfl
  | 48, _, _ => rfl
  | 49, _, _ => rfl
  | 50, _, _ => rfl
  | k + 51, hk, _ => exact absurd hk (by omega)
def fSh (b : Nat) : Nat → Option Nat := va_up (va_up (va_up (va_up (fun _ => none) 0 (some (b + 43))) 1 (some (b + 45))) 2 (some (b + 47))) 3 (some (b + 49))
theorem made_S {D : va_G} {cA : Nat → ClassId} {b tA : Nat} : (LX (eX D cA b tA) b)[aX 11]? = some (.inl (cA 2, 4, .inr (.inr (.inr (.inr (fSh b)))))) := rfl
theorem arrV_ext {cI : ClassId} {N : Nat} {f f' : Nat → Value} (h : ∀ j, j < N → f j = f' j) : arrV cI N f = arrV cI N f' := by
  have e : (fun j : Fin N => f j.val) = fun j : Fin N => f' j.val := funext (fun j => h j.val j.isLt)
  rw [arrV, arrV, e]
theorem cell_S {D : va_G} {cA : Nat → ClassId} {b tA : Nat} {H : Heap} (h : va_at D vwCl (b + aX 11, .inl (cA 2, 4, .inr (.inr (.inr (.inr (fSh b)))))) H) : va_at D vwCl (b + aX 11, cfX (eX D cA b tA) 11 (h0 11)) H := by
  have h1 : H[b + aX 11]? = some (arrV (cA 2) 4 (fun j => va_rf (fSh b j))) := h
  show H[b + aX 11]? = some (arrV (cA 2) 4 (fun j => va_rf (some (b + aX (43 + j)))))
  rw [h1, arrV_ext (fun j hj => ?_)]
  match j, hj with
  | 0, _ => rfl
  | 1, _ => rfl
  | 2, _ => rfl
  | 3, _ => rfl
  | j + 4, hj => exact absurd hj (by omega)
set_option maxRecDepth 100000 in
set_option maxHeartbeats 4000000 in
theorem made_Y {E : Ev} {b : Nat} : ∀ k, k < 33 → (LY E b)[k]? = some (cfY (eY E (fun k => b + k)) k (g0 k)) := by
  intro k hk
  match k, hk with
  | 0, _ => rfl
  | 1, _ => rfl
  | 2, _ => rfl
  | 3, _ => rfl
  | 4, _ => rfl
  | 5, _ => rfl
  | 6, _ => rfl
  | 7, _ => rfl
  | 8, _ => rfl
  | 9, _ => rfl
  | 10, _ => rfl
  | 11, _ => rfl
  | 12, _ => rfl
  | 13, _ => rfl
  | 14, _ => rfl
  | 15, _ => rfl
  | 16, _ => rfl
  | 17, _ => rfl
  | 18, _ => rfl
  | 19, _ => rfl
  | 20, _ => rfl
  | 21, _ => rfl
  | 22, _ => rfl
  | 23, _ => rfl
  | 24, _ => rfl
  | 25, _ => rfl
  | 26, _ => rfl
  | 27, _ => rfl
  | 28, _ => rfl
  | 29, _ => rfl
  | 30, _ => rfl
  | 31, _ => rfl
  | 32, _ => rfl
  | k + 33, hk => exact absurd hk (by omega)
theorem LX_len {E : Ev} {b : Nat} : (LX E b).length = 51 := rfl
theorem LY_len {E : Ev} {b : Nat} : (LY E b).length = 33 := rfl
theorem f5_at (v : Int32) (a : Nat) : f5 v a = v ∨ f5 v a = 0 := by
  simp only [f5, upd]
  split
  · exact Or.inl rfl
  · split
    · exact Or.inl rfl
    · split
      · exact Or.inl rfl
      · split
        · exact Or.inl rfl
        · split
          · exact Or.inl rfl
          · exact Or.inr rfl
theorem f5_lt (v : Int32) : ∀ k, k < 5 → f5 v k = v := by
  intro k hk
  match k, hk with
  | 0, _ => rfl
  | 1, _ => rfl
  | 2, _ => rfl
  | 3, _ => rfl
  | 4, _ => rfl
  | k + 5, hk => exact absurd hk (by omega)
theorem Bd_f5 {v m9 : Nat} (hv : v < m9) : Bd (f5 (nI v)) m9 := fun a => by
  rcases f5_at (nI v) a with e | e
  · exact ⟨v, hv, e⟩
  · exact ⟨0, by omega, e⟩
theorem Bd_0 {m9 : Nat} (h : 0 < m9) : Bd (fun _ => 0) m9 := fun _ => ⟨0, h, rfl⟩
theorem Rel_0 : Rel h0 g0 := by
  refine ⟨0, 0, 0, 0, ⟨rfl, rfl, by decide, rfl, rfl, rfl, rfl, rfl, rfl, rfl, rfl, ?_⟩, ⟨rfl, rfl, by decide, rfl, rfl, rfl, rfl, rfl, Bd_0 (by decide), Bd_0 (by decide), Bd_0 (by decide), fun _ _ => rfl, fun _ h => absurd h (Nat.not_lt_zero _)⟩, ⟨rfl, rfl, by decide, rfl, Bd_0 (by decide), rfl, rfl, by decide, fun _ h => absurd h (Nat.not_lt_zero _), fun _ h => absurd h (Nat.not_lt_zero _)⟩, ⟨rfl, rfl, rfl, rfl, rfl, rfl, fun k hk => ⟨4, by decide, by decide, f5_lt 4 k hk⟩⟩, ?_, rfl⟩
  · exact ⟨Bd_0 (by decide), Bd_0 (by decide), Bd_0 (by decide), Bd_0 (by decide), Bd_0 (by decide), Bd_f5 (v := 2) (by decide), Bd_f5 (v := 30) (by decide)⟩
  · intro j hj
    match j, hj with
    | 0, _ => exact ⟨rfl, rfl, ⟨0, by decide, rfl⟩, fun z => absurd rfl z⟩
    | 1, _ => exact ⟨rfl, rfl, ⟨0, by decide, rfl⟩, fun z => absurd rfl z⟩
    | 2, _ => exact ⟨rfl, rfl, ⟨0, by decide, rfl⟩, fun z => absurd rfl z⟩
    | 3, _ => exact ⟨rfl, rfl, ⟨0, by decide, rfl⟩, fun z => absurd rfl z⟩
    | j + 4, hj => exact absurd hj (by omega)
theorem made_P {D : va_G} {cA : Nat → ClassId} {b tA : Nat} {H : Heap} (hP : va_P D vwCl (mkL b (LX (eX D cA b tA) b ++ LY (eX D cA b tA) (b + 51))) H) : va_P D vwCl (mkW (wdL (eX D cA b tA) (fun k => b + 51 + k)) (jn h0 g0)) H := by
  intro k q hq
  rcases wL_inv hq with ⟨hk, rfl⟩ | ⟨j9, hj, rfl, rfl⟩
  · by_cases h11 : k = 11
    · subst h11
      refine cell_S (hP (aX 11) _ (mkL_at ?_))
      rw [List.getElem?_append_left (by rw [LX_len]; exact aX_lt 11 hk)]
      exact made_S
    · refine hP (aX k) _ (mkL_at ?_)
      rw [List.getElem?_append_left (by rw [LX_len]; exact aX_lt k hk)]
      exact made_X k hk h11
  · have e := mkL_at (b := b) (L := LX (eX D cA b tA) b ++ LY (eX D cA b tA) (b + 51)) (k := 51 + j9) (c := cfY (eY (eX D cA b tA) (fun k => b + 51 + k)) j9 (g0 j9)) (by
      rw [List.getElem?_append_right (by rw [LX_len]; omega), LX_len, Nat.add_sub_cancel_left]
      exact made_Y j9 hj)
    rw [← Nat.add_assoc] at e
    exact hP (51 + j9) _ e
theorem made_D {D : va_G} {cA : Nat → ClassId} {b tA : Nat} : va_D (fun q => b ≤ q) (mkW (wdL (eX D cA b tA) (fun k => b + 51 + k)) (jn h0 g0)) := by
  refine ⟨fun i j p q hp hq e => ?_, fun k q hq => ?_⟩
  · rcases wL_inv hp with ⟨hi, rfl⟩ | ⟨i9, hi, rfl, rfl⟩
    · rcases wL_inv hq with ⟨hj, rfl⟩ | ⟨j9, hj, rfl, rfl⟩
      · have e : b + aX i = b + aX j := e
        exact aX_inj i hi j hj (by omega)
      · have e : b + aX i = b + 51 + j9 := e
        have := aX_lt i hi
        omega
    · rcases wL_inv hq with ⟨hj, rfl⟩ | ⟨j9, hj, rfl, rfl⟩
      · have e : b + 51 + i9 = b + aX j := e
        have := aX_lt j hj
        omega
      · have e : b + 51 + i9 = b + 51 + j9 := e
        omega
  · rcases wL_inv hq with ⟨hk, rfl⟩ | ⟨j9, hj, rfl, rfl⟩
    · show b ≤ b + aX k
      omega
    · show b ≤ b + 51 + j9
      omega
