abbrev MY (h : Hp) (fr : Nat) : Nat → Nat → Bool := fun a b => mtB (h 1) (h 2) (h 3) (h 4) (h 5) (h 7) (h 8) (fr + a) (fr + b)
theorem MY_sym (h : Hp) (fr a b : Nat) : MY h fr a b = MY h fr b a := mtB_sym _ _ _ _ _ _ _ _ _
/-- what is known of the sets below s -/
def SF (M : Nat → Nat → Bool) (n s : Nat) (h h1 : Hp) : Prop := (∀ u, u < s → (∃ v : Bool, h1 26 u = bI v ∧ (v = true ↔ clq M u)) ∧ ∃ k9, h1 27 u = nI k9 ∧ FwS M u k9) ∧ (∀ a, a < n → h1 28 a = nI (mY M a n)) ∧ ∀ j9, j9 ≠ 26 → j9 ≠ 27 → j9 ≠ 28 → h1 j9 = h j9
theorem SF_1 {M : Nat → Nat → Bool} {n : Nat} {h : Hp} {f : Nat → Int32} (hI : ∀ a, a < n → f a = nI (mY M a n)) : SF M n 1 h (put (put (up2 h 28 f) 26 0 1) 27 0 0) := by
  refine ⟨fun u hu => ?_, fun a ha => ?_, fun j9 h1 h2 h3 => ?_⟩
  · obtain rfl : u = 0 := by omega
    refine ⟨⟨true, ?_, ⟨fun _ => clq_0 M, fun _ => rfl⟩⟩, 0, ?_, FwS_0 M⟩
    · rw [put_n (by decide), put_s]; rfl
    · rw [put_s]; rfl
  · rw [put_n (by decide), put_n (by decide), up2_s]; exact hI a ha
  · rw [put_n h2, put_n h1, up2_n h3]
theorem SF_up {M : Nat → Nat → Bool} {n s b : Nat} {h h1 : Hp} {v : Bool} (hS : SF M n s h h1) (hv : v = true ↔ clq M s) (hb : FwS M s b) : SF M n (s + 1) h (put (put h1 26 s (bI v)) 27 s (nI b)) := by
  obtain ⟨s1, s2, s3⟩ := hS
  refine ⟨fun u hu => ?_, fun a ha => ?_, fun j9 h1 h2 h3 => ?_⟩
  · by_cases e : u = s
    · subst e
      refine ⟨⟨v, ?_, hv⟩, b, put_s, hb⟩
      rw [put_n (by decide), put_s]
    · obtain ⟨⟨v', x1, x2⟩, k9, x3, x4⟩ := s1 u (by omega)
      refine ⟨⟨v', ?_, x2⟩, k9, ?_, x4⟩
      · rw [put_n (by decide), put_i e]; exact x1
      · rw [put_i e, put_n (by decide)]; exact x3
  · rw [put_n (by decide), put_n (by decide)]; exact s2 a ha
  · rw [put_n h2, put_n h1]; exact s3 j9 h1 h2 h3
theorem mY_y {M : Nat → Nat → Bool} {f2 : Nat → Int32} {a j9 : Nat} (hj : j9 < 13) (h0 : f2 a = nI (mY M a j9)) (hne : ¬ nI a = nI j9) (hm : M a j9 = true) : upd f2 a (f2 a ||| ((1 : Int32) <<< (nI j9 &&& 31))) a = nI (mY M a (j9 + 1)) := by
  have hn : ¬ a = j9 := fun z => hne (by rw [z])
  rw [pk_us, h0, sl12 j9 hj, nI_or, mY, mY, mk2, if_pos (by rw [decide_eq_false hn, hm]; rfl), Nat.or_assoc]
theorem mY_n {M : Nat → Nat → Bool} {f2 : Nat → Int32} {a j9 : Nat} (h0 : f2 a = nI (mY M a j9)) (hm : (!decide (a = j9) && M a j9) = false) : upd f2 a (f2 a ||| 0) a = nI (mY M a (j9 + 1)) := by
  rw [pk_us, h0, show (0 : Int32) = nI 0 from rfl, nI_or, Nat.or_zero, mY, mY, mk2_n hm]

set_option maxHeartbeats 4000000 in
set_option maxRecDepth 100000 in
theorem k_X9_fewest {d : Nat} {E : Ev} {nA : Nat} {f n : Int32} {h : Hp} (hd : 3 ≤ d) (hc : h 0 1 = nI nA) (hA : nA ≤ 40) (hB : AB (h 1) (h 2) (h 3) (h 4) (h 5) (h 7) (h 8)) : Cl d yX9_fewest cX9_fewest 11 (some .int) E (wdY E) [.ref (E.2.2.1 0), .int f, .int n] h (PW (MY h) nA f n h (fiY h) (fun j9 => decide (j9 = 26) || decide (j9 = 27) || decide (j9 = 28))) := by
  refine Cl_of [some (.ref (E.2.2.1 0)), some (.int f), some (.int n), none, none, none, none, none, none, none, none] (by decide) rfl (Nat.le_of_ble_eq_true rfl) (fun K A X hQ => ?_)
  refine P_iload1 X 1 dX9_fewest_0 rfl ?_
  refine P_if_lt X 26 4 dX9_fewest_1 rfl rfl (fun b1 => ?_) (fun b1 => ?_)
  · refine P_aload0 X 27 dX9_fewest_26 rfl ?_
    refine P_ldc X kc_X9_144 29 dX9_fewest_27 rfl ?_
    refine V1r X 0 32 dX9_fewest_29 rfl lk_X9_145 mv_X9_finding rfl (by omega) (Nat.le_of_ble_eq_true rfl) (Nat.le_of_ble_eq_true rfl) rfl rfl (k_X9_finding (by omega)) ?_
    exact P_iret X hQ dX9_fewest_32 (Or.inl ⟨okW_f hA b1, rfl, rfl⟩)
  · refine P_iload2 X 5 dX9_fewest_4 rfl ?_
    refine P_if_lt X 26 8 dX9_fewest_5 rfl rfl (fun b5 => ?_) (fun b5 => ?_)
    · refine P_aload0 X 27 dX9_fewest_26 rfl ?_
      refine P_ldc X kc_X9_144 29 dX9_fewest_27 rfl ?_
      refine V1r X 0 32 dX9_fewest_29 rfl lk_X9_145 mv_X9_finding rfl (by omega) (Nat.le_of_ble_eq_true rfl) (Nat.le_of_ble_eq_true rfl) rfl rfl (k_X9_finding (by omega)) ?_
      exact P_iret X hQ dX9_fewest_32 (Or.inl ⟨okW_n hA b5, rfl, rfl⟩)
    · refine P_iload2 X 9 dX9_fewest_8 rfl ?_
      refine P_aload0 X 10 dX9_fewest_9 rfl ?_
      refine gY_0_1 X 13 dX9_fewest_10 rfl fl_X9_115 ?_
      refine P_top hc ?_
      refine P_icmp_gt X 26 16 dX9_fewest_13 rfl rfl (fun b13 => ?_) (fun b13 => ?_)
      · refine P_aload0 X 27 dX9_fewest_26 rfl ?_
        refine P_ldc X kc_X9_144 29 dX9_fewest_27 rfl ?_
        refine V1r X 0 32 dX9_fewest_29 rfl lk_X9_145 mv_X9_finding rfl (by omega) (Nat.le_of_ble_eq_true rfl) (Nat.le_of_ble_eq_true rfl) rfl rfl (k_X9_finding (by omega)) ?_
        exact P_iret X hQ dX9_fewest_32 (Or.inl ⟨okW_4 hA b13, rfl, rfl⟩)
      · refine P_iload1 X 17 dX9_fewest_16 rfl ?_
        refine P_aload0 X 18 dX9_fewest_17 rfl ?_
        refine gY_0_1 X 21 dX9_fewest_18 rfl fl_X9_115 ?_
        refine P_top hc ?_
        refine P_iload2 X 22 dX9_fewest_21 rfl ?_
        refine P_isub X 23 dX9_fewest_22 rfl ?_
        refine P_icmp_le X 33 26 dX9_fewest_23 rfl rfl (fun b23 => ?_) (fun b23 => ?_)
        · obtain ⟨fr, m9, rfl, rfl, hle⟩ := okW_6 hA b1 b5 b23
          refine P_iload2 X 34 dX9_fewest_33 rfl ?_
          refine P_bipush X (12) rfl 36 dX9_fewest_34 rfl ?_
          refine P_icmp_le X 46 39 dX9_fewest_36 rfl rfl (fun b36 => ?_) (fun b36 => ?_)
          · have h12 : m9 ≤ 12 := (nI_leI (b := 12) (by omega) (by decide)).mp b36
            have hp12 := p12 h12
            have hp1 : 1 ≤ 2 ^ m9 := Nat.two_pow_pos _
            have E311 : ∀ (h1 : Hp) (o4 o5 o6 o7 o8 o9 o10 : Option Value), SF (MY h fr) m9 (2 ^ m9) h h1 → GW K 11 E (wdY E) A 311 [some (.ref (E.2.2.1 0)), some (.int (nI fr)), some (.int (nI m9)), some (.int (nI (2 ^ m9))), o4, o5, o6, o7, o8, o9, o10] [] h1 := by
              intro h1 o4 o5 o6 o7 o8 o9 o10 hSE
              obtain ⟨-, k9, hk1, hk2⟩ := hSE.1 (2 ^ m9 - 1) (by omega)
              refine P_aload0 X 312 dX9_fewest_311 rfl ?_
              refine gY_0_31 X 315 dX9_fewest_312 rfl fl_X9_89 ?_
              refine P_iconst X (1) rfl 316 dX9_fewest_315 rfl ?_
              refine P_iload2 X 317 dX9_fewest_316 rfl ?_
              refine P_ishl X 318 dX9_fewest_317 rfl ?_
              refine P_iconst X (1) rfl 319 dX9_fewest_318 rfl ?_
              refine P_isub X 320 dX9_fewest_319 rfl ?_
              rw [sl12 m9 (by omega), show nI (2 ^ m9) - 1 = nI (2 ^ m9 - 1) from pk_sub (b := 1) hp1]
              refine lY_27 X 321 dX9_fewest_320 rfl rfl (by omega) ?_
              refine P_top hk1 ?_
              exact P_iret X hQ dX9_fewest_321 (Or.inr (Or.inr ⟨fr, m9, rfl, rfl, hle, h12, k9, rfl, Fw_of hk2, (fun j9 hj => by simp only [Bool.or_eq_false_iff, decide_eq_false_iff_not] at hj; exact hSE.2.2 j9 hj.1.1 hj.1.2 hj.2)⟩))
            have L : ∀ (m s : Nat) (h1 : Hp) (o4 o5 o6 o7 o8 o9 o10 : Option Value), s + m = 2 ^ m9 → (SF (MY h fr) m9 s h h1) → (1 ≤ s) → GW K 11 E (wdY E) A 136 [some (.ref (E.2.2.1 0)), some (.int (nI fr)), some (.int (nI m9)), some (.int (nI s)), o4, o5, o6, o7, o8, o9, o10] [] h1 := by
              intro m
              induction m with
              | zero =>
                intro s h1 o4 o5 o6 o7 o8 o9 o10 hm hI0 hI1
                refine P_iload3 X 137 dX9_fewest_136 rfl ?_
                refine P_iconst X (1) rfl 138 dX9_fewest_137 rfl ?_
                refine P_iload2 X 139 dX9_fewest_138 rfl ?_
                refine P_ishl X 140 dX9_fewest_139 rfl ?_
                refine P_icmp_ge X 311 143 dX9_fewest_140 rfl rfl (fun b140 => ?_) (fun b140 => ?_)
                · obtain rfl : s = 2 ^ m9 := by omega
                  exact E311 h1 _ _ _ _ _ _ _ hI0
                · exact (geN (sl12 m9 (by omega)) b140 (by omega) (by omega)).elim
              | succ m ih =>
                intro s h1 o4 o5 o6 o7 o8 o9 o10 hm hI0 hI1
                refine P_iload3 X 137 dX9_fewest_136 rfl ?_
                refine P_iconst X (1) rfl 138 dX9_fewest_137 rfl ?_
                refine P_iload2 X 139 dX9_fewest_138 rfl ?_
                refine P_ishl X 140 dX9_fewest_139 rfl ?_
                refine P_icmp_ge X 311 143 dX9_fewest_140 rfl rfl (fun b140 => ?_) (fun b140 => ?_)
                · exact (geY (sl12 m9 (by omega)) b140 (by omega) (by omega)).elim
                · have hs12 : s < 4096 := by omega
                  obtain ⟨lo9, hl1, hl2⟩ := tb_low (s := s) (by omega)
                  have hl12 := tb_12 hs12 hl1
                  have hln := tb_n (n := m9) (by omega) hl1
                  have hrl := rs_lt hs12 hl1
                  have hr31 : rs s lo9 < 2 ^ 31 := by omega
                  have E218 : ∀ (vv : Bool), (vv = true ↔ clq (MY h fr) s) → ∀ (mq pp bb : Nat) (o9 o10 : Option Value), pp ≤ mq → sbs pp (rs s lo9) → JI (MY h fr) s lo9 (fun q => pp < q) bb → GW K 11 E (wdY E) A 218 [some (.ref (E.2.2.1 0)), some (.int (nI fr)), some (.int (nI m9)), some (.int (nI s)), some (.int (nI lo9)), some (.int (nI (rs s lo9))), some (.int (nI bb)), some (.int (nI pp)), some (.int 1), o9, o10] [] (put h1 26 s (bI vv)) := by
                    intro vv hvv mq
                    induction mq with
                    | zero =>
                      intro pp bb o9 o10 hpm hps hJ
                      have hple := le_sbs hps
                      have hJ100 := hJ.1
                      have hos := own_sub hs12 hl1 hps
                      have hole := le_sbs hos
                      have houl := out_lt (q := pp) hs12 hl1
                      obtain ⟨-, k9, hk1, hk2⟩ := hI0.1 _ houl
                      have hk12 := FwS_12 (by omega) hk2
                      have hown : ∃ v2 : Bool, (put h1 26 s (bI vv)) 26 (pp ||| 2 ^ lo9) = bI v2 ∧ (v2 = true ↔ clq (MY h fr) (pp ||| 2 ^ lo9)) := by
                        by_cases e : pp ||| 2 ^ lo9 = s
                        · rw [e]; exact ⟨vv, put_s, hvv⟩
                        · obtain ⟨⟨v2, y1, y2⟩, -⟩ := hI0.1 (pp ||| 2 ^ lo9) (by omega)
                          exact ⟨v2, by rw [put_i e]; exact y1, y2⟩
                      obtain ⟨v2, hv1, hv2⟩ := hown
                      have E271 : ∀ b2 : Nat, JI (MY h fr) s lo9 (fun q => pp ≤ q) b2 → GW K 11 E (wdY E) A 271 [some (.ref (E.2.2.1 0)), some (.int (nI fr)), some (.int (nI m9)), some (.int (nI s)), some (.int (nI lo9)), some (.int (nI (rs s lo9))), some (.int (nI bb)), some (.int (nI pp)), some (.int 1), some (.int (nI (pp ||| 2 ^ lo9))), some (.int (nI (1 + k9)))] [.int (nI b2)] (put h1 26 s (bI vv)) := by
                        intro b2 hJ2
                        refine P_istore6 X 273 dX9_fewest_271 rfl (by decide) rfl ?_
                        refine P_iload7 X 275 dX9_fewest_273 rfl ?_
                        refine P_if_eq X 282 278 dX9_fewest_275 rfl rfl (fun b275 => ?_) (fun b275 => ?_)
                        · refine P_iconst X (0) rfl 283 dX9_fewest_282 rfl ?_
                          refine P_istore8 X 285 dX9_fewest_283 rfl (by decide) rfl ?_
                          refine P_iload7 X 287 dX9_fewest_285 rfl ?_
                          refine P_iconst X (1) rfl 288 dX9_fewest_287 rfl ?_
                          refine P_isub X 289 dX9_fewest_288 rfl ?_
                          refine P_iload5 X 291 dX9_fewest_289 rfl ?_
                          refine P_iand X 292 dX9_fewest_291 rfl ?_
                          refine P_istore7 X 294 dX9_fewest_292 rfl (by decide) rfl ?_
                          refine P_goto X 218 dX9_fewest_294 rfl ?_
                          have hp0 : pp = 0 := (nI_eq (b := 0) (by omega) (by decide)).mp b275
                          rw [hp0] at hJ2
                          refine P_iload8 X 220 dX9_fewest_218 rfl ?_
                          refine P_if_eq X 297 223 dX9_fewest_220 rfl rfl (fun b220 => ?_) (fun b220 => absurd b220 (by decide))
                          refine P_aload0 X 298 dX9_fewest_297 rfl ?_
                          refine gY_0_31 X 301 dX9_fewest_298 rfl fl_X9_89 ?_
                          refine P_iload3 X 302 dX9_fewest_301 rfl ?_
                          refine P_iload6 X 304 dX9_fewest_302 rfl ?_
                          refine sY_27 X 305 dX9_fewest_304 rfl rfl (by omega) ?_
                          refine P_iinc3 X (1) rfl 308 dX9_fewest_305 rfl (by decide) rfl ?_
                          refine P_goto X 136 dX9_fewest_308 rfl ?_
                          rw [nI_1]
                          exact ih (s + 1) _ _ _ _ _ _ _ _ (by omega) (SF_up hI0 hvv (JI_end hs12 hl1 hl2 (fun u hu => by obtain ⟨-, k9, -, z9⟩ := hI0.1 u hu; exact ⟨k9, z9⟩) hJ2)) (by omega)
                        · refine P_iconst X (1) rfl 279 dX9_fewest_278 rfl ?_
                          refine P_goto X 283 dX9_fewest_279 rfl ?_
                          refine P_istore8 X 285 dX9_fewest_283 rfl (by decide) rfl ?_
                          refine P_iload7 X 287 dX9_fewest_285 rfl ?_
                          refine P_iconst X (1) rfl 288 dX9_fewest_287 rfl ?_
                          refine P_isub X 289 dX9_fewest_288 rfl ?_
                          refine P_iload5 X 291 dX9_fewest_289 rfl ?_
                          refine P_iand X 292 dX9_fewest_291 rfl ?_
                          refine P_istore7 X 294 dX9_fewest_292 rfl (by decide) rfl ?_
                          refine P_goto X 218 dX9_fewest_294 rfl ?_
                          exfalso
                          exact b275 (by rw [show pp = 0 by omega]; rfl)
                      refine P_iload8 X 220 dX9_fewest_218 rfl ?_
                      refine P_if_eq X 297 223 dX9_fewest_220 rfl rfl (fun b220 => absurd b220 (by decide)) (fun b220 => ?_)
                      refine P_iload7 X 225 dX9_fewest_223 rfl ?_
                      refine P_iconst X (1) rfl 226 dX9_fewest_225 rfl ?_
                      refine P_iload4 X 228 dX9_fewest_226 rfl ?_
                      refine P_ishl X 229 dX9_fewest_228 rfl ?_
                      refine P_ior X 230 dX9_fewest_229 rfl ?_
                      rw [sl12 lo9 (by omega), nI_or]
                      refine P_istore9 X 232 dX9_fewest_230 rfl (by decide) rfl ?_
                      refine P_iconst X (1) rfl 233 dX9_fewest_232 rfl ?_
                      refine P_aload0 X 234 dX9_fewest_233 rfl ?_
                      refine gY_0_31 X 237 dX9_fewest_234 rfl fl_X9_89 ?_
                      refine P_iload3 X 238 dX9_fewest_237 rfl ?_
                      refine P_iload9 X 240 dX9_fewest_238 rfl ?_
                      refine P_iconst X (-1) rfl 241 dX9_fewest_240 rfl ?_
                      refine P_ixor X 242 dX9_fewest_241 rfl ?_
                      refine P_iand X 243 dX9_fewest_242 rfl ?_
                      rw [nI_an]
                      refine lY_27 X 244 dX9_fewest_243 rfl rfl (by omega) ?_
                      refine P_top (y := nI k9) (by rw [put_n (by decide)]; exact hk1) ?_
                      refine P_iadd X 245 dX9_fewest_244 rfl ?_
                      rw [show (1 : Int32) + nI k9 = nI (1 + k9) from nI_add 1 k9]
                      refine P_istore10 X 247 dX9_fewest_245 rfl (by decide) rfl ?_
                      refine P_aload0 X 248 dX9_fewest_247 rfl ?_
                      refine gY_0_30 X 251 dX9_fewest_248 rfl fl_X9_86 ?_
                      refine P_iload9 X 253 dX9_fewest_251 rfl ?_
                      refine lY_26 X 254 dX9_fewest_253 rfl rfl (by omega) ?_
                      refine P_top hv1 ?_
                      refine P_bz X 269 257 dX9_fewest_254 rfl rfl (fun b254 => ?_) (fun b254 => ?_)
                      · refine P_iload6 X 271 dX9_fewest_269 rfl ?_
                        exact E271 bb (JI_n hJ hk2 (Or.inl (fun z => by rw [hv2.mpr z] at b254; cases b254)))
                      · refine P_iload10 X 259 dX9_fewest_257 rfl ?_
                        refine P_iload6 X 261 dX9_fewest_259 rfl ?_
                        refine P_icmp_ge X 269 264 dX9_fewest_261 rfl rfl (fun b261 => ?_) (fun b261 => ?_)
                        · refine P_iload6 X 271 dX9_fewest_269 rfl ?_
                          first | exact E271 bb (JI_n hJ hk2 (Or.inr ((nI_leI (by omega) (by omega)).mp b261))) | exact E271 (1 + k9) (JI_y hJ hps hk2 (hv2.mp b254) (Nat.lt_of_not_le (fun z => b261 (nI_le z (by omega)))))
                        · refine P_iload10 X 266 dX9_fewest_264 rfl ?_
                          refine P_goto X 271 dX9_fewest_266 rfl ?_
                          first | exact E271 bb (JI_n hJ hk2 (Or.inr ((nI_leI (by omega) (by omega)).mp b261))) | exact E271 (1 + k9) (JI_y hJ hps hk2 (hv2.mp b254) (Nat.lt_of_not_le (fun z => b261 (nI_le z (by omega)))))
                    | succ mq ihq =>
                      intro pp bb o9 o10 hpm hps hJ
                      have hple := le_sbs hps
                      have hJ100 := hJ.1
                      have hos := own_sub hs12 hl1 hps
                      have hole := le_sbs hos
                      have houl := out_lt (q := pp) hs12 hl1
                      obtain ⟨-, k9, hk1, hk2⟩ := hI0.1 _ houl
                      have hk12 := FwS_12 (by omega) hk2
                      have hown : ∃ v2 : Bool, (put h1 26 s (bI vv)) 26 (pp ||| 2 ^ lo9) = bI v2 ∧ (v2 = true ↔ clq (MY h fr) (pp ||| 2 ^ lo9)) := by
                        by_cases e : pp ||| 2 ^ lo9 = s
                        · rw [e]; exact ⟨vv, put_s, hvv⟩
                        · obtain ⟨⟨v2, y1, y2⟩, -⟩ := hI0.1 (pp ||| 2 ^ lo9) (by omega)
                          exact ⟨v2, by rw [put_i e]; exact y1, y2⟩
                      obtain ⟨v2, hv1, hv2⟩ := hown
                      have E271 : ∀ b2 : Nat, JI (MY h fr) s lo9 (fun q => pp ≤ q) b2 → GW K 11 E (wdY E) A 271 [some (.ref (E.2.2.1 0)), some (.int (nI fr)), some (.int (nI m9)), some (.int (nI s)), some (.int (nI lo9)), some (.int (nI (rs s lo9))), some (.int (nI bb)), some (.int (nI pp)), some (.int 1), some (.int (nI (pp ||| 2 ^ lo9))), some (.int (nI (1 + k9)))] [.int (nI b2)] (put h1 26 s (bI vv)) := by
                        intro b2 hJ2
                        refine P_istore6 X 273 dX9_fewest_271 rfl (by decide) rfl ?_
                        refine P_iload7 X 275 dX9_fewest_273 rfl ?_
                        refine P_if_eq X 282 278 dX9_fewest_275 rfl rfl (fun b275 => ?_) (fun b275 => ?_)
                        · refine P_iconst X (0) rfl 283 dX9_fewest_282 rfl ?_
                          refine P_istore8 X 285 dX9_fewest_283 rfl (by decide) rfl ?_
                          refine P_iload7 X 287 dX9_fewest_285 rfl ?_
                          refine P_iconst X (1) rfl 288 dX9_fewest_287 rfl ?_
                          refine P_isub X 289 dX9_fewest_288 rfl ?_
                          refine P_iload5 X 291 dX9_fewest_289 rfl ?_
                          refine P_iand X 292 dX9_fewest_291 rfl ?_
                          refine P_istore7 X 294 dX9_fewest_292 rfl (by decide) rfl ?_
                          refine P_goto X 218 dX9_fewest_294 rfl ?_
                          have hp0 : pp = 0 := (nI_eq (b := 0) (by omega) (by decide)).mp b275
                          rw [hp0] at hJ2
                          refine P_iload8 X 220 dX9_fewest_218 rfl ?_
                          refine P_if_eq X 297 223 dX9_fewest_220 rfl rfl (fun b220 => ?_) (fun b220 => absurd b220 (by decide))
                          refine P_aload0 X 298 dX9_fewest_297 rfl ?_
                          refine gY_0_31 X 301 dX9_fewest_298 rfl fl_X9_89 ?_
                          refine P_iload3 X 302 dX9_fewest_301 rfl ?_
                          refine P_iload6 X 304 dX9_fewest_302 rfl ?_
                          refine sY_27 X 305 dX9_fewest_304 rfl rfl (by omega) ?_
                          refine P_iinc3 X (1) rfl 308 dX9_fewest_305 rfl (by decide) rfl ?_
                          refine P_goto X 136 dX9_fewest_308 rfl ?_
                          rw [nI_1]
                          exact ih (s + 1) _ _ _ _ _ _ _ _ (by omega) (SF_up hI0 hvv (JI_end hs12 hl1 hl2 (fun u hu => by obtain ⟨-, k9, -, z9⟩ := hI0.1 u hu; exact ⟨k9, z9⟩) hJ2)) (by omega)
                        · refine P_iconst X (1) rfl 279 dX9_fewest_278 rfl ?_
                          refine P_goto X 283 dX9_fewest_279 rfl ?_
                          refine P_istore8 X 285 dX9_fewest_283 rfl (by decide) rfl ?_
                          refine P_iload7 X 287 dX9_fewest_285 rfl ?_
                          refine P_iconst X (1) rfl 288 dX9_fewest_287 rfl ?_
                          refine P_isub X 289 dX9_fewest_288 rfl ?_
                          refine P_iload5 X 291 dX9_fewest_289 rfl ?_
                          refine P_iand X 292 dX9_fewest_291 rfl ?_
                          refine P_istore7 X 294 dX9_fewest_292 rfl (by decide) rfl ?_
                          refine P_goto X 218 dX9_fewest_294 rfl ?_
                          have hp0 : ¬ pp = 0 := fun z => b275 (by rw [z]; rfl)
                          rw [show nI pp - 1 = nI (pp - 1) from pk_sub (b := 1) (by omega), nI_and]
                          exact ihq _ _ _ _ (Nat.le_trans Nat.and_le_left (by omega)) (sbs_and _ _) (JI_next hJ2 hps)
                      refine P_iload8 X 220 dX9_fewest_218 rfl ?_
                      refine P_if_eq X 297 223 dX9_fewest_220 rfl rfl (fun b220 => absurd b220 (by decide)) (fun b220 => ?_)
                      refine P_iload7 X 225 dX9_fewest_223 rfl ?_
                      refine P_iconst X (1) rfl 226 dX9_fewest_225 rfl ?_
                      refine P_iload4 X 228 dX9_fewest_226 rfl ?_
                      refine P_ishl X 229 dX9_fewest_228 rfl ?_
                      refine P_ior X 230 dX9_fewest_229 rfl ?_
                      rw [sl12 lo9 (by omega), nI_or]
                      refine P_istore9 X 232 dX9_fewest_230 rfl (by decide) rfl ?_
                      refine P_iconst X (1) rfl 233 dX9_fewest_232 rfl ?_
                      refine P_aload0 X 234 dX9_fewest_233 rfl ?_
                      refine gY_0_31 X 237 dX9_fewest_234 rfl fl_X9_89 ?_
                      refine P_iload3 X 238 dX9_fewest_237 rfl ?_
                      refine P_iload9 X 240 dX9_fewest_238 rfl ?_
                      refine P_iconst X (-1) rfl 241 dX9_fewest_240 rfl ?_
                      refine P_ixor X 242 dX9_fewest_241 rfl ?_
                      refine P_iand X 243 dX9_fewest_242 rfl ?_
                      rw [nI_an]
                      refine lY_27 X 244 dX9_fewest_243 rfl rfl (by omega) ?_
                      refine P_top (y := nI k9) (by rw [put_n (by decide)]; exact hk1) ?_
                      refine P_iadd X 245 dX9_fewest_244 rfl ?_
                      rw [show (1 : Int32) + nI k9 = nI (1 + k9) from nI_add 1 k9]
                      refine P_istore10 X 247 dX9_fewest_245 rfl (by decide) rfl ?_
                      refine P_aload0 X 248 dX9_fewest_247 rfl ?_
                      refine gY_0_30 X 251 dX9_fewest_248 rfl fl_X9_86 ?_
                      refine P_iload9 X 253 dX9_fewest_251 rfl ?_
                      refine lY_26 X 254 dX9_fewest_253 rfl rfl (by omega) ?_
                      refine P_top hv1 ?_
                      refine P_bz X 269 257 dX9_fewest_254 rfl rfl (fun b254 => ?_) (fun b254 => ?_)
                      · refine P_iload6 X 271 dX9_fewest_269 rfl ?_
                        exact E271 bb (JI_n hJ hk2 (Or.inl (fun z => by rw [hv2.mpr z] at b254; cases b254)))
                      · refine P_iload10 X 259 dX9_fewest_257 rfl ?_
                        refine P_iload6 X 261 dX9_fewest_259 rfl ?_
                        refine P_icmp_ge X 269 264 dX9_fewest_261 rfl rfl (fun b261 => ?_) (fun b261 => ?_)
                        · refine P_iload6 X 271 dX9_fewest_269 rfl ?_
                          first | exact E271 bb (JI_n hJ hk2 (Or.inr ((nI_leI (by omega) (by omega)).mp b261))) | exact E271 (1 + k9) (JI_y hJ hps hk2 (hv2.mp b254) (Nat.lt_of_not_le (fun z => b261 (nI_le z (by omega)))))
                        · refine P_iload10 X 266 dX9_fewest_264 rfl ?_
                          refine P_goto X 271 dX9_fewest_266 rfl ?_
                          first | exact E271 bb (JI_n hJ hk2 (Or.inr ((nI_leI (by omega) (by omega)).mp b261))) | exact E271 (1 + k9) (JI_y hJ hps hk2 (hv2.mp b254) (Nat.lt_of_not_le (fun z => b261 (nI_le z (by omega)))))
                  have E206 : ∀ vv : Bool, (vv = true ↔ clq (MY h fr) s) → GW K 11 E (wdY E) A 206 [some (.ref (E.2.2.1 0)), some (.int (nI fr)), some (.int (nI m9)), some (.int (nI s)), some (.int (nI lo9)), some (.int (nI (rs s lo9))), o6, o7, o8, o9, o10] [.int (bI vv), .int (nI s), .ref (E.2.2.1 26)] h1 := by
                    intro vv hvv
                    refine sY_26 X 207 dX9_fewest_206 rfl rfl (by omega) (bI_01 vv) ?_
                    refine P_bipush X (100) rfl 209 dX9_fewest_207 rfl ?_
                    refine P_istore6 X 211 dX9_fewest_209 rfl (by decide) rfl ?_
                    refine P_iload5 X 213 dX9_fewest_211 rfl ?_
                    refine P_istore7 X 215 dX9_fewest_213 rfl (by decide) rfl ?_
                    refine P_iconst X (1) rfl 216 dX9_fewest_215 rfl ?_
                    refine P_istore8 X 218 dX9_fewest_216 rfl (by decide) rfl ?_
                    exact E218 vv hvv _ _ 100 _ _ (Nat.le_refl _) (fun _ z => z) JI_0
                  have E146 : ∀ (mq ll : Nat), ll + mq = lo9 → GW K 11 E (wdY E) A 146 [some (.ref (E.2.2.1 0)), some (.int (nI fr)), some (.int (nI m9)), some (.int (nI s)), some (.int (nI ll)), o5, o6, o7, o8, o9, o10] [] h1 := by
                    intro mq
                    induction mq with
                    | zero =>
                      intro ll hll
                      refine P_iload3 X 147 dX9_fewest_146 rfl ?_
                      refine P_iload4 X 149 dX9_fewest_147 rfl ?_
                      refine P_ishr X 150 dX9_fewest_149 rfl ?_
                      refine P_iconst X (1) rfl 151 dX9_fewest_150 rfl ?_
                      refine P_iand X 152 dX9_fewest_151 rfl ?_
                      refine P_top (tb_sh (by omega) (by omega)) ?_
                      obtain rfl : ll = lo9 := by omega
                      rw [hl1]
                      refine P_if_ne X 161 155 dX9_fewest_152 rfl rfl (fun b152 => ?_) (fun b152 => ?_)
                      · refine P_iload3 X 162 dX9_fewest_161 rfl ?_
                        refine P_iconst X (1) rfl 163 dX9_fewest_162 rfl ?_
                        refine P_iload4 X 165 dX9_fewest_163 rfl ?_
                        refine P_ishl X 166 dX9_fewest_165 rfl ?_
                        refine P_iconst X (-1) rfl 167 dX9_fewest_166 rfl ?_
                        refine P_ixor X 168 dX9_fewest_167 rfl ?_
                        refine P_iand X 169 dX9_fewest_168 rfl ?_
                        rw [sl12 ll (by omega), nI_an]
                        change GW K 11 E (wdY E) A 169 [some (.ref (E.2.2.1 0)), some (.int (nI fr)), some (.int (nI m9)), some (.int (nI s)), some (.int (nI ll)), o5, o6, o7, o8, o9, o10] [.int (nI (rs s ll))] h1
                        refine P_istore5 X 171 dX9_fewest_169 rfl (by decide) rfl ?_
                        have hcr : ¬ h1 26 (rs s ll) = 0 ↔ clq (MY h fr) (rs s ll) := by
                          obtain ⟨⟨v3, y1, y2⟩, -⟩ := hI0.1 (rs s ll) hrl
                          rw [y1]
                          exact bI_n0.trans y2
                        refine P_aload0 X 172 dX9_fewest_171 rfl ?_
                        refine gY_0_30 X 175 dX9_fewest_172 rfl fl_X9_86 ?_
                        refine P_iload3 X 176 dX9_fewest_175 rfl ?_
                        refine P_aload0 X 177 dX9_fewest_176 rfl ?_
                        refine gY_0_30 X 180 dX9_fewest_177 rfl fl_X9_86 ?_
                        refine P_iload5 X 182 dX9_fewest_180 rfl ?_
                        refine lY_26 X 183 dX9_fewest_182 rfl rfl (by omega) ?_
                        refine P_if_eq X 205 186 dX9_fewest_183 rfl rfl (fun b183 => ?_) (fun b183 => ?_)
                        · refine P_iconst X (0) rfl 206 dX9_fewest_205 rfl ?_
                          exact E206 false ⟨fun z => (by cases z), fun z => absurd b183 (hcr.mpr ((clq_step hs12 hl1 hl2).mp z).1)⟩
                        · refine P_iload5 X 188 dX9_fewest_186 rfl ?_
                          refine P_aload0 X 189 dX9_fewest_188 rfl ?_
                          refine gY_0_32 X 192 dX9_fewest_189 rfl fl_X9_92 ?_
                          refine P_iload4 X 194 dX9_fewest_192 rfl ?_
                          refine lY_28 X 195 dX9_fewest_194 rfl rfl (by omega) ?_
                          refine P_top (hI0.2.1 ll (by omega)) ?_
                          refine P_iconst X (-1) rfl 196 dX9_fewest_195 rfl ?_
                          refine P_ixor X 197 dX9_fewest_196 rfl ?_
                          refine P_iand X 198 dX9_fewest_197 rfl ?_
                          rw [nI_an]
                          refine P_if_ne X 205 201 dX9_fewest_198 rfl rfl (fun b198 => ?_) (fun b198 => ?_)
                          · refine P_iconst X (0) rfl 206 dX9_fewest_205 rfl ?_
                            first | exact E206 true ⟨fun _ => (clq_step hs12 hl1 hl2).mpr ⟨hcr.mp b183, (mY_all (MY_sym h fr) h12 (by omega)).mp ((nI_eq (b := 0) (by have := an_le (rs s ll) (mY (MY h fr) ll m9); omega) (by decide)).mp b198)⟩, fun _ => rfl⟩ | exact E206 false ⟨fun z => (by cases z), fun z => (b198 (by rw [(mY_all (MY_sym h fr) h12 (by omega)).mpr ((clq_step hs12 hl1 hl2).mp z).2]; rfl)).elim⟩
                          · refine P_iconst X (1) rfl 202 dX9_fewest_201 rfl ?_
                            refine P_goto X 206 dX9_fewest_202 rfl ?_
                            first | exact E206 true ⟨fun _ => (clq_step hs12 hl1 hl2).mpr ⟨hcr.mp b183, (mY_all (MY_sym h fr) h12 (by omega)).mp ((nI_eq (b := 0) (by have := an_le (rs s ll) (mY (MY h fr) ll m9); omega) (by decide)).mp b198)⟩, fun _ => rfl⟩ | exact E206 false ⟨fun z => (by cases z), fun z => (b198 (by rw [(mY_all (MY_sym h fr) h12 (by omega)).mpr ((clq_step hs12 hl1 hl2).mp z).2]; rfl)).elim⟩
                      · exact absurd b152 (by decide)
                    | succ mq ihq =>
                      intro ll hll
                      refine P_iload3 X 147 dX9_fewest_146 rfl ?_
                      refine P_iload4 X 149 dX9_fewest_147 rfl ?_
                      refine P_ishr X 150 dX9_fewest_149 rfl ?_
                      refine P_iconst X (1) rfl 151 dX9_fewest_150 rfl ?_
                      refine P_iand X 152 dX9_fewest_151 rfl ?_
                      refine P_top (tb_sh (by omega) (by omega)) ?_
                      rw [hl2 ll (by omega)]
                      refine P_if_ne X 161 155 dX9_fewest_152 rfl rfl (fun b152 => ?_) (fun b152 => ?_)
                      · exact absurd rfl b152
                      · refine P_iinc4 X (1) rfl 158 dX9_fewest_155 rfl (by decide) rfl ?_
                        refine P_goto X 146 dX9_fewest_158 rfl ?_
                        rw [nI_1]
                        exact ihq (ll + 1) (by omega)
                  refine P_iconst X (0) rfl 144 dX9_fewest_143 rfl ?_
                  refine P_istore4 X 146 dX9_fewest_144 rfl (by decide) rfl ?_
                  exact E146 lo9 0 (by omega)
            have L1 : ∀ (m a : Nat) (f8 : Nat → Int32) (o4 : Option Value), a + m = m9 → (∀ b, b < a → f8 b = nI (mY (MY h fr) b m9)) → GW K 11 E (wdY E) A 48 [some (.ref (E.2.2.1 0)), some (.int (nI fr)), some (.int (nI m9)), some (.int (nI a)), o4, none, none, none, none, none, none] [] (up2 h 28 f8) := by
              intro m
              induction m with
              | zero =>
                intro a f8 o4 hm hI0
                refine P_iload3 X 49 dX9_fewest_48 rfl ?_
                refine P_iload2 X 50 dX9_fewest_49 rfl ?_
                refine P_icmp_ge X 120 53 dX9_fewest_50 rfl rfl (fun b50 => ?_) (fun b50 => ?_)
                · have hin : a = m9 := by omega
                  rw [hin] at hI0
                  refine P_aload0 X 121 dX9_fewest_120 rfl ?_
                  refine gY_0_30 X 124 dX9_fewest_121 rfl fl_X9_86 ?_
                  refine P_iconst X (0) rfl 125 dX9_fewest_124 rfl ?_
                  refine P_iconst X (1) rfl 126 dX9_fewest_125 rfl ?_
                  refine sY_26 X 127 dX9_fewest_126 rfl (show (0 : Int32) = nI 0 from rfl) (by decide) (Or.inr rfl) ?_
                  refine P_aload0 X 128 dX9_fewest_127 rfl ?_
                  refine gY_0_31 X 131 dX9_fewest_128 rfl fl_X9_89 ?_
                  refine P_iconst X (0) rfl 132 dX9_fewest_131 rfl ?_
                  refine P_iconst X (0) rfl 133 dX9_fewest_132 rfl ?_
                  refine sY_27 X 134 dX9_fewest_133 rfl (show (0 : Int32) = nI 0 from rfl) (by decide) ?_
                  refine P_iconst X (1) rfl 135 dX9_fewest_134 rfl ?_
                  refine P_istore3 X 136 dX9_fewest_135 rfl (by decide) rfl ?_
                  exact L (2 ^ m9 - 1) 1 _ _ _ _ _ _ _ _ (by omega) (SF_1 hI0) (Nat.le_refl _)
                · exact (geN rfl b50 (by omega) (by omega)).elim
              | succ m ih =>
                intro a f8 o4 hm hI0
                refine P_iload3 X 49 dX9_fewest_48 rfl ?_
                refine P_iload2 X 50 dX9_fewest_49 rfl ?_
                refine P_icmp_ge X 120 53 dX9_fewest_50 rfl rfl (fun b50 => ?_) (fun b50 => ?_)
                · exact (geY rfl b50 (by omega) (by omega)).elim
                · refine P_aload0 X 54 dX9_fewest_53 rfl ?_
                  refine gY_0_32 X 57 dX9_fewest_54 rfl fl_X9_92 ?_
                  refine P_iload3 X 58 dX9_fewest_57 rfl ?_
                  refine P_iconst X (1) rfl 59 dX9_fewest_58 rfl ?_
                  refine P_iload3 X 60 dX9_fewest_59 rfl ?_
                  refine P_ishl X 61 dX9_fewest_60 rfl ?_
                  refine sY_28 X 62 dX9_fewest_61 rfl rfl (by omega) ?_
                  refine P_iconst X (0) rfl 63 dX9_fewest_62 rfl ?_
                  refine P_istore4 X 65 dX9_fewest_63 rfl (by decide) rfl ?_
                  rw [put_up2]
                  have L2 : ∀ (m j9 : Nat) (f2 : Nat → Int32), j9 + m = m9 → (f2 a = nI (mY (MY h fr) a j9)) → (∀ b, b < a → f2 b = nI (mY (MY h fr) b m9)) → GW K 11 E (wdY E) A 65 [some (.ref (E.2.2.1 0)), some (.int (nI fr)), some (.int (nI m9)), some (.int (nI a)), some (.int (nI j9)), none, none, none, none, none, none] [] (up2 h 28 f2) := by
                    intro m
                    induction m with
                    | zero =>
                      intro j9 f2 hm hI0 hI1
                      refine P_iload4 X 67 dX9_fewest_65 rfl ?_
                      refine P_iload2 X 68 dX9_fewest_67 rfl ?_
                      refine P_icmp_ge X 114 71 dX9_fewest_68 rfl rfl (fun b68 => ?_) (fun b68 => ?_)
                      · have hji : j9 = m9 := by omega
                        refine P_iinc3 X (1) rfl 117 dX9_fewest_114 rfl (by decide) rfl ?_
                        refine P_goto X 48 dX9_fewest_117 rfl ?_
                        rw [nI_1]
                        exact ih (a + 1) f2 _ (by omega) (lt_s hI1 (by rw [hI0, hji]))
                      · exact (geN rfl b68 (by omega) (by omega)).elim
                    | succ m ih =>
                      intro j9 f2 hm hI0 hI1
                      refine P_iload4 X 67 dX9_fewest_65 rfl ?_
                      refine P_iload2 X 68 dX9_fewest_67 rfl ?_
                      refine P_icmp_ge X 114 71 dX9_fewest_68 rfl rfl (fun b68 => ?_) (fun b68 => ?_)
                      · exact (geY rfl b68 (by omega) (by omega)).elim
                      · refine P_aload0 X 72 dX9_fewest_71 rfl ?_
                        refine gY_0_32 X 75 dX9_fewest_72 rfl fl_X9_92 ?_
                        refine P_iload3 X 76 dX9_fewest_75 rfl ?_
                        refine P_dup2 X rfl rfl 77 dX9_fewest_76 rfl ?_
                        refine lY_28 X 78 dX9_fewest_77 rfl rfl (by omega) ?_
                        refine P_iload3 X 79 dX9_fewest_78 rfl ?_
                        refine P_iload4 X 81 dX9_fewest_79 rfl ?_
                        refine P_icmp_eq X 105 84 dX9_fewest_81 rfl rfl (fun b81 => ?_) (fun b81 => ?_)
                        · refine P_iconst X (0) rfl 106 dX9_fewest_105 rfl ?_
                          refine P_ior X 107 dX9_fewest_106 rfl ?_
                          refine sY_28 X 108 dX9_fewest_107 rfl rfl (by omega) ?_
                          rw [put_up2]
                          refine P_iinc4 X (1) rfl 111 dX9_fewest_108 rfl (by decide) rfl ?_
                          refine P_goto X 65 dX9_fewest_111 rfl ?_
                          rw [nI_1]
                          first | exact ih (j9 + 1) _ (by omega) (mY_y (M := MY h fr) (by omega) hI0 b81 b95) (fx_o hI1) | exact ih (j9 + 1) _ (by omega) (mY_n (M := MY h fr) hI0 (by rw [show MY h fr a j9 = false from b95, Bool.and_false])) (fx_o hI1) | exact ih (j9 + 1) _ (by omega) (mY_n (M := MY h fr) hI0 (by rw [decide_eq_true ((nI_eq (by omega) (by omega)).mp b81)]; rfl)) (fx_o hI1)
                        · refine P_aload0 X 85 dX9_fewest_84 rfl ?_
                          refine P_iload1 X 86 dX9_fewest_85 rfl ?_
                          refine P_iload3 X 87 dX9_fewest_86 rfl ?_
                          refine P_iadd X 88 dX9_fewest_87 rfl ?_
                          refine P_iload1 X 89 dX9_fewest_88 rfl ?_
                          refine P_iload4 X 91 dX9_fewest_89 rfl ?_
                          refine P_iadd X 92 dX9_fewest_91 rfl ?_
                          rw [nI_add, nI_add]
                          refine V2r X 0 95 dX9_fewest_92 rfl lk_X9_129 mv_X9_doMeet rfl (by omega) (Nat.le_of_ble_eq_true rfl) (Nat.le_of_ble_eq_true rfl) rfl rfl (k_X9_doMeet (by omega) (by omega) (by omega) hB) ?_
                          refine P_bz X 105 98 dX9_fewest_95 rfl rfl (fun b95 => ?_) (fun b95 => ?_)
                          · refine P_iconst X (0) rfl 106 dX9_fewest_105 rfl ?_
                            refine P_ior X 107 dX9_fewest_106 rfl ?_
                            refine sY_28 X 108 dX9_fewest_107 rfl rfl (by omega) ?_
                            rw [put_up2]
                            refine P_iinc4 X (1) rfl 111 dX9_fewest_108 rfl (by decide) rfl ?_
                            refine P_goto X 65 dX9_fewest_111 rfl ?_
                            rw [nI_1]
                            first | exact ih (j9 + 1) _ (by omega) (mY_y (M := MY h fr) (by omega) hI0 b81 b95) (fx_o hI1) | exact ih (j9 + 1) _ (by omega) (mY_n (M := MY h fr) hI0 (by rw [show MY h fr a j9 = false from b95, Bool.and_false])) (fx_o hI1) | exact ih (j9 + 1) _ (by omega) (mY_n (M := MY h fr) hI0 (by rw [decide_eq_true ((nI_eq (by omega) (by omega)).mp b81)]; rfl)) (fx_o hI1)
                          · refine P_iconst X (1) rfl 99 dX9_fewest_98 rfl ?_
                            refine P_iload4 X 101 dX9_fewest_99 rfl ?_
                            refine P_ishl X 102 dX9_fewest_101 rfl ?_
                            refine P_goto X 106 dX9_fewest_102 rfl ?_
                            refine P_ior X 107 dX9_fewest_106 rfl ?_
                            refine sY_28 X 108 dX9_fewest_107 rfl rfl (by omega) ?_
                            rw [put_up2]
                            refine P_iinc4 X (1) rfl 111 dX9_fewest_108 rfl (by decide) rfl ?_
                            refine P_goto X 65 dX9_fewest_111 rfl ?_
                            rw [nI_1]
                            first | exact ih (j9 + 1) _ (by omega) (mY_y (M := MY h fr) (by omega) hI0 b81 b95) (fx_o hI1) | exact ih (j9 + 1) _ (by omega) (mY_n (M := MY h fr) hI0 (by rw [show MY h fr a j9 = false from b95, Bool.and_false])) (fx_o hI1) | exact ih (j9 + 1) _ (by omega) (mY_n (M := MY h fr) hI0 (by rw [decide_eq_true ((nI_eq (by omega) (by omega)).mp b81)]; rfl)) (fx_o hI1)
                  exact L2 m9 0 _ (by omega) (by rw [pk_us, sl12 a (by omega)]; exact congrArg nI (Nat.or_zero _).symm) (fx_o hI0)
            have e28 : up2 h 28 (h 28) = h := by
              funext j9
              by_cases e : j9 = 28
              · subst e; exact up2_s
              · exact up2_n e
            refine P_iconst X (0) rfl 47 dX9_fewest_46 rfl ?_
            refine P_istore3 X 48 dX9_fewest_47 rfl (by decide) rfl ?_
            rw [← e28]
            exact L1 m9 0 (h 28) none (by omega) (fun a ha => absurd ha (Nat.not_lt_zero _))
          · refine P_aload0 X 40 dX9_fewest_39 rfl ?_
            refine P_ldc X kc_X9_163 42 dX9_fewest_40 rfl ?_
            refine V1r X 0 45 dX9_fewest_42 rfl lk_X9_145 mv_X9_finding rfl (by omega) (Nat.le_of_ble_eq_true rfl) (Nat.le_of_ble_eq_true rfl) rfl rfl (k_X9_finding (by omega)) ?_
            exact P_iret X hQ dX9_fewest_45 (Or.inr (Or.inl ⟨fr, m9, rfl, rfl, hle, Nat.lt_of_not_le (fun z => b36 (nI_le (b := 12) z (by decide))), rfl, rfl⟩))
        · refine P_aload0 X 27 dX9_fewest_26 rfl ?_
          refine P_ldc X kc_X9_144 29 dX9_fewest_27 rfl ?_
          refine V1r X 0 32 dX9_fewest_29 rfl lk_X9_145 mv_X9_finding rfl (by omega) (Nat.le_of_ble_eq_true rfl) (Nat.le_of_ble_eq_true rfl) rfl rfl (k_X9_finding (by omega)) ?_
          exact P_iret X hQ dX9_fewest_32 (Or.inl ⟨okW_5 hA b23, rfl, rfl⟩)
set_option maxHeartbeats 4000000 in
theorem op_fewest {E E2 : Ev} {h g : Hp} (hR : Rel h g) (f : Int32) (n : Int32) : OP yX8_fewest cX8_fewest 3 yX9_fewest cX9_fewest 11 E E2 [.int f, .int n] h g := by
  have hR0 := hR
  obtain ⟨nA, nT, nL, nR, hA, hT, hD, hM, hS, hf⟩ := hR
  have hA0 := hA
  have hT0 := hT
  have hD0 := hD
  have hM0 := hM
  obtain ⟨a1, a2, a3, a4, a5, a6, a7, a8, a9, a10, a11, aB⟩ := hA
  obtain ⟨t1, t2, t3, t4, t5, t6, t7, t8, tB1, tB2, tB3, t9, t10⟩ := hT
  obtain ⟨d1, d2, d3, d4, d5, d6, d7, d8, dV, d9⟩ := hD
  obtain ⟨m1, m2, m3, m4, m5, m6, mE⟩ := hM
  have e01 : g 0 1 = h 1 8 := a2.trans a1.symm
  have e010 : g 0 10 = h 2 6 := t2.trans t1.symm
  have e017 : g 0 17 = h 4 1 := d2.trans d1.symm
  have e019 : g 0 19 = h 5 4 := d7.trans d6.symm
  have e00 : g 0 0 = h 0 11 := hf.symm
  have aBY : AB (g 1) (g 2) (g 3) (g 4) (g 5) (g 7) (g 8) := by rw [a4, a5, a6, a7, a8, a10, a11]; exact aB
  have t40 : nT ≤ 40 := Nat.le_trans t3 a3
  have tB1Y : Bd (g 9) 40 := by rw [t4]; exact tB1
  have tB2Y : Bd (g 10) 2 := by rw [t5]; exact tB2
  have tB3Y : Bd (g 13) 6 := by rw [t8]; exact tB3
  have dY : TVY (g 16) nR := by
    intro r hr
    obtain ⟨q1, q2, q3, q4, q5⟩ := d9 r hr
    rw [← q1, ← q2, show d1Y (g 16) r = h 30 r from q3.symm, show d2Y (g 16) r = h 31 r from q4.symm, show d3Y (g 16) r = h 32 r from q5.symm]
    exact dV r hr
  have kX := k_X8_fewest (E := E) (f := f) (n := n) (d := 40) (by decide) a1 a3 aB
  have kY := k_X9_fewest (E := E2) (f := f) (n := n) (d := 40) (by decide) a2 a3 aBY
  have eM : MY g = MX h := by
    funext fr a b
    simp only [MY, MX, a4, a5, a6, a7, a8, a10, a11]
  rw [eM] at kY
  by_cases z1 : okW nA f n
  · obtain ⟨fr, m9, rfl, rfl, hle⟩ := z1
    have inj : ∀ fr' m', nI fr = nI fr' → nI m9 = nI m' → fr' + m' ≤ nA → fr' = fr ∧ m' = m9 := fun fr' m' e1 e2 e3 => ⟨((nI_eq (by omega) (by omega)).mp e1).symm, ((nI_eq (by omega) (by omega)).mp e2).symm⟩
    by_cases z2 : 12 < m9
    · refine ⟨-1000006, fun h' => h' = fiX h, Cl_mono kX (fun r h' z => ?_), Cl_mono kY (fun r g' z => ?_)⟩
      · rcases z with ⟨z, -⟩ | ⟨fr', m', -, -, -, -, z3, z4⟩ | ⟨fr', m', e1, e2, e3, e4, -⟩
        · exact absurd ⟨fr, m9, rfl, rfl, hle⟩ z
        · exact ⟨z3, z4⟩
        · have := (inj fr' m' e1 e2 e3).2
          omega
      · rcases z with ⟨z, -⟩ | ⟨fr', m', -, -, -, -, z3, z4⟩ | ⟨fr', m', e1, e2, e3, e4, -⟩
        · exact absurd ⟨fr, m9, rfl, rfl, hle⟩ z
        · exact ⟨z3, fun h' e => by rw [e, z4]; exact Rel_fi hR0⟩
        · have := (inj fr' m' e1 e2 e3).2
          omega
    · by_cases z3 : ∃ k9, Fw (MX h fr) m9 k9
      · obtain ⟨k9, hk9⟩ := z3
        refine ⟨nI k9, fun h' => ∀ j9, j9 ≠ 3 → j9 ≠ 26 → j9 ≠ 27 → h' j9 = h j9, Cl_mono kX (fun r h' z => ?_), Cl_mono kY (fun r g' z => ?_)⟩
        · rcases z with ⟨z, -⟩ | ⟨fr', m', e1, e2, e3, e4, -⟩ | ⟨fr', m', e1, e2, e3, e4, k', z3, z4, z5⟩
          · exact absurd ⟨fr, m9, rfl, rfl, hle⟩ z
          · have := (inj fr' m' e1 e2 e3).2
            omega
          · obtain ⟨rfl, rfl⟩ := inj fr' m' e1 e2 e3
            rw [Fw_uniq hk9 z4]
            exact ⟨z3, fun j9 h1 h2 h3 => z5 j9 (by simp [h1, h2, h3])⟩
        · rcases z with ⟨z, -⟩ | ⟨fr', m', e1, e2, e3, e4, -⟩ | ⟨fr', m', e1, e2, e3, e4, k', z3, z4, z5⟩
          · exact absurd ⟨fr, m9, rfl, rfl, hle⟩ z
          · have := (inj fr' m' e1 e2 e3).2
            omega
          · obtain ⟨rfl, rfl⟩ := inj fr' m' e1 e2 e3
            rw [Fw_uniq hk9 z4]
            refine ⟨z3, fun h' hh => ?_⟩
            have gg : ∀ j9, j9 ≠ 26 → j9 ≠ 27 → j9 ≠ 28 → g' j9 = g j9 := fun j9 h1 h2 h3 => z5 j9 (by simp [h1, h2, h3])
            refine Rel_cong hR0 (Or.inl ?_) ?_ ?_ ?_ ?_ (fun k hk => hh k (by omega) (by omega) (by omega)) (Or.inl ?_) ?_ ?_ ?_ ?_ (fun k h1 h2 => gg k (by omega) (by omega) (by omega))
            · rw [hh 0 (by decide) (by decide) (by decide)]
            · rw [hh 1 (by decide) (by decide) (by decide)]
            · rw [hh 2 (by decide) (by decide) (by decide)]
            · rw [hh 4 (by decide) (by decide) (by decide)]
            · rw [hh 5 (by decide) (by decide) (by decide)]
            · rw [gg 0 (by decide) (by decide) (by decide)]
            · rw [gg 0 (by decide) (by decide) (by decide)]
            · rw [gg 0 (by decide) (by decide) (by decide)]
            · rw [gg 0 (by decide) (by decide) (by decide)]
            · rw [gg 0 (by decide) (by decide) (by decide)]
      · exfalso
        obtain ⟨k9, ⟨hk1, hk2⟩⟩ := pk_least (fun k9 => ∃ c : Nat → Nat, Val (MX h fr) c m9 ∧ ∀ j9, j9 < m9 → c j9 < k9) ⟨m9, fun j9 => j9, fun a b _ hb e => absurd (show a = b from e) (by omega), fun j9 hj => hj⟩
        exact z3 ⟨k9, hk1, fun c k' hv hl => Nat.le_of_not_lt (fun z => hk2 k' z ⟨c, hv, hl⟩)⟩
  · refine ⟨-1000001, fun h' => h' = fiX h, Cl_mono kX (fun r h' z => ?_), Cl_mono kY (fun r g' z => ?_)⟩
    · rcases z with ⟨-, z3, z4⟩ | ⟨fr', m', e1, e2, e3, -⟩ | ⟨fr', m', e1, e2, e3, -⟩
      · exact ⟨z3, z4⟩
      · exact absurd ⟨fr', m', e1, e2, e3⟩ z1
      · exact absurd ⟨fr', m', e1, e2, e3⟩ z1
    · rcases z with ⟨-, z3, z4⟩ | ⟨fr', m', e1, e2, e3, -⟩ | ⟨fr', m', e1, e2, e3, -⟩
      · exact ⟨z3, fun h' e => by rw [e, z4]; exact Rel_fi hR0⟩
      · exact absurd ⟨fr', m', e1, e2, e3⟩ z1
      · exact absurd ⟨fr', m', e1, e2, e3⟩ z1
