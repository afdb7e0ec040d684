/-! the law's loop -/
theorem v_nI (v : Int32) : v = nI v.toBitVec.toNat := Int32.toBitVec_inj.mp (by
  show v.toBitVec = BitVec.ofNat 32 v.toBitVec.toNat
  rw [BitVec.ofNat_toNat, BitVec.setWidth_eq])
theorem and31 (v : Int32) : ∃ n9, n9 < 32 ∧ v &&& 31 = nI n9 := by
  refine ⟨v.toBitVec.toNat &&& 31, Nat.lt_of_le_of_lt Nat.and_le_right (by decide), ?_⟩
  rw [← nI_and, ← v_nI]
  rfl
set_option maxHeartbeats 4000000 in
set_option maxRecDepth 100000 in
theorem law_ask {K : Kx} {E : Ev} {ay : Nat → Nat} {A : Nat → Prop} {b L i9 : Nat} {xs : Nat → Int32} {h g : Hp} (X : Cx K RL cL_law 4 (some .boolean) E A 41) (hS : SX K A b L xs) (hL : L ≤ 3072) (hi : i9 + 6 ≤ L) (hR : Rel h g) (kk : ∀ h2 g2, Rel h2 g2 → GW K 4 E (wdL E ay) A 1099 [some (.ref b), some (.ref (E.2.2.1 0)), some (.ref (ay 0)), some (.int (nI i9))] [] (jn h2 g2)) : GW K 4 E (wdL E ay) A 148 [some (.ref b), some (.ref (E.2.2.1 0)), some (.ref (ay 0)), some (.int (nI i9))] [] (jn h g) := by
  obtain ⟨v, Qx, cX, cY⟩ := op_ask (E := E) (E2 := eY E ay) hR (xs (i9 + 1)) (xs (i9 + 2)) (xs (i9 + 3)) (xs (i9 + 4)) (xs (i9 + 5))
  refine P_aload1 X 149 dL_law_148 rfl ?_
  refine P_aload0 X 150 dL_law_149 rfl ?_
  refine P_iload3 X 151 dL_law_150 rfl ?_
  refine P_iconst X (1) rfl 152 dL_law_151 rfl ?_
  refine P_iadd X 153 dL_law_152 rfl ?_
  refine P_sld X hS hL 154 dL_law_153 rfl (nI_add i9 1) (by omega) ?_
  refine P_aload0 X 155 dL_law_154 rfl ?_
  refine P_iload3 X 156 dL_law_155 rfl ?_
  refine P_iconst X (2) rfl 157 dL_law_156 rfl ?_
  refine P_iadd X 158 dL_law_157 rfl ?_
  refine P_sld X hS hL 159 dL_law_158 rfl (nI_add i9 2) (by omega) ?_
  refine P_aload0 X 160 dL_law_159 rfl ?_
  refine P_iload3 X 161 dL_law_160 rfl ?_
  refine P_iconst X (3) rfl 162 dL_law_161 rfl ?_
  refine P_iadd X 163 dL_law_162 rfl ?_
  refine P_sld X hS hL 164 dL_law_163 rfl (nI_add i9 3) (by omega) ?_
  refine P_aload0 X 165 dL_law_164 rfl ?_
  refine P_iload3 X 166 dL_law_165 rfl ?_
  refine P_iconst X (4) rfl 167 dL_law_166 rfl ?_
  refine P_iadd X 168 dL_law_167 rfl ?_
  refine P_sld X hS hL 169 dL_law_168 rfl (nI_add i9 4) (by omega) ?_
  refine P_aload0 X 170 dL_law_169 rfl ?_
  refine P_iload3 X 171 dL_law_170 rfl ?_
  refine P_iconst X (5) rfl 172 dL_law_171 rfl ?_
  refine P_iadd X 173 dL_law_172 rfl ?_
  refine P_sld X hS hL 174 dL_law_173 rfl (nI_add i9 5) (by omega) ?_
  refine V5g X 0 177 dL_law_174 rfl lk_L_13 mv_X8_ask rfl (by omega) (Nat.le_of_ble_eq_true rfl) (Nat.le_of_ble_eq_true rfl) rfl rfl (Cl_X cX) (fun r h9 hp => ?_)
  obtain ⟨h1, ⟨rfl, hq1⟩, rfl⟩ := hp
  change GW K 4 E (wdL E ay) A 177 [some (.ref b), some (.ref (E.2.2.1 0)), some (.ref (ay 0)), some (.int (nI i9))] [.int v] (jn h1 g)
  refine P_aload2 X 178 dL_law_177 rfl ?_
  refine P_aload0 X 179 dL_law_178 rfl ?_
  refine P_iload3 X 180 dL_law_179 rfl ?_
  refine P_iconst X (1) rfl 181 dL_law_180 rfl ?_
  refine P_iadd X 182 dL_law_181 rfl ?_
  refine P_sld X hS hL 183 dL_law_182 rfl (nI_add i9 1) (by omega) ?_
  refine P_aload0 X 184 dL_law_183 rfl ?_
  refine P_iload3 X 185 dL_law_184 rfl ?_
  refine P_iconst X (2) rfl 186 dL_law_185 rfl ?_
  refine P_iadd X 187 dL_law_186 rfl ?_
  refine P_sld X hS hL 188 dL_law_187 rfl (nI_add i9 2) (by omega) ?_
  refine P_aload0 X 189 dL_law_188 rfl ?_
  refine P_iload3 X 190 dL_law_189 rfl ?_
  refine P_iconst X (3) rfl 191 dL_law_190 rfl ?_
  refine P_iadd X 192 dL_law_191 rfl ?_
  refine P_sld X hS hL 193 dL_law_192 rfl (nI_add i9 3) (by omega) ?_
  refine P_aload0 X 194 dL_law_193 rfl ?_
  refine P_iload3 X 195 dL_law_194 rfl ?_
  refine P_iconst X (4) rfl 196 dL_law_195 rfl ?_
  refine P_iadd X 197 dL_law_196 rfl ?_
  refine P_sld X hS hL 198 dL_law_197 rfl (nI_add i9 4) (by omega) ?_
  refine P_aload0 X 199 dL_law_198 rfl ?_
  refine P_iload3 X 200 dL_law_199 rfl ?_
  refine P_iconst X (5) rfl 201 dL_law_200 rfl ?_
  refine P_iadd X 202 dL_law_201 rfl ?_
  refine P_sld X hS hL 203 dL_law_202 rfl (nI_add i9 5) (by omega) ?_
  refine V5g X 51 206 dL_law_203 rfl lk_L_17 mv_X9_ask rfl (by omega) (Nat.le_of_ble_eq_true rfl) (Nat.le_of_ble_eq_true rfl) rfl rfl (Cl_Y cY) (fun r h9 hp => ?_)
  obtain ⟨g1, ⟨rfl, hq2⟩, rfl⟩ := hp
  change GW K 4 E (wdL E ay) A 206 [some (.ref b), some (.ref (E.2.2.1 0)), some (.ref (ay 0)), some (.int (nI i9))] [.int v, .int v] (jn h1 g1)
  refine P_icmp_eq X 1099 209 dL_law_206 rfl rfl (fun b206 => ?_) (fun b206 => ?_)
  · exact kk _ _ (hq2 _ hq1)
  · exact absurd rfl b206
set_option maxHeartbeats 4000000 in
set_option maxRecDepth 100000 in
theorem law_marks {K : Kx} {E : Ev} {ay : Nat → Nat} {A : Nat → Prop} {b L i9 : Nat} {xs : Nat → Int32} {h g : Hp} (X : Cx K RL cL_law 4 (some .boolean) E A 41) (hS : SX K A b L xs) (hL : L ≤ 3072) (hi : i9 + 6 ≤ L) (hR : Rel h g) (kk : ∀ h2 g2, Rel h2 g2 → GW K 4 E (wdL E ay) A 1099 [some (.ref b), some (.ref (E.2.2.1 0)), some (.ref (ay 0)), some (.int (nI i9))] [] (jn h2 g2)) : GW K 4 E (wdL E ay) A 211 [some (.ref b), some (.ref (E.2.2.1 0)), some (.ref (ay 0)), some (.int (nI i9))] [] (jn h g) := by
  obtain ⟨v, Qx, cX, cY⟩ := op_marks (E := E) (E2 := eY E ay) hR (xs (i9 + 1)) (xs (i9 + 2)) (xs (i9 + 3))
  refine P_aload1 X 212 dL_law_211 rfl ?_
  refine P_aload0 X 213 dL_law_212 rfl ?_
  refine P_iload3 X 214 dL_law_213 rfl ?_
  refine P_iconst X (1) rfl 215 dL_law_214 rfl ?_
  refine P_iadd X 216 dL_law_215 rfl ?_
  refine P_sld X hS hL 217 dL_law_216 rfl (nI_add i9 1) (by omega) ?_
  refine P_aload0 X 218 dL_law_217 rfl ?_
  refine P_iload3 X 219 dL_law_218 rfl ?_
  refine P_iconst X (2) rfl 220 dL_law_219 rfl ?_
  refine P_iadd X 221 dL_law_220 rfl ?_
  refine P_sld X hS hL 222 dL_law_221 rfl (nI_add i9 2) (by omega) ?_
  refine P_aload0 X 223 dL_law_222 rfl ?_
  refine P_iload3 X 224 dL_law_223 rfl ?_
  refine P_iconst X (3) rfl 225 dL_law_224 rfl ?_
  refine P_iadd X 226 dL_law_225 rfl ?_
  refine P_sld X hS hL 227 dL_law_226 rfl (nI_add i9 3) (by omega) ?_
  refine V3g X 0 230 dL_law_227 rfl lk_L_18 mv_X8_marks rfl (by omega) (Nat.le_of_ble_eq_true rfl) (Nat.le_of_ble_eq_true rfl) rfl rfl (Cl_X cX) (fun r h9 hp => ?_)
  obtain ⟨h1, ⟨rfl, hq1⟩, rfl⟩ := hp
  change GW K 4 E (wdL E ay) A 230 [some (.ref b), some (.ref (E.2.2.1 0)), some (.ref (ay 0)), some (.int (nI i9))] [.int v] (jn h1 g)
  refine P_aload2 X 231 dL_law_230 rfl ?_
  refine P_aload0 X 232 dL_law_231 rfl ?_
  refine P_iload3 X 233 dL_law_232 rfl ?_
  refine P_iconst X (1) rfl 234 dL_law_233 rfl ?_
  refine P_iadd X 235 dL_law_234 rfl ?_
  refine P_sld X hS hL 236 dL_law_235 rfl (nI_add i9 1) (by omega) ?_
  refine P_aload0 X 237 dL_law_236 rfl ?_
  refine P_iload3 X 238 dL_law_237 rfl ?_
  refine P_iconst X (2) rfl 239 dL_law_238 rfl ?_
  refine P_iadd X 240 dL_law_239 rfl ?_
  refine P_sld X hS hL 241 dL_law_240 rfl (nI_add i9 2) (by omega) ?_
  refine P_aload0 X 242 dL_law_241 rfl ?_
  refine P_iload3 X 243 dL_law_242 rfl ?_
  refine P_iconst X (3) rfl 244 dL_law_243 rfl ?_
  refine P_iadd X 245 dL_law_244 rfl ?_
  refine P_sld X hS hL 246 dL_law_245 rfl (nI_add i9 3) (by omega) ?_
  refine V3g X 51 249 dL_law_246 rfl lk_L_22 mv_X9_marks rfl (by omega) (Nat.le_of_ble_eq_true rfl) (Nat.le_of_ble_eq_true rfl) rfl rfl (Cl_Y cY) (fun r h9 hp => ?_)
  obtain ⟨g1, ⟨rfl, hq2⟩, rfl⟩ := hp
  change GW K 4 E (wdL E ay) A 249 [some (.ref b), some (.ref (E.2.2.1 0)), some (.ref (ay 0)), some (.int (nI i9))] [.int v, .int v] (jn h1 g1)
  refine P_icmp_eq X 1099 252 dL_law_249 rfl rfl (fun b249 => ?_) (fun b249 => ?_)
  · exact kk _ _ (hq2 _ hq1)
  · exact absurd rfl b249
set_option maxHeartbeats 4000000 in
set_option maxRecDepth 100000 in
theorem law_meet {K : Kx} {E : Ev} {ay : Nat → Nat} {A : Nat → Prop} {b L i9 : Nat} {xs : Nat → Int32} {h g : Hp} (X : Cx K RL cL_law 4 (some .boolean) E A 41) (hS : SX K A b L xs) (hL : L ≤ 3072) (hi : i9 + 6 ≤ L) (hR : Rel h g) (kk : ∀ h2 g2, Rel h2 g2 → GW K 4 E (wdL E ay) A 1099 [some (.ref b), some (.ref (E.2.2.1 0)), some (.ref (ay 0)), some (.int (nI i9))] [] (jn h2 g2)) : GW K 4 E (wdL E ay) A 254 [some (.ref b), some (.ref (E.2.2.1 0)), some (.ref (ay 0)), some (.int (nI i9))] [] (jn h g) := by
  obtain ⟨v, Qx, cX, cY⟩ := op_meet (E := E) (E2 := eY E ay) hR (xs (i9 + 1)) (xs (i9 + 2))
  refine P_aload1 X 255 dL_law_254 rfl ?_
  refine P_aload0 X 256 dL_law_255 rfl ?_
  refine P_iload3 X 257 dL_law_256 rfl ?_
  refine P_iconst X (1) rfl 258 dL_law_257 rfl ?_
  refine P_iadd X 259 dL_law_258 rfl ?_
  refine P_sld X hS hL 260 dL_law_259 rfl (nI_add i9 1) (by omega) ?_
  refine P_aload0 X 261 dL_law_260 rfl ?_
  refine P_iload3 X 262 dL_law_261 rfl ?_
  refine P_iconst X (2) rfl 263 dL_law_262 rfl ?_
  refine P_iadd X 264 dL_law_263 rfl ?_
  refine P_sld X hS hL 265 dL_law_264 rfl (nI_add i9 2) (by omega) ?_
  refine V2g X 0 268 dL_law_265 rfl lk_L_23 mv_X8_meet rfl (by omega) (Nat.le_of_ble_eq_true rfl) (Nat.le_of_ble_eq_true rfl) rfl rfl (Cl_X cX) (fun r h9 hp => ?_)
  obtain ⟨h1, ⟨rfl, hq1⟩, rfl⟩ := hp
  change GW K 4 E (wdL E ay) A 268 [some (.ref b), some (.ref (E.2.2.1 0)), some (.ref (ay 0)), some (.int (nI i9))] [.int v] (jn h1 g)
  refine P_aload2 X 269 dL_law_268 rfl ?_
  refine P_aload0 X 270 dL_law_269 rfl ?_
  refine P_iload3 X 271 dL_law_270 rfl ?_
  refine P_iconst X (1) rfl 272 dL_law_271 rfl ?_
  refine P_iadd X 273 dL_law_272 rfl ?_
  refine P_sld X hS hL 274 dL_law_273 rfl (nI_add i9 1) (by omega) ?_
  refine P_aload0 X 275 dL_law_274 rfl ?_
  refine P_iload3 X 276 dL_law_275 rfl ?_
  refine P_iconst X (2) rfl 277 dL_law_276 rfl ?_
  refine P_iadd X 278 dL_law_277 rfl ?_
  refine P_sld X hS hL 279 dL_law_278 rfl (nI_add i9 2) (by omega) ?_
  refine V2g X 51 282 dL_law_279 rfl lk_L_27 mv_X9_meet rfl (by omega) (Nat.le_of_ble_eq_true rfl) (Nat.le_of_ble_eq_true rfl) rfl rfl (Cl_Y cY) (fun r h9 hp => ?_)
  obtain ⟨g1, ⟨rfl, hq2⟩, rfl⟩ := hp
  change GW K 4 E (wdL E ay) A 282 [some (.ref b), some (.ref (E.2.2.1 0)), some (.ref (ay 0)), some (.int (nI i9))] [.int v, .int v] (jn h1 g1)
  refine P_icmp_eq X 1099 285 dL_law_282 rfl rfl (fun b282 => ?_) (fun b282 => ?_)
  · exact kk _ _ (hq2 _ hq1)
  · exact absurd rfl b282
set_option maxHeartbeats 4000000 in
set_option maxRecDepth 100000 in
theorem law_of {K : Kx} {E : Ev} {ay : Nat → Nat} {A : Nat → Prop} {b L i9 : Nat} {xs : Nat → Int32} {h g : Hp} (X : Cx K RL cL_law 4 (some .boolean) E A 41) (hS : SX K A b L xs) (hL : L ≤ 3072) (hi : i9 + 6 ≤ L) (hR : Rel h g) (kk : ∀ h2 g2, Rel h2 g2 → GW K 4 E (wdL E ay) A 1099 [some (.ref b), some (.ref (E.2.2.1 0)), some (.ref (ay 0)), some (.int (nI i9))] [] (jn h2 g2)) : GW K 4 E (wdL E ay) A 287 [some (.ref b), some (.ref (E.2.2.1 0)), some (.ref (ay 0)), some (.int (nI i9))] [] (jn h g) := by
  obtain ⟨v, Qx, cX, cY⟩ := op_of (E := E) (E2 := eY E ay) hR (xs (i9 + 1)) (xs (i9 + 2))
  refine P_aload1 X 288 dL_law_287 rfl ?_
  refine P_aload0 X 289 dL_law_288 rfl ?_
  refine P_iload3 X 290 dL_law_289 rfl ?_
  refine P_iconst X (1) rfl 291 dL_law_290 rfl ?_
  refine P_iadd X 292 dL_law_291 rfl ?_
  refine P_sld X hS hL 293 dL_law_292 rfl (nI_add i9 1) (by omega) ?_
  refine P_aload0 X 294 dL_law_293 rfl ?_
  refine P_iload3 X 295 dL_law_294 rfl ?_
  refine P_iconst X (2) rfl 296 dL_law_295 rfl ?_
  refine P_iadd X 297 dL_law_296 rfl ?_
  refine P_sld X hS hL 298 dL_law_297 rfl (nI_add i9 2) (by omega) ?_
  refine V2g X 0 301 dL_law_298 rfl lk_L_28 mv_X8_of rfl (by omega) (Nat.le_of_ble_eq_true rfl) (Nat.le_of_ble_eq_true rfl) rfl rfl (Cl_X cX) (fun r h9 hp => ?_)
  obtain ⟨h1, ⟨rfl, hq1⟩, rfl⟩ := hp
  change GW K 4 E (wdL E ay) A 301 [some (.ref b), some (.ref (E.2.2.1 0)), some (.ref (ay 0)), some (.int (nI i9))] [.int v] (jn h1 g)
  refine P_aload2 X 302 dL_law_301 rfl ?_
  refine P_aload0 X 303 dL_law_302 rfl ?_
  refine P_iload3 X 304 dL_law_303 rfl ?_
  refine P_iconst X (1) rfl 305 dL_law_304 rfl ?_
  refine P_iadd X 306 dL_law_305 rfl ?_
  refine P_sld X hS hL 307 dL_law_306 rfl (nI_add i9 1) (by omega) ?_
  refine P_aload0 X 308 dL_law_307 rfl ?_
  refine P_iload3 X 309 dL_law_308 rfl ?_
  refine P_iconst X (2) rfl 310 dL_law_309 rfl ?_
  refine P_iadd X 311 dL_law_310 rfl ?_
  refine P_sld X hS hL 312 dL_law_311 rfl (nI_add i9 2) (by omega) ?_
  refine V2g X 51 315 dL_law_312 rfl lk_L_31 mv_X9_of rfl (by omega) (Nat.le_of_ble_eq_true rfl) (Nat.le_of_ble_eq_true rfl) rfl rfl (Cl_Y cY) (fun r h9 hp => ?_)
  obtain ⟨g1, ⟨rfl, hq2⟩, rfl⟩ := hp
  change GW K 4 E (wdL E ay) A 315 [some (.ref b), some (.ref (E.2.2.1 0)), some (.ref (ay 0)), some (.int (nI i9))] [.int v, .int v] (jn h1 g1)
  refine P_icmp_eq X 1099 318 dL_law_315 rfl rfl (fun b315 => ?_) (fun b315 => ?_)
  · exact kk _ _ (hq2 _ hq1)
  · exact absurd rfl b315
set_option maxHeartbeats 4000000 in
set_option maxRecDepth 100000 in
theorem law_as {K : Kx} {E : Ev} {ay : Nat → Nat} {A : Nat → Prop} {b L i9 : Nat} {xs : Nat → Int32} {h g : Hp} (X : Cx K RL cL_law 4 (some .boolean) E A 41) (hS : SX K A b L xs) (hL : L ≤ 3072) (hi : i9 + 6 ≤ L) (hR : Rel h g) (kk : ∀ h2 g2, Rel h2 g2 → GW K 4 E (wdL E ay) A 1099 [some (.ref b), some (.ref (E.2.2.1 0)), some (.ref (ay 0)), some (.int (nI i9))] [] (jn h2 g2)) : GW K 4 E (wdL E ay) A 320 [some (.ref b), some (.ref (E.2.2.1 0)), some (.ref (ay 0)), some (.int (nI i9))] [] (jn h g) := by
  obtain ⟨v, Qx, cX, cY⟩ := op_as (E := E) (E2 := eY E ay) hR (xs (i9 + 1)) (xs (i9 + 2))
  refine P_aload1 X 321 dL_law_320 rfl ?_
  refine P_aload0 X 322 dL_law_321 rfl ?_
  refine P_iload3 X 323 dL_law_322 rfl ?_
  refine P_iconst X (1) rfl 324 dL_law_323 rfl ?_
  refine P_iadd X 325 dL_law_324 rfl ?_
  refine P_sld X hS hL 326 dL_law_325 rfl (nI_add i9 1) (by omega) ?_
  refine P_aload0 X 327 dL_law_326 rfl ?_
  refine P_iload3 X 328 dL_law_327 rfl ?_
  refine P_iconst X (2) rfl 329 dL_law_328 rfl ?_
  refine P_iadd X 330 dL_law_329 rfl ?_
  refine P_sld X hS hL 331 dL_law_330 rfl (nI_add i9 2) (by omega) ?_
  refine V2g X 0 334 dL_law_331 rfl lk_L_32 mv_X8_as rfl (by omega) (Nat.le_of_ble_eq_true rfl) (Nat.le_of_ble_eq_true rfl) rfl rfl (Cl_X cX) (fun r h9 hp => ?_)
  obtain ⟨h1, ⟨rfl, hq1⟩, rfl⟩ := hp
  change GW K 4 E (wdL E ay) A 334 [some (.ref b), some (.ref (E.2.2.1 0)), some (.ref (ay 0)), some (.int (nI i9))] [.int v] (jn h1 g)
  refine P_aload2 X 335 dL_law_334 rfl ?_
  refine P_aload0 X 336 dL_law_335 rfl ?_
  refine P_iload3 X 337 dL_law_336 rfl ?_
  refine P_iconst X (1) rfl 338 dL_law_337 rfl ?_
  refine P_iadd X 339 dL_law_338 rfl ?_
  refine P_sld X hS hL 340 dL_law_339 rfl (nI_add i9 1) (by omega) ?_
  refine P_aload0 X 341 dL_law_340 rfl ?_
  refine P_iload3 X 342 dL_law_341 rfl ?_
  refine P_iconst X (2) rfl 343 dL_law_342 rfl ?_
  refine P_iadd X 344 dL_law_343 rfl ?_
  refine P_sld X hS hL 345 dL_law_344 rfl (nI_add i9 2) (by omega) ?_
  refine V2g X 51 348 dL_law_345 rfl lk_L_35 mv_X9_as rfl (by omega) (Nat.le_of_ble_eq_true rfl) (Nat.le_of_ble_eq_true rfl) rfl rfl (Cl_Y cY) (fun r h9 hp => ?_)
  obtain ⟨g1, ⟨rfl, hq2⟩, rfl⟩ := hp
  change GW K 4 E (wdL E ay) A 348 [some (.ref b), some (.ref (E.2.2.1 0)), some (.ref (ay 0)), some (.int (nI i9))] [.int v, .int v] (jn h1 g1)
  refine P_icmp_eq X 1099 351 dL_law_348 rfl rfl (fun b348 => ?_) (fun b348 => ?_)
  · exact kk _ _ (hq2 _ hq1)
  · exact absurd rfl b348
set_option maxHeartbeats 4000000 in
set_option maxRecDepth 100000 in
theorem law_fewest {K : Kx} {E : Ev} {ay : Nat → Nat} {A : Nat → Prop} {b L i9 : Nat} {xs : Nat → Int32} {h g : Hp} (X : Cx K RL cL_law 4 (some .boolean) E A 41) (hS : SX K A b L xs) (hL : L ≤ 3072) (hi : i9 + 6 ≤ L) (hR : Rel h g) (kk : ∀ h2 g2, Rel h2 g2 → GW K 4 E (wdL E ay) A 1099 [some (.ref b), some (.ref (E.2.2.1 0)), some (.ref (ay 0)), some (.int (nI i9))] [] (jn h2 g2)) : GW K 4 E (wdL E ay) A 353 [some (.ref b), some (.ref (E.2.2.1 0)), some (.ref (ay 0)), some (.int (nI i9))] [] (jn h g) := by
  obtain ⟨v, Qx, cX, cY⟩ := op_fewest (E := E) (E2 := eY E ay) hR (xs (i9 + 1)) (xs (i9 + 2))
  refine P_aload1 X 354 dL_law_353 rfl ?_
  refine P_aload0 X 355 dL_law_354 rfl ?_
  refine P_iload3 X 356 dL_law_355 rfl ?_
  refine P_iconst X (1) rfl 357 dL_law_356 rfl ?_
  refine P_iadd X 358 dL_law_357 rfl ?_
  refine P_sld X hS hL 359 dL_law_358 rfl (nI_add i9 1) (by omega) ?_
  refine P_aload0 X 360 dL_law_359 rfl ?_
  refine P_iload3 X 361 dL_law_360 rfl ?_
  refine P_iconst X (2) rfl 362 dL_law_361 rfl ?_
  refine P_iadd X 363 dL_law_362 rfl ?_
  refine P_sld X hS hL 364 dL_law_363 rfl (nI_add i9 2) (by omega) ?_
  refine V2g X 0 367 dL_law_364 rfl lk_L_36 mv_X8_fewest rfl (by omega) (Nat.le_of_ble_eq_true rfl) (Nat.le_of_ble_eq_true rfl) rfl rfl (Cl_X cX) (fun r h9 hp => ?_)
  obtain ⟨h1, ⟨rfl, hq1⟩, rfl⟩ := hp
  change GW K 4 E (wdL E ay) A 367 [some (.ref b), some (.ref (E.2.2.1 0)), some (.ref (ay 0)), some (.int (nI i9))] [.int v] (jn h1 g)
  refine P_aload2 X 368 dL_law_367 rfl ?_
  refine P_aload0 X 369 dL_law_368 rfl ?_
  refine P_iload3 X 370 dL_law_369 rfl ?_
  refine P_iconst X (1) rfl 371 dL_law_370 rfl ?_
  refine P_iadd X 372 dL_law_371 rfl ?_
  refine P_sld X hS hL 373 dL_law_372 rfl (nI_add i9 1) (by omega) ?_
  refine P_aload0 X 374 dL_law_373 rfl ?_
  refine P_iload3 X 375 dL_law_374 rfl ?_
  refine P_iconst X (2) rfl 376 dL_law_375 rfl ?_
  refine P_iadd X 377 dL_law_376 rfl ?_
  refine P_sld X hS hL 378 dL_law_377 rfl (nI_add i9 2) (by omega) ?_
  refine V2g X 51 381 dL_law_378 rfl lk_L_39 mv_X9_fewest rfl (by omega) (Nat.le_of_ble_eq_true rfl) (Nat.le_of_ble_eq_true rfl) rfl rfl (Cl_Y cY) (fun r h9 hp => ?_)
  obtain ⟨g1, ⟨rfl, hq2⟩, rfl⟩ := hp
  change GW K 4 E (wdL E ay) A 381 [some (.ref b), some (.ref (E.2.2.1 0)), some (.ref (ay 0)), some (.int (nI i9))] [.int v, .int v] (jn h1 g1)
  refine P_icmp_eq X 1099 384 dL_law_381 rfl rfl (fun b381 => ?_) (fun b381 => ?_)
  · exact kk _ _ (hq2 _ hq1)
  · exact absurd rfl b381
set_option maxHeartbeats 4000000 in
set_option maxRecDepth 100000 in
theorem law_thing {K : Kx} {E : Ev} {ay : Nat → Nat} {A : Nat → Prop} {b L i9 : Nat} {xs : Nat → Int32} {h g : Hp} (X : Cx K RL cL_law 4 (some .boolean) E A 41) (hS : SX K A b L xs) (hL : L ≤ 3072) (hi : i9 + 6 ≤ L) (hR : Rel h g) (kk : ∀ h2 g2, Rel h2 g2 → GW K 4 E (wdL E ay) A 1099 [some (.ref b), some (.ref (E.2.2.1 0)), some (.ref (ay 0)), some (.int (nI i9))] [] (jn h2 g2)) : GW K 4 E (wdL E ay) A 386 [some (.ref b), some (.ref (E.2.2.1 0)), some (.ref (ay 0)), some (.int (nI i9))] [] (jn h g) := by
  obtain ⟨v, Qx, cX, cY⟩ := op_thing (E := E) (E2 := eY E ay) hR (xs (i9 + 1)) (xs (i9 + 2))
  refine P_aload1 X 387 dL_law_386 rfl ?_
  refine P_aload0 X 388 dL_law_387 rfl ?_
  refine P_iload3 X 389 dL_law_388 rfl ?_
  refine P_iconst X (1) rfl 390 dL_law_389 rfl ?_
  refine P_iadd X 391 dL_law_390 rfl ?_
  refine P_sld X hS hL 392 dL_law_391 rfl (nI_add i9 1) (by omega) ?_
  refine P_aload0 X 393 dL_law_392 rfl ?_
  refine P_iload3 X 394 dL_law_393 rfl ?_
  refine P_iconst X (2) rfl 395 dL_law_394 rfl ?_
  refine P_iadd X 396 dL_law_395 rfl ?_
  refine P_sld X hS hL 397 dL_law_396 rfl (nI_add i9 2) (by omega) ?_
  refine V2g X 0 400 dL_law_397 rfl lk_L_40 mv_X8_thing rfl (by omega) (Nat.le_of_ble_eq_true rfl) (Nat.le_of_ble_eq_true rfl) rfl rfl (Cl_X cX) (fun r h9 hp => ?_)
  obtain ⟨h1, ⟨rfl, hq1⟩, rfl⟩ := hp
  change GW K 4 E (wdL E ay) A 400 [some (.ref b), some (.ref (E.2.2.1 0)), some (.ref (ay 0)), some (.int (nI i9))] [.int v] (jn h1 g)
  refine P_aload2 X 401 dL_law_400 rfl ?_
  refine P_aload0 X 402 dL_law_401 rfl ?_
  refine P_iload3 X 403 dL_law_402 rfl ?_
  refine P_iconst X (1) rfl 404 dL_law_403 rfl ?_
  refine P_iadd X 405 dL_law_404 rfl ?_
  refine P_sld X hS hL 406 dL_law_405 rfl (nI_add i9 1) (by omega) ?_
  refine P_aload0 X 407 dL_law_406 rfl ?_
  refine P_iload3 X 408 dL_law_407 rfl ?_
  refine P_iconst X (2) rfl 409 dL_law_408 rfl ?_
  refine P_iadd X 410 dL_law_409 rfl ?_
  refine P_sld X hS hL 411 dL_law_410 rfl (nI_add i9 2) (by omega) ?_
  refine V2g X 51 414 dL_law_411 rfl lk_L_43 mv_X9_thing rfl (by omega) (Nat.le_of_ble_eq_true rfl) (Nat.le_of_ble_eq_true rfl) rfl rfl (Cl_Y cY) (fun r h9 hp => ?_)
  obtain ⟨g1, ⟨rfl, hq2⟩, rfl⟩ := hp
  change GW K 4 E (wdL E ay) A 414 [some (.ref b), some (.ref (E.2.2.1 0)), some (.ref (ay 0)), some (.int (nI i9))] [.int v, .int v] (jn h1 g1)
  refine P_icmp_eq X 1099 417 dL_law_414 rfl rfl (fun b414 => ?_) (fun b414 => ?_)
  · exact kk _ _ (hq2 _ hq1)
  · exact absurd rfl b414
set_option maxHeartbeats 4000000 in
set_option maxRecDepth 100000 in
theorem law_asked {K : Kx} {E : Ev} {ay : Nat → Nat} {A : Nat → Prop} {b L i9 : Nat} {xs : Nat → Int32} {h g : Hp} (X : Cx K RL cL_law 4 (some .boolean) E A 41) (hS : SX K A b L xs) (hL : L ≤ 3072) (hi : i9 + 6 ≤ L) (hR : Rel h g) (kk : ∀ h2 g2, Rel h2 g2 → GW K 4 E (wdL E ay) A 1099 [some (.ref b), some (.ref (E.2.2.1 0)), some (.ref (ay 0)), some (.int (nI i9))] [] (jn h2 g2)) : GW K 4 E (wdL E ay) A 419 [some (.ref b), some (.ref (E.2.2.1 0)), some (.ref (ay 0)), some (.int (nI i9))] [] (jn h g) := by
  obtain ⟨v, Qx, cX, cY⟩ := op_asked (E := E) (E2 := eY E ay) hR (xs (i9 + 1)) (xs (i9 + 2))
  refine P_aload1 X 420 dL_law_419 rfl ?_
  refine P_aload0 X 421 dL_law_420 rfl ?_
  refine P_iload3 X 422 dL_law_421 rfl ?_
  refine P_iconst X (1) rfl 423 dL_law_422 rfl ?_
  refine P_iadd X 424 dL_law_423 rfl ?_
  refine P_sld X hS hL 425 dL_law_424 rfl (nI_add i9 1) (by omega) ?_
  refine P_aload0 X 426 dL_law_425 rfl ?_
  refine P_iload3 X 427 dL_law_426 rfl ?_
  refine P_iconst X (2) rfl 428 dL_law_427 rfl ?_
  refine P_iadd X 429 dL_law_428 rfl ?_
  refine P_sld X hS hL 430 dL_law_429 rfl (nI_add i9 2) (by omega) ?_
  refine V2g X 0 433 dL_law_430 rfl lk_L_44 mv_X8_asked rfl (by omega) (Nat.le_of_ble_eq_true rfl) (Nat.le_of_ble_eq_true rfl) rfl rfl (Cl_X cX) (fun r h9 hp => ?_)
  obtain ⟨h1, ⟨rfl, hq1⟩, rfl⟩ := hp
  change GW K 4 E (wdL E ay) A 433 [some (.ref b), some (.ref (E.2.2.1 0)), some (.ref (ay 0)), some (.int (nI i9))] [.int v] (jn h1 g)
  refine P_aload2 X 434 dL_law_433 rfl ?_
  refine P_aload0 X 435 dL_law_434 rfl ?_
  refine P_iload3 X 436 dL_law_435 rfl ?_
  refine P_iconst X (1) rfl 437 dL_law_436 rfl ?_
  refine P_iadd X 438 dL_law_437 rfl ?_
  refine P_sld X hS hL 439 dL_law_438 rfl (nI_add i9 1) (by omega) ?_
  refine P_aload0 X 440 dL_law_439 rfl ?_
  refine P_iload3 X 441 dL_law_440 rfl ?_
  refine P_iconst X (2) rfl 442 dL_law_441 rfl ?_
  refine P_iadd X 443 dL_law_442 rfl ?_
  refine P_sld X hS hL 444 dL_law_443 rfl (nI_add i9 2) (by omega) ?_
  refine V2g X 51 447 dL_law_444 rfl lk_L_47 mv_X9_asked rfl (by omega) (Nat.le_of_ble_eq_true rfl) (Nat.le_of_ble_eq_true rfl) rfl rfl (Cl_Y cY) (fun r h9 hp => ?_)
  obtain ⟨g1, ⟨rfl, hq2⟩, rfl⟩ := hp
  change GW K 4 E (wdL E ay) A 447 [some (.ref b), some (.ref (E.2.2.1 0)), some (.ref (ay 0)), some (.int (nI i9))] [.int v, .int v] (jn h1 g1)
  refine P_icmp_eq X 1099 450 dL_law_447 rfl rfl (fun b447 => ?_) (fun b447 => ?_)
  · exact kk _ _ (hq2 _ hq1)
  · exact absurd rfl b447
set_option maxHeartbeats 4000000 in
set_option maxRecDepth 100000 in
theorem law_feed {K : Kx} {E : Ev} {ay : Nat → Nat} {A : Nat → Prop} {b L i9 : Nat} {xs : Nat → Int32} {h g : Hp} (X : Cx K RL cL_law 4 (some .boolean) E A 41) (hS : SX K A b L xs) (hL : L ≤ 3072) (hi : i9 + 6 ≤ L) (hR : Rel h g) (kk : ∀ h2 g2, Rel h2 g2 → GW K 4 E (wdL E ay) A 1099 [some (.ref b), some (.ref (E.2.2.1 0)), some (.ref (ay 0)), some (.int (nI i9))] [] (jn h2 g2)) : GW K 4 E (wdL E ay) A 452 [some (.ref b), some (.ref (E.2.2.1 0)), some (.ref (ay 0)), some (.int (nI i9))] [] (jn h g) := by
  obtain ⟨v, Qx, cX, cY⟩ := op_feed (E := E) (E2 := eY E ay) hR ((((xs (i9 + 1)).toInt64) <<< ((32 : Int32).toInt64 &&& 63)) ||| ((xs (i9 + 2)).toInt64 &&& 4294967295)) (xs (i9 + 3))
  refine P_aload1 X 453 dL_law_452 rfl ?_
  refine P_aload0 X 454 dL_law_453 rfl ?_
  refine P_iload3 X 455 dL_law_454 rfl ?_
  refine P_iconst X (1) rfl 456 dL_law_455 rfl ?_
  refine P_iadd X 457 dL_law_456 rfl ?_
  refine P_sld X hS hL 458 dL_law_457 rfl (nI_add i9 1) (by omega) ?_
  refine P_i2l X 459 dL_law_458 rfl ?_
  refine P_bipush X (32) rfl 461 dL_law_459 rfl ?_
  refine P_lshl X 462 dL_law_461 rfl ?_
  refine P_aload0 X 463 dL_law_462 rfl ?_
  refine P_iload3 X 464 dL_law_463 rfl ?_
  refine P_iconst X (2) rfl 465 dL_law_464 rfl ?_
  refine P_iadd X 466 dL_law_465 rfl ?_
  refine P_sld X hS hL 467 dL_law_466 rfl (nI_add i9 2) (by omega) ?_
  refine P_i2l X 468 dL_law_467 rfl ?_
  refine P_ldc2 X kc_L_48 471 dL_law_468 rfl ?_
  refine P_land X 472 dL_law_471 rfl ?_
  refine P_lor X 473 dL_law_472 rfl ?_
  refine P_aload0 X 474 dL_law_473 rfl ?_
  refine P_iload3 X 475 dL_law_474 rfl ?_
  refine P_iconst X (3) rfl 476 dL_law_475 rfl ?_
  refine P_iadd X 477 dL_law_476 rfl ?_
  refine P_sld X hS hL 478 dL_law_477 rfl (nI_add i9 3) (by omega) ?_
  refine V2g X 0 481 dL_law_478 rfl lk_L_50 mv_X8_feed rfl (by omega) (Nat.le_of_ble_eq_true rfl) (Nat.le_of_ble_eq_true rfl) rfl rfl (Cl_X cX) (fun r h9 hp => ?_)
  obtain ⟨h1, ⟨rfl, hq1⟩, rfl⟩ := hp
  change GW K 4 E (wdL E ay) A 481 [some (.ref b), some (.ref (E.2.2.1 0)), some (.ref (ay 0)), some (.int (nI i9))] [.int v] (jn h1 g)
  refine P_aload2 X 482 dL_law_481 rfl ?_
  refine P_aload0 X 483 dL_law_482 rfl ?_
  refine P_iload3 X 484 dL_law_483 rfl ?_
  refine P_iconst X (1) rfl 485 dL_law_484 rfl ?_
  refine P_iadd X 486 dL_law_485 rfl ?_
  refine P_sld X hS hL 487 dL_law_486 rfl (nI_add i9 1) (by omega) ?_
  refine P_i2l X 488 dL_law_487 rfl ?_
  refine P_bipush X (32) rfl 490 dL_law_488 rfl ?_
  refine P_lshl X 491 dL_law_490 rfl ?_
  refine P_aload0 X 492 dL_law_491 rfl ?_
  refine P_iload3 X 493 dL_law_492 rfl ?_
  refine P_iconst X (2) rfl 494 dL_law_493 rfl ?_
  refine P_iadd X 495 dL_law_494 rfl ?_
  refine P_sld X hS hL 496 dL_law_495 rfl (nI_add i9 2) (by omega) ?_
  refine P_i2l X 497 dL_law_496 rfl ?_
  refine P_ldc2 X kc_L_48 500 dL_law_497 rfl ?_
  refine P_land X 501 dL_law_500 rfl ?_
  refine P_lor X 502 dL_law_501 rfl ?_
  refine P_aload0 X 503 dL_law_502 rfl ?_
  refine P_iload3 X 504 dL_law_503 rfl ?_
  refine P_iconst X (3) rfl 505 dL_law_504 rfl ?_
  refine P_iadd X 506 dL_law_505 rfl ?_
  refine P_sld X hS hL 507 dL_law_506 rfl (nI_add i9 3) (by omega) ?_
  refine V2g X 51 510 dL_law_507 rfl lk_L_54 mv_X9_feed rfl (by omega) (Nat.le_of_ble_eq_true rfl) (Nat.le_of_ble_eq_true rfl) rfl rfl (Cl_Y cY) (fun r h9 hp => ?_)
  obtain ⟨g1, ⟨rfl, hq2⟩, rfl⟩ := hp
  change GW K 4 E (wdL E ay) A 510 [some (.ref b), some (.ref (E.2.2.1 0)), some (.ref (ay 0)), some (.int (nI i9))] [.int v, .int v] (jn h1 g1)
  refine P_icmp_eq X 1099 513 dL_law_510 rfl rfl (fun b510 => ?_) (fun b510 => ?_)
  · exact kk _ _ (hq2 _ hq1)
  · exact absurd rfl b510
set_option maxHeartbeats 4000000 in
set_option maxRecDepth 100000 in
theorem law_text {K : Kx} {E : Ev} {ay : Nat → Nat} {A : Nat → Prop} {b L i9 : Nat} {xs : Nat → Int32} {h g : Hp} (X : Cx K RL cL_law 4 (some .boolean) E A 41) (hS : SX K A b L xs) (hL : L ≤ 3072) (hi : i9 + 6 ≤ L) (hR : Rel h g) (kk : ∀ h2 g2, Rel h2 g2 → GW K 4 E (wdL E ay) A 1099 [some (.ref b), some (.ref (E.2.2.1 0)), some (.ref (ay 0)), some (.int (nI i9))] [] (jn h2 g2)) : GW K 4 E (wdL E ay) A 515 [some (.ref b), some (.ref (E.2.2.1 0)), some (.ref (ay 0)), some (.int (nI i9))] [] (jn h g) := by
  obtain ⟨v, Qx, cX, cY⟩ := op_text (E := E) (E2 := eY E ay) hR 
  refine P_aload1 X 516 dL_law_515 rfl ?_
  refine V0g X 0 519 dL_law_516 rfl lk_L_55 mv_X8_text rfl (by omega) (Nat.le_of_ble_eq_true rfl) (Nat.le_of_ble_eq_true rfl) rfl rfl (Cl_X cX) (fun r h9 hp => ?_)
  obtain ⟨h1, ⟨rfl, hq1⟩, rfl⟩ := hp
  change GW K 4 E (wdL E ay) A 519 [some (.ref b), some (.ref (E.2.2.1 0)), some (.ref (ay 0)), some (.int (nI i9))] [.int v] (jn h1 g)
  refine P_aload2 X 520 dL_law_519 rfl ?_
  refine V0g X 51 523 dL_law_520 rfl lk_L_59 mv_X9_text rfl (by omega) (Nat.le_of_ble_eq_true rfl) (Nat.le_of_ble_eq_true rfl) rfl rfl (Cl_Y cY) (fun r h9 hp => ?_)
  obtain ⟨g1, ⟨rfl, hq2⟩, rfl⟩ := hp
  change GW K 4 E (wdL E ay) A 523 [some (.ref b), some (.ref (E.2.2.1 0)), some (.ref (ay 0)), some (.int (nI i9))] [.int v, .int v] (jn h1 g1)
  refine P_icmp_eq X 1099 526 dL_law_523 rfl rfl (fun b523 => ?_) (fun b523 => ?_)
  · exact kk _ _ (hq2 _ hq1)
  · exact absurd rfl b523
set_option maxHeartbeats 4000000 in
set_option maxRecDepth 100000 in
theorem law_whose {K : Kx} {E : Ev} {ay : Nat → Nat} {A : Nat → Prop} {b L i9 : Nat} {xs : Nat → Int32} {h g : Hp} (X : Cx K RL cL_law 4 (some .boolean) E A 41) (hS : SX K A b L xs) (hL : L ≤ 3072) (hi : i9 + 6 ≤ L) (hR : Rel h g) (kk : ∀ h2 g2, Rel h2 g2 → GW K 4 E (wdL E ay) A 1099 [some (.ref b), some (.ref (E.2.2.1 0)), some (.ref (ay 0)), some (.int (nI i9))] [] (jn h2 g2)) : GW K 4 E (wdL E ay) A 528 [some (.ref b), some (.ref (E.2.2.1 0)), some (.ref (ay 0)), some (.int (nI i9))] [] (jn h g) := by
  obtain ⟨v, Qx, cX, cY⟩ := op_whose (E := E) (E2 := eY E ay) hR (xs (i9 + 1))
  refine P_aload1 X 529 dL_law_528 rfl ?_
  refine P_aload0 X 530 dL_law_529 rfl ?_
  refine P_iload3 X 531 dL_law_530 rfl ?_
  refine P_iconst X (1) rfl 532 dL_law_531 rfl ?_
  refine P_iadd X 533 dL_law_532 rfl ?_
  refine P_sld X hS hL 534 dL_law_533 rfl (nI_add i9 1) (by omega) ?_
  refine V1g X 0 537 dL_law_534 rfl lk_L_60 mv_X8_whose rfl (by omega) (Nat.le_of_ble_eq_true rfl) (Nat.le_of_ble_eq_true rfl) rfl rfl (Cl_X cX) (fun r h9 hp => ?_)
  obtain ⟨h1, ⟨rfl, hq1⟩, rfl⟩ := hp
  change GW K 4 E (wdL E ay) A 537 [some (.ref b), some (.ref (E.2.2.1 0)), some (.ref (ay 0)), some (.int (nI i9))] [.int v] (jn h1 g)
  refine P_aload2 X 538 dL_law_537 rfl ?_
  refine P_aload0 X 539 dL_law_538 rfl ?_
  refine P_iload3 X 540 dL_law_539 rfl ?_
  refine P_iconst X (1) rfl 541 dL_law_540 rfl ?_
  refine P_iadd X 542 dL_law_541 rfl ?_
  refine P_sld X hS hL 543 dL_law_542 rfl (nI_add i9 1) (by omega) ?_
  refine V1g X 51 546 dL_law_543 rfl lk_L_64 mv_X9_whose rfl (by omega) (Nat.le_of_ble_eq_true rfl) (Nat.le_of_ble_eq_true rfl) rfl rfl (Cl_Y cY) (fun r h9 hp => ?_)
  obtain ⟨g1, ⟨rfl, hq2⟩, rfl⟩ := hp
  change GW K 4 E (wdL E ay) A 546 [some (.ref b), some (.ref (E.2.2.1 0)), some (.ref (ay 0)), some (.int (nI i9))] [.int v, .int v] (jn h1 g1)
  refine P_icmp_eq X 1099 549 dL_law_546 rfl rfl (fun b546 => ?_) (fun b546 => ?_)
  · exact kk _ _ (hq2 _ hq1)
  · exact absurd rfl b546
set_option maxHeartbeats 4000000 in
set_option maxRecDepth 100000 in
theorem law_promise {K : Kx} {E : Ev} {ay : Nat → Nat} {A : Nat → Prop} {b L i9 : Nat} {xs : Nat → Int32} {h g : Hp} (X : Cx K RL cL_law 4 (some .boolean) E A 41) (hS : SX K A b L xs) (hL : L ≤ 3072) (hi : i9 + 6 ≤ L) (hR : Rel h g) (kk : ∀ h2 g2, Rel h2 g2 → GW K 4 E (wdL E ay) A 1099 [some (.ref b), some (.ref (E.2.2.1 0)), some (.ref (ay 0)), some (.int (nI i9))] [] (jn h2 g2)) : GW K 4 E (wdL E ay) A 551 [some (.ref b), some (.ref (E.2.2.1 0)), some (.ref (ay 0)), some (.int (nI i9))] [] (jn h g) := by
  obtain ⟨v, Qx, cX, cY⟩ := op_promise (E := E) (E2 := eY E ay) hR (xs (i9 + 1))
  refine P_aload1 X 552 dL_law_551 rfl ?_
  refine P_aload0 X 553 dL_law_552 rfl ?_
  refine P_iload3 X 554 dL_law_553 rfl ?_
  refine P_iconst X (1) rfl 555 dL_law_554 rfl ?_
  refine P_iadd X 556 dL_law_555 rfl ?_
  refine P_sld X hS hL 557 dL_law_556 rfl (nI_add i9 1) (by omega) ?_
  refine V1g X 0 560 dL_law_557 rfl lk_L_65 mv_X8_promise rfl (by omega) (Nat.le_of_ble_eq_true rfl) (Nat.le_of_ble_eq_true rfl) rfl rfl (Cl_X cX) (fun r h9 hp => ?_)
  obtain ⟨h1, ⟨rfl, hq1⟩, rfl⟩ := hp
  change GW K 4 E (wdL E ay) A 560 [some (.ref b), some (.ref (E.2.2.1 0)), some (.ref (ay 0)), some (.int (nI i9))] [.int v] (jn h1 g)
  refine P_aload2 X 561 dL_law_560 rfl ?_
  refine P_aload0 X 562 dL_law_561 rfl ?_
  refine P_iload3 X 563 dL_law_562 rfl ?_
  refine P_iconst X (1) rfl 564 dL_law_563 rfl ?_
  refine P_iadd X 565 dL_law_564 rfl ?_
  refine P_sld X hS hL 566 dL_law_565 rfl (nI_add i9 1) (by omega) ?_
  refine V1g X 51 569 dL_law_566 rfl lk_L_68 mv_X9_promise rfl (by omega) (Nat.le_of_ble_eq_true rfl) (Nat.le_of_ble_eq_true rfl) rfl rfl (Cl_Y cY) (fun r h9 hp => ?_)
  obtain ⟨g1, ⟨rfl, hq2⟩, rfl⟩ := hp
  change GW K 4 E (wdL E ay) A 569 [some (.ref b), some (.ref (E.2.2.1 0)), some (.ref (ay 0)), some (.int (nI i9))] [.int v, .int v] (jn h1 g1)
  refine P_icmp_eq X 1099 572 dL_law_569 rfl rfl (fun b569 => ?_) (fun b569 => ?_)
  · exact kk _ _ (hq2 _ hq1)
  · exact absurd rfl b569
set_option maxHeartbeats 4000000 in
set_option maxRecDepth 100000 in
theorem law_sent {K : Kx} {E : Ev} {ay : Nat → Nat} {A : Nat → Prop} {b L i9 : Nat} {xs : Nat → Int32} {h g : Hp} (X : Cx K RL cL_law 4 (some .boolean) E A 41) (hS : SX K A b L xs) (hL : L ≤ 3072) (hi : i9 + 6 ≤ L) (hR : Rel h g) (kk : ∀ h2 g2, Rel h2 g2 → GW K 4 E (wdL E ay) A 1099 [some (.ref b), some (.ref (E.2.2.1 0)), some (.ref (ay 0)), some (.int (nI i9))] [] (jn h2 g2)) : GW K 4 E (wdL E ay) A 574 [some (.ref b), some (.ref (E.2.2.1 0)), some (.ref (ay 0)), some (.int (nI i9))] [] (jn h g) := by
  obtain ⟨v, Qx, cX, cY⟩ := op_sent (E := E) (E2 := eY E ay) hR (xs (i9 + 1))
  refine P_aload1 X 575 dL_law_574 rfl ?_
  refine P_aload0 X 576 dL_law_575 rfl ?_
  refine P_iload3 X 577 dL_law_576 rfl ?_
  refine P_iconst X (1) rfl 578 dL_law_577 rfl ?_
  refine P_iadd X 579 dL_law_578 rfl ?_
  refine P_sld X hS hL 580 dL_law_579 rfl (nI_add i9 1) (by omega) ?_
  refine V1g X 0 583 dL_law_580 rfl lk_L_69 mv_X8_sent rfl (by omega) (Nat.le_of_ble_eq_true rfl) (Nat.le_of_ble_eq_true rfl) rfl rfl (Cl_X cX) (fun r h9 hp => ?_)
  obtain ⟨h1, ⟨rfl, hq1⟩, rfl⟩ := hp
  change GW K 4 E (wdL E ay) A 583 [some (.ref b), some (.ref (E.2.2.1 0)), some (.ref (ay 0)), some (.int (nI i9))] [.int v] (jn h1 g)
  refine P_aload2 X 584 dL_law_583 rfl ?_
  refine P_aload0 X 585 dL_law_584 rfl ?_
  refine P_iload3 X 586 dL_law_585 rfl ?_
  refine P_iconst X (1) rfl 587 dL_law_586 rfl ?_
  refine P_iadd X 588 dL_law_587 rfl ?_
  refine P_sld X hS hL 589 dL_law_588 rfl (nI_add i9 1) (by omega) ?_
  refine V1g X 51 592 dL_law_589 rfl lk_L_72 mv_X9_sent rfl (by omega) (Nat.le_of_ble_eq_true rfl) (Nat.le_of_ble_eq_true rfl) rfl rfl (Cl_Y cY) (fun r h9 hp => ?_)
  obtain ⟨g1, ⟨rfl, hq2⟩, rfl⟩ := hp
  change GW K 4 E (wdL E ay) A 592 [some (.ref b), some (.ref (E.2.2.1 0)), some (.ref (ay 0)), some (.int (nI i9))] [.int v, .int v] (jn h1 g1)
  refine P_icmp_eq X 1099 595 dL_law_592 rfl rfl (fun b592 => ?_) (fun b592 => ?_)
  · exact kk _ _ (hq2 _ hq1)
  · exact absurd rfl b592
set_option maxHeartbeats 4000000 in
set_option maxRecDepth 100000 in
theorem law_effort {K : Kx} {E : Ev} {ay : Nat → Nat} {A : Nat → Prop} {b L i9 : Nat} {xs : Nat → Int32} {h g : Hp} (X : Cx K RL cL_law 4 (some .boolean) E A 41) (hS : SX K A b L xs) (hL : L ≤ 3072) (hi : i9 + 6 ≤ L) (hR : Rel h g) (kk : ∀ h2 g2, Rel h2 g2 → GW K 4 E (wdL E ay) A 1099 [some (.ref b), some (.ref (E.2.2.1 0)), some (.ref (ay 0)), some (.int (nI i9))] [] (jn h2 g2)) : GW K 4 E (wdL E ay) A 597 [some (.ref b), some (.ref (E.2.2.1 0)), some (.ref (ay 0)), some (.int (nI i9))] [] (jn h g) := by
  obtain ⟨v, Qx, cX, cY⟩ := op_effort (E := E) (E2 := eY E ay) hR (xs (i9 + 1)) (xs (i9 + 2))
  refine P_aload1 X 598 dL_law_597 rfl ?_
  refine P_aload0 X 599 dL_law_598 rfl ?_
  refine P_iload3 X 600 dL_law_599 rfl ?_
  refine P_iconst X (1) rfl 601 dL_law_600 rfl ?_
  refine P_iadd X 602 dL_law_601 rfl ?_
  refine P_sld X hS hL 603 dL_law_602 rfl (nI_add i9 1) (by omega) ?_
  refine P_aload0 X 604 dL_law_603 rfl ?_
  refine P_iload3 X 605 dL_law_604 rfl ?_
  refine P_iconst X (2) rfl 606 dL_law_605 rfl ?_
  refine P_iadd X 607 dL_law_606 rfl ?_
  refine P_sld X hS hL 608 dL_law_607 rfl (nI_add i9 2) (by omega) ?_
  refine V2g X 0 611 dL_law_608 rfl lk_L_73 mv_X8_effort rfl (by omega) (Nat.le_of_ble_eq_true rfl) (Nat.le_of_ble_eq_true rfl) rfl rfl (Cl_X cX) (fun r h9 hp => ?_)
  obtain ⟨h1, ⟨rfl, hq1⟩, rfl⟩ := hp
  change GW K 4 E (wdL E ay) A 611 [some (.ref b), some (.ref (E.2.2.1 0)), some (.ref (ay 0)), some (.int (nI i9))] [.int v] (jn h1 g)
  refine P_aload2 X 612 dL_law_611 rfl ?_
  refine P_aload0 X 613 dL_law_612 rfl ?_
  refine P_iload3 X 614 dL_law_613 rfl ?_
  refine P_iconst X (1) rfl 615 dL_law_614 rfl ?_
  refine P_iadd X 616 dL_law_615 rfl ?_
  refine P_sld X hS hL 617 dL_law_616 rfl (nI_add i9 1) (by omega) ?_
  refine P_aload0 X 618 dL_law_617 rfl ?_
  refine P_iload3 X 619 dL_law_618 rfl ?_
  refine P_iconst X (2) rfl 620 dL_law_619 rfl ?_
  refine P_iadd X 621 dL_law_620 rfl ?_
  refine P_sld X hS hL 622 dL_law_621 rfl (nI_add i9 2) (by omega) ?_
  refine V2g X 51 625 dL_law_622 rfl lk_L_76 mv_X9_effort rfl (by omega) (Nat.le_of_ble_eq_true rfl) (Nat.le_of_ble_eq_true rfl) rfl rfl (Cl_Y cY) (fun r h9 hp => ?_)
  obtain ⟨g1, ⟨rfl, hq2⟩, rfl⟩ := hp
  change GW K 4 E (wdL E ay) A 625 [some (.ref b), some (.ref (E.2.2.1 0)), some (.ref (ay 0)), some (.int (nI i9))] [.int v, .int v] (jn h1 g1)
  refine P_icmp_eq X 1099 628 dL_law_625 rfl rfl (fun b625 => ?_) (fun b625 => ?_)
  · exact kk _ _ (hq2 _ hq1)
  · exact absurd rfl b625
set_option maxHeartbeats 4000000 in
set_option maxRecDepth 100000 in
theorem law_order {K : Kx} {E : Ev} {ay : Nat → Nat} {A : Nat → Prop} {b L i9 : Nat} {xs : Nat → Int32} {h g : Hp} (X : Cx K RL cL_law 4 (some .boolean) E A 41) (hS : SX K A b L xs) (hL : L ≤ 3072) (hi : i9 + 6 ≤ L) (hR : Rel h g) (kk : ∀ h2 g2, Rel h2 g2 → GW K 4 E (wdL E ay) A 1099 [some (.ref b), some (.ref (E.2.2.1 0)), some (.ref (ay 0)), some (.int (nI i9))] [] (jn h2 g2)) : GW K 4 E (wdL E ay) A 630 [some (.ref b), some (.ref (E.2.2.1 0)), some (.ref (ay 0)), some (.int (nI i9))] [] (jn h g) := by
  obtain ⟨v, Qx, cX, cY⟩ := op_order (E := E) (E2 := eY E ay) hR (xs (i9 + 1)) (xs (i9 + 2)) (xs (i9 + 3)) (xs (i9 + 4)) (xs (i9 + 5))
  refine P_aload1 X 631 dL_law_630 rfl ?_
  refine P_aload0 X 632 dL_law_631 rfl ?_
  refine P_iload3 X 633 dL_law_632 rfl ?_
  refine P_iconst X (1) rfl 634 dL_law_633 rfl ?_
  refine P_iadd X 635 dL_law_634 rfl ?_
  refine P_sld X hS hL 636 dL_law_635 rfl (nI_add i9 1) (by omega) ?_
  refine P_aload0 X 637 dL_law_636 rfl ?_
  refine P_iload3 X 638 dL_law_637 rfl ?_
  refine P_iconst X (2) rfl 639 dL_law_638 rfl ?_
  refine P_iadd X 640 dL_law_639 rfl ?_
  refine P_sld X hS hL 641 dL_law_640 rfl (nI_add i9 2) (by omega) ?_
  refine P_aload0 X 642 dL_law_641 rfl ?_
  refine P_iload3 X 643 dL_law_642 rfl ?_
  refine P_iconst X (3) rfl 644 dL_law_643 rfl ?_
  refine P_iadd X 645 dL_law_644 rfl ?_
  refine P_sld X hS hL 646 dL_law_645 rfl (nI_add i9 3) (by omega) ?_
  refine P_aload0 X 647 dL_law_646 rfl ?_
  refine P_iload3 X 648 dL_law_647 rfl ?_
  refine P_iconst X (4) rfl 649 dL_law_648 rfl ?_
  refine P_iadd X 650 dL_law_649 rfl ?_
  refine P_sld X hS hL 651 dL_law_650 rfl (nI_add i9 4) (by omega) ?_
  refine P_aload0 X 652 dL_law_651 rfl ?_
  refine P_iload3 X 653 dL_law_652 rfl ?_
  refine P_iconst X (5) rfl 654 dL_law_653 rfl ?_
  refine P_iadd X 655 dL_law_654 rfl ?_
  refine P_sld X hS hL 656 dL_law_655 rfl (nI_add i9 5) (by omega) ?_
  refine V5g X 0 659 dL_law_656 rfl lk_L_77 mv_X8_order rfl (by omega) (Nat.le_of_ble_eq_true rfl) (Nat.le_of_ble_eq_true rfl) rfl rfl (Cl_X cX) (fun r h9 hp => ?_)
  obtain ⟨h1, ⟨rfl, hq1⟩, rfl⟩ := hp
  change GW K 4 E (wdL E ay) A 659 [some (.ref b), some (.ref (E.2.2.1 0)), some (.ref (ay 0)), some (.int (nI i9))] [.int v] (jn h1 g)
  refine P_aload2 X 660 dL_law_659 rfl ?_
  refine P_aload0 X 661 dL_law_660 rfl ?_
  refine P_iload3 X 662 dL_law_661 rfl ?_
  refine P_iconst X (1) rfl 663 dL_law_662 rfl ?_
  refine P_iadd X 664 dL_law_663 rfl ?_
  refine P_sld X hS hL 665 dL_law_664 rfl (nI_add i9 1) (by omega) ?_
  refine P_aload0 X 666 dL_law_665 rfl ?_
  refine P_iload3 X 667 dL_law_666 rfl ?_
  refine P_iconst X (2) rfl 668 dL_law_667 rfl ?_
  refine P_iadd X 669 dL_law_668 rfl ?_
  refine P_sld X hS hL 670 dL_law_669 rfl (nI_add i9 2) (by omega) ?_
  refine P_aload0 X 671 dL_law_670 rfl ?_
  refine P_iload3 X 672 dL_law_671 rfl ?_
  refine P_iconst X (3) rfl 673 dL_law_672 rfl ?_
  refine P_iadd X 674 dL_law_673 rfl ?_
  refine P_sld X hS hL 675 dL_law_674 rfl (nI_add i9 3) (by omega) ?_
  refine P_aload0 X 676 dL_law_675 rfl ?_
  refine P_iload3 X 677 dL_law_676 rfl ?_
  refine P_iconst X (4) rfl 678 dL_law_677 rfl ?_
  refine P_iadd X 679 dL_law_678 rfl ?_
  refine P_sld X hS hL 680 dL_law_679 rfl (nI_add i9 4) (by omega) ?_
  refine P_aload0 X 681 dL_law_680 rfl ?_
  refine P_iload3 X 682 dL_law_681 rfl ?_
  refine P_iconst X (5) rfl 683 dL_law_682 rfl ?_
  refine P_iadd X 684 dL_law_683 rfl ?_
  refine P_sld X hS hL 685 dL_law_684 rfl (nI_add i9 5) (by omega) ?_
  refine V5g X 51 688 dL_law_685 rfl lk_L_80 mv_X9_order rfl (by omega) (Nat.le_of_ble_eq_true rfl) (Nat.le_of_ble_eq_true rfl) rfl rfl (Cl_Y cY) (fun r h9 hp => ?_)
  obtain ⟨g1, ⟨rfl, hq2⟩, rfl⟩ := hp
  change GW K 4 E (wdL E ay) A 688 [some (.ref b), some (.ref (E.2.2.1 0)), some (.ref (ay 0)), some (.int (nI i9))] [.int v, .int v] (jn h1 g1)
  refine P_icmp_eq X 1099 691 dL_law_688 rfl rfl (fun b688 => ?_) (fun b688 => ?_)
  · exact kk _ _ (hq2 _ hq1)
  · exact absurd rfl b688
set_option maxHeartbeats 4000000 in
set_option maxRecDepth 100000 in
theorem law_close {K : Kx} {E : Ev} {ay : Nat → Nat} {A : Nat → Prop} {b L i9 : Nat} {xs : Nat → Int32} {h g : Hp} (X : Cx K RL cL_law 4 (some .boolean) E A 41) (hS : SX K A b L xs) (hL : L ≤ 3072) (hi : i9 + 6 ≤ L) (hR : Rel h g) (kk : ∀ h2 g2, Rel h2 g2 → GW K 4 E (wdL E ay) A 1099 [some (.ref b), some (.ref (E.2.2.1 0)), some (.ref (ay 0)), some (.int (nI i9))] [] (jn h2 g2)) : GW K 4 E (wdL E ay) A 693 [some (.ref b), some (.ref (E.2.2.1 0)), some (.ref (ay 0)), some (.int (nI i9))] [] (jn h g) := by
  obtain ⟨v, Qx, cX, cY⟩ := op_close (E := E) (E2 := eY E ay) hR (xs (i9 + 1)) (xs (i9 + 2))
  refine P_aload1 X 694 dL_law_693 rfl ?_
  refine P_aload0 X 695 dL_law_694 rfl ?_
  refine P_iload3 X 696 dL_law_695 rfl ?_
  refine P_iconst X (1) rfl 697 dL_law_696 rfl ?_
  refine P_iadd X 698 dL_law_697 rfl ?_
  refine P_sld X hS hL 699 dL_law_698 rfl (nI_add i9 1) (by omega) ?_
  refine P_aload0 X 700 dL_law_699 rfl ?_
  refine P_iload3 X 701 dL_law_700 rfl ?_
  refine P_iconst X (2) rfl 702 dL_law_701 rfl ?_
  refine P_iadd X 703 dL_law_702 rfl ?_
  refine P_sld X hS hL 704 dL_law_703 rfl (nI_add i9 2) (by omega) ?_
  refine V2g X 0 707 dL_law_704 rfl lk_L_81 mv_X8_close rfl (by omega) (Nat.le_of_ble_eq_true rfl) (Nat.le_of_ble_eq_true rfl) rfl rfl (Cl_X cX) (fun r h9 hp => ?_)
  obtain ⟨h1, ⟨rfl, hq1⟩, rfl⟩ := hp
  change GW K 4 E (wdL E ay) A 707 [some (.ref b), some (.ref (E.2.2.1 0)), some (.ref (ay 0)), some (.int (nI i9))] [.int v] (jn h1 g)
  refine P_aload2 X 708 dL_law_707 rfl ?_
  refine P_aload0 X 709 dL_law_708 rfl ?_
  refine P_iload3 X 710 dL_law_709 rfl ?_
  refine P_iconst X (1) rfl 711 dL_law_710 rfl ?_
  refine P_iadd X 712 dL_law_711 rfl ?_
  refine P_sld X hS hL 713 dL_law_712 rfl (nI_add i9 1) (by omega) ?_
  refine P_aload0 X 714 dL_law_713 rfl ?_
  refine P_iload3 X 715 dL_law_714 rfl ?_
  refine P_iconst X (2) rfl 716 dL_law_715 rfl ?_
  refine P_iadd X 717 dL_law_716 rfl ?_
  refine P_sld X hS hL 718 dL_law_717 rfl (nI_add i9 2) (by omega) ?_
  refine V2g X 51 721 dL_law_718 rfl lk_L_84 mv_X9_close rfl (by omega) (Nat.le_of_ble_eq_true rfl) (Nat.le_of_ble_eq_true rfl) rfl rfl (Cl_Y cY) (fun r h9 hp => ?_)
  obtain ⟨g1, ⟨rfl, hq2⟩, rfl⟩ := hp
  change GW K 4 E (wdL E ay) A 721 [some (.ref b), some (.ref (E.2.2.1 0)), some (.ref (ay 0)), some (.int (nI i9))] [.int v, .int v] (jn h1 g1)
  refine P_icmp_eq X 1099 724 dL_law_721 rfl rfl (fun b721 => ?_) (fun b721 => ?_)
  · exact kk _ _ (hq2 _ hq1)
  · exact absurd rfl b721
set_option maxHeartbeats 4000000 in
set_option maxRecDepth 100000 in
theorem law_look {K : Kx} {E : Ev} {ay : Nat → Nat} {A : Nat → Prop} {b L i9 : Nat} {xs : Nat → Int32} {h g : Hp} (X : Cx K RL cL_law 4 (some .boolean) E A 41) (hS : SX K A b L xs) (hL : L ≤ 3072) (hi : i9 + 6 ≤ L) (hR : Rel h g) (kk : ∀ h2 g2, Rel h2 g2 → GW K 4 E (wdL E ay) A 1099 [some (.ref b), some (.ref (E.2.2.1 0)), some (.ref (ay 0)), some (.int (nI i9))] [] (jn h2 g2)) : GW K 4 E (wdL E ay) A 726 [some (.ref b), some (.ref (E.2.2.1 0)), some (.ref (ay 0)), some (.int (nI i9))] [] (jn h g) := by
  by_cases z : xs (i9 + 2) = 0
  · obtain ⟨v, Qx, cX, cY⟩ := op_look (E := E) (E2 := eY E ay) hR (xs (i9 + 1)) false
    refine P_aload1 X 727 dL_law_726 rfl ?_
    refine P_aload0 X 728 dL_law_727 rfl ?_
    refine P_iload3 X 729 dL_law_728 rfl ?_
    refine P_iconst X (1) rfl 730 dL_law_729 rfl ?_
    refine P_iadd X 731 dL_law_730 rfl ?_
    refine P_sld X hS hL 732 dL_law_731 rfl (nI_add i9 1) (by omega) ?_
    refine P_aload0 X 733 dL_law_732 rfl ?_
    refine P_iload3 X 734 dL_law_733 rfl ?_
    refine P_iconst X (2) rfl 735 dL_law_734 rfl ?_
    refine P_iadd X 736 dL_law_735 rfl ?_
    refine P_sld X hS hL 737 dL_law_736 rfl (nI_add i9 2) (by omega) ?_
    refine P_if_eq X 744 740 dL_law_737 rfl rfl (fun b737 => ?_) (fun b737 => ?_)
    · refine P_iconst X (0) rfl 745 dL_law_744 rfl ?_
      refine V2g X 0 748 dL_law_745 rfl lk_L_85 mv_X8_look rfl (by omega) (Nat.le_of_ble_eq_true rfl) (Nat.le_of_ble_eq_true rfl) rfl rfl (Cl_X cX) (fun r h9 hp => ?_)
      obtain ⟨h1, ⟨rfl, hq1⟩, rfl⟩ := hp
      change GW K 4 E (wdL E ay) A 748 [some (.ref b), some (.ref (E.2.2.1 0)), some (.ref (ay 0)), some (.int (nI i9))] [.int v] (jn h1 g)
      refine P_aload2 X 749 dL_law_748 rfl ?_
      refine P_aload0 X 750 dL_law_749 rfl ?_
      refine P_iload3 X 751 dL_law_750 rfl ?_
      refine P_iconst X (1) rfl 752 dL_law_751 rfl ?_
      refine P_iadd X 753 dL_law_752 rfl ?_
      refine P_sld X hS hL 754 dL_law_753 rfl (nI_add i9 1) (by omega) ?_
      refine P_aload0 X 755 dL_law_754 rfl ?_
      refine P_iload3 X 756 dL_law_755 rfl ?_
      refine P_iconst X (2) rfl 757 dL_law_756 rfl ?_
      refine P_iadd X 758 dL_law_757 rfl ?_
      refine P_sld X hS hL 759 dL_law_758 rfl (nI_add i9 2) (by omega) ?_
      refine P_if_eq X 766 762 dL_law_759 rfl rfl (fun b759 => ?_) (fun b759 => ?_)
      · refine P_iconst X (0) rfl 767 dL_law_766 rfl ?_
        refine V2g X 51 770 dL_law_767 rfl lk_L_89 mv_X9_look rfl (by omega) (Nat.le_of_ble_eq_true rfl) (Nat.le_of_ble_eq_true rfl) rfl rfl (Cl_Y cY) (fun r h9 hp => ?_)
        obtain ⟨g1, ⟨rfl, hq2⟩, rfl⟩ := hp
        change GW K 4 E (wdL E ay) A 770 [some (.ref b), some (.ref (E.2.2.1 0)), some (.ref (ay 0)), some (.int (nI i9))] [.int v, .int v] (jn h1 g1)
        refine P_icmp_eq X 1099 773 dL_law_770 rfl rfl (fun b770 => ?_) (fun b770 => ?_)
        · exact kk _ _ (hq2 _ hq1)
        · exact absurd rfl b770
      · exact absurd z b759
    · exact absurd z b737
  · obtain ⟨v, Qx, cX, cY⟩ := op_look (E := E) (E2 := eY E ay) hR (xs (i9 + 1)) true
    refine P_aload1 X 727 dL_law_726 rfl ?_
    refine P_aload0 X 728 dL_law_727 rfl ?_
    refine P_iload3 X 729 dL_law_728 rfl ?_
    refine P_iconst X (1) rfl 730 dL_law_729 rfl ?_
    refine P_iadd X 731 dL_law_730 rfl ?_
    refine P_sld X hS hL 732 dL_law_731 rfl (nI_add i9 1) (by omega) ?_
    refine P_aload0 X 733 dL_law_732 rfl ?_
    refine P_iload3 X 734 dL_law_733 rfl ?_
    refine P_iconst X (2) rfl 735 dL_law_734 rfl ?_
    refine P_iadd X 736 dL_law_735 rfl ?_
    refine P_sld X hS hL 737 dL_law_736 rfl (nI_add i9 2) (by omega) ?_
    refine P_if_eq X 744 740 dL_law_737 rfl rfl (fun b737 => ?_) (fun b737 => ?_)
    · exact absurd b737 z
    · refine P_iconst X (1) rfl 741 dL_law_740 rfl ?_
      refine P_goto X 745 dL_law_741 rfl ?_
      refine V2g X 0 748 dL_law_745 rfl lk_L_85 mv_X8_look rfl (by omega) (Nat.le_of_ble_eq_true rfl) (Nat.le_of_ble_eq_true rfl) rfl rfl (Cl_X cX) (fun r h9 hp => ?_)
      obtain ⟨h1, ⟨rfl, hq1⟩, rfl⟩ := hp
      change GW K 4 E (wdL E ay) A 748 [some (.ref b), some (.ref (E.2.2.1 0)), some (.ref (ay 0)), some (.int (nI i9))] [.int v] (jn h1 g)
      refine P_aload2 X 749 dL_law_748 rfl ?_
      refine P_aload0 X 750 dL_law_749 rfl ?_
      refine P_iload3 X 751 dL_law_750 rfl ?_
      refine P_iconst X (1) rfl 752 dL_law_751 rfl ?_
      refine P_iadd X 753 dL_law_752 rfl ?_
      refine P_sld X hS hL 754 dL_law_753 rfl (nI_add i9 1) (by omega) ?_
      refine P_aload0 X 755 dL_law_754 rfl ?_
      refine P_iload3 X 756 dL_law_755 rfl ?_
      refine P_iconst X (2) rfl 757 dL_law_756 rfl ?_
      refine P_iadd X 758 dL_law_757 rfl ?_
      refine P_sld X hS hL 759 dL_law_758 rfl (nI_add i9 2) (by omega) ?_
      refine P_if_eq X 766 762 dL_law_759 rfl rfl (fun b759 => ?_) (fun b759 => ?_)
      · exact absurd b759 z
      · refine P_iconst X (1) rfl 763 dL_law_762 rfl ?_
        refine P_goto X 767 dL_law_763 rfl ?_
        refine V2g X 51 770 dL_law_767 rfl lk_L_89 mv_X9_look rfl (by omega) (Nat.le_of_ble_eq_true rfl) (Nat.le_of_ble_eq_true rfl) rfl rfl (Cl_Y cY) (fun r h9 hp => ?_)
        obtain ⟨g1, ⟨rfl, hq2⟩, rfl⟩ := hp
        change GW K 4 E (wdL E ay) A 770 [some (.ref b), some (.ref (E.2.2.1 0)), some (.ref (ay 0)), some (.int (nI i9))] [.int v, .int v] (jn h1 g1)
        refine P_icmp_eq X 1099 773 dL_law_770 rfl rfl (fun b770 => ?_) (fun b770 => ?_)
        · exact kk _ _ (hq2 _ hq1)
        · exact absurd rfl b770
set_option maxHeartbeats 4000000 in
set_option maxRecDepth 100000 in
theorem law_closings {K : Kx} {E : Ev} {ay : Nat → Nat} {A : Nat → Prop} {b L i9 : Nat} {xs : Nat → Int32} {h g : Hp} (X : Cx K RL cL_law 4 (some .boolean) E A 41) (hS : SX K A b L xs) (hL : L ≤ 3072) (hi : i9 + 6 ≤ L) (hR : Rel h g) (kk : ∀ h2 g2, Rel h2 g2 → GW K 4 E (wdL E ay) A 1099 [some (.ref b), some (.ref (E.2.2.1 0)), some (.ref (ay 0)), some (.int (nI i9))] [] (jn h2 g2)) : GW K 4 E (wdL E ay) A 775 [some (.ref b), some (.ref (E.2.2.1 0)), some (.ref (ay 0)), some (.int (nI i9))] [] (jn h g) := by
  obtain ⟨v, Qx, cX, cY⟩ := op_closings (E := E) (E2 := eY E ay) hR (xs (i9 + 1)) (xs (i9 + 2))
  refine P_aload1 X 776 dL_law_775 rfl ?_
  refine P_aload0 X 777 dL_law_776 rfl ?_
  refine P_iload3 X 778 dL_law_777 rfl ?_
  refine P_iconst X (1) rfl 779 dL_law_778 rfl ?_
  refine P_iadd X 780 dL_law_779 rfl ?_
  refine P_sld X hS hL 781 dL_law_780 rfl (nI_add i9 1) (by omega) ?_
  refine P_aload0 X 782 dL_law_781 rfl ?_
  refine P_iload3 X 783 dL_law_782 rfl ?_
  refine P_iconst X (2) rfl 784 dL_law_783 rfl ?_
  refine P_iadd X 785 dL_law_784 rfl ?_
  refine P_sld X hS hL 786 dL_law_785 rfl (nI_add i9 2) (by omega) ?_
  refine V2g X 0 789 dL_law_786 rfl lk_L_90 mv_X8_closings rfl (by omega) (Nat.le_of_ble_eq_true rfl) (Nat.le_of_ble_eq_true rfl) rfl rfl (Cl_X cX) (fun r h9 hp => ?_)
  obtain ⟨h1, ⟨rfl, hq1⟩, rfl⟩ := hp
  change GW K 4 E (wdL E ay) A 789 [some (.ref b), some (.ref (E.2.2.1 0)), some (.ref (ay 0)), some (.int (nI i9))] [.int v] (jn h1 g)
  refine P_aload2 X 790 dL_law_789 rfl ?_
  refine P_aload0 X 791 dL_law_790 rfl ?_
  refine P_iload3 X 792 dL_law_791 rfl ?_
  refine P_iconst X (1) rfl 793 dL_law_792 rfl ?_
  refine P_iadd X 794 dL_law_793 rfl ?_
  refine P_sld X hS hL 795 dL_law_794 rfl (nI_add i9 1) (by omega) ?_
  refine P_aload0 X 796 dL_law_795 rfl ?_
  refine P_iload3 X 797 dL_law_796 rfl ?_
  refine P_iconst X (2) rfl 798 dL_law_797 rfl ?_
  refine P_iadd X 799 dL_law_798 rfl ?_
  refine P_sld X hS hL 800 dL_law_799 rfl (nI_add i9 2) (by omega) ?_
  refine V2g X 51 803 dL_law_800 rfl lk_L_93 mv_X9_closings rfl (by omega) (Nat.le_of_ble_eq_true rfl) (Nat.le_of_ble_eq_true rfl) rfl rfl (Cl_Y cY) (fun r h9 hp => ?_)
  obtain ⟨g1, ⟨rfl, hq2⟩, rfl⟩ := hp
  change GW K 4 E (wdL E ay) A 803 [some (.ref b), some (.ref (E.2.2.1 0)), some (.ref (ay 0)), some (.int (nI i9))] [.int v, .int v] (jn h1 g1)
  refine P_icmp_eq X 1099 806 dL_law_803 rfl rfl (fun b803 => ?_) (fun b803 => ?_)
  · exact kk _ _ (hq2 _ hq1)
  · exact absurd rfl b803
set_option maxHeartbeats 4000000 in
set_option maxRecDepth 100000 in
theorem law_walk {K : Kx} {E : Ev} {ay : Nat → Nat} {A : Nat → Prop} {b L i9 : Nat} {xs : Nat → Int32} {h g : Hp} (X : Cx K RL cL_law 4 (some .boolean) E A 41) (hS : SX K A b L xs) (hL : L ≤ 3072) (hi : i9 + 6 ≤ L) (hR : Rel h g) (kk : ∀ h2 g2, Rel h2 g2 → GW K 4 E (wdL E ay) A 1099 [some (.ref b), some (.ref (E.2.2.1 0)), some (.ref (ay 0)), some (.int (nI i9))] [] (jn h2 g2)) : GW K 4 E (wdL E ay) A 808 [some (.ref b), some (.ref (E.2.2.1 0)), some (.ref (ay 0)), some (.int (nI i9))] [] (jn h g) := by
  obtain ⟨v, Qx, cX, cY⟩ := op_walk (E := E) (E2 := eY E ay) hR (xs (i9 + 1)) (xs (i9 + 2)) (xs (i9 + 3))
  refine P_aload1 X 809 dL_law_808 rfl ?_
  refine P_aload0 X 810 dL_law_809 rfl ?_
  refine P_iload3 X 811 dL_law_810 rfl ?_
  refine P_iconst X (1) rfl 812 dL_law_811 rfl ?_
  refine P_iadd X 813 dL_law_812 rfl ?_
  refine P_sld X hS hL 814 dL_law_813 rfl (nI_add i9 1) (by omega) ?_
  refine P_aload0 X 815 dL_law_814 rfl ?_
  refine P_iload3 X 816 dL_law_815 rfl ?_
  refine P_iconst X (2) rfl 817 dL_law_816 rfl ?_
  refine P_iadd X 818 dL_law_817 rfl ?_
  refine P_sld X hS hL 819 dL_law_818 rfl (nI_add i9 2) (by omega) ?_
  refine P_aload0 X 820 dL_law_819 rfl ?_
  refine P_iload3 X 821 dL_law_820 rfl ?_
  refine P_iconst X (3) rfl 822 dL_law_821 rfl ?_
  refine P_iadd X 823 dL_law_822 rfl ?_
  refine P_sld X hS hL 824 dL_law_823 rfl (nI_add i9 3) (by omega) ?_
  refine V3g X 0 827 dL_law_824 rfl lk_L_94 mv_X8_walk rfl (by omega) (Nat.le_of_ble_eq_true rfl) (Nat.le_of_ble_eq_true rfl) rfl rfl (Cl_X cX) (fun r h9 hp => ?_)
  obtain ⟨h1, ⟨rfl, hq1⟩, rfl⟩ := hp
  change GW K 4 E (wdL E ay) A 827 [some (.ref b), some (.ref (E.2.2.1 0)), some (.ref (ay 0)), some (.int (nI i9))] [.int v] (jn h1 g)
  refine P_aload2 X 828 dL_law_827 rfl ?_
  refine P_aload0 X 829 dL_law_828 rfl ?_
  refine P_iload3 X 830 dL_law_829 rfl ?_
  refine P_iconst X (1) rfl 831 dL_law_830 rfl ?_
  refine P_iadd X 832 dL_law_831 rfl ?_
  refine P_sld X hS hL 833 dL_law_832 rfl (nI_add i9 1) (by omega) ?_
  refine P_aload0 X 834 dL_law_833 rfl ?_
  refine P_iload3 X 835 dL_law_834 rfl ?_
  refine P_iconst X (2) rfl 836 dL_law_835 rfl ?_
  refine P_iadd X 837 dL_law_836 rfl ?_
  refine P_sld X hS hL 838 dL_law_837 rfl (nI_add i9 2) (by omega) ?_
  refine P_aload0 X 839 dL_law_838 rfl ?_
  refine P_iload3 X 840 dL_law_839 rfl ?_
  refine P_iconst X (3) rfl 841 dL_law_840 rfl ?_
  refine P_iadd X 842 dL_law_841 rfl ?_
  refine P_sld X hS hL 843 dL_law_842 rfl (nI_add i9 3) (by omega) ?_
  refine V3g X 51 846 dL_law_843 rfl lk_L_97 mv_X9_walk rfl (by omega) (Nat.le_of_ble_eq_true rfl) (Nat.le_of_ble_eq_true rfl) rfl rfl (Cl_Y cY) (fun r h9 hp => ?_)
  obtain ⟨g1, ⟨rfl, hq2⟩, rfl⟩ := hp
  change GW K 4 E (wdL E ay) A 846 [some (.ref b), some (.ref (E.2.2.1 0)), some (.ref (ay 0)), some (.int (nI i9))] [.int v, .int v] (jn h1 g1)
  refine P_icmp_eq X 1099 849 dL_law_846 rfl rfl (fun b846 => ?_) (fun b846 => ?_)
  · exact kk _ _ (hq2 _ hq1)
  · exact absurd rfl b846
set_option maxHeartbeats 4000000 in
set_option maxRecDepth 100000 in
theorem law_quarter {K : Kx} {E : Ev} {ay : Nat → Nat} {A : Nat → Prop} {b L i9 : Nat} {xs : Nat → Int32} {h g : Hp} (X : Cx K RL cL_law 4 (some .boolean) E A 41) (hS : SX K A b L xs) (hL : L ≤ 3072) (hi : i9 + 6 ≤ L) (hR : Rel h g) (kk : ∀ h2 g2, Rel h2 g2 → GW K 4 E (wdL E ay) A 1099 [some (.ref b), some (.ref (E.2.2.1 0)), some (.ref (ay 0)), some (.int (nI i9))] [] (jn h2 g2)) : GW K 4 E (wdL E ay) A 851 [some (.ref b), some (.ref (E.2.2.1 0)), some (.ref (ay 0)), some (.int (nI i9))] [] (jn h g) := by
  obtain ⟨v, Qx, cX, cY⟩ := op_quarter (E := E) (E2 := eY E ay) hR (xs (i9 + 1)) (xs (i9 + 2))
  refine P_aload1 X 852 dL_law_851 rfl ?_
  refine P_aload0 X 853 dL_law_852 rfl ?_
  refine P_iload3 X 854 dL_law_853 rfl ?_
  refine P_iconst X (1) rfl 855 dL_law_854 rfl ?_
  refine P_iadd X 856 dL_law_855 rfl ?_
  refine P_sld X hS hL 857 dL_law_856 rfl (nI_add i9 1) (by omega) ?_
  refine P_aload0 X 858 dL_law_857 rfl ?_
  refine P_iload3 X 859 dL_law_858 rfl ?_
  refine P_iconst X (2) rfl 860 dL_law_859 rfl ?_
  refine P_iadd X 861 dL_law_860 rfl ?_
  refine P_sld X hS hL 862 dL_law_861 rfl (nI_add i9 2) (by omega) ?_
  refine V2g X 0 865 dL_law_862 rfl lk_L_98 mv_X8_quarter rfl (by omega) (Nat.le_of_ble_eq_true rfl) (Nat.le_of_ble_eq_true rfl) rfl rfl (Cl_X cX) (fun r h9 hp => ?_)
  obtain ⟨h1, ⟨rfl, hq1⟩, rfl⟩ := hp
  change GW K 4 E (wdL E ay) A 865 [some (.ref b), some (.ref (E.2.2.1 0)), some (.ref (ay 0)), some (.int (nI i9))] [.int v] (jn h1 g)
  refine P_aload2 X 866 dL_law_865 rfl ?_
  refine P_aload0 X 867 dL_law_866 rfl ?_
  refine P_iload3 X 868 dL_law_867 rfl ?_
  refine P_iconst X (1) rfl 869 dL_law_868 rfl ?_
  refine P_iadd X 870 dL_law_869 rfl ?_
  refine P_sld X hS hL 871 dL_law_870 rfl (nI_add i9 1) (by omega) ?_
  refine P_aload0 X 872 dL_law_871 rfl ?_
  refine P_iload3 X 873 dL_law_872 rfl ?_
  refine P_iconst X (2) rfl 874 dL_law_873 rfl ?_
  refine P_iadd X 875 dL_law_874 rfl ?_
  refine P_sld X hS hL 876 dL_law_875 rfl (nI_add i9 2) (by omega) ?_
  refine V2g X 51 879 dL_law_876 rfl lk_L_101 mv_X9_quarter rfl (by omega) (Nat.le_of_ble_eq_true rfl) (Nat.le_of_ble_eq_true rfl) rfl rfl (Cl_Y cY) (fun r h9 hp => ?_)
  obtain ⟨g1, ⟨rfl, hq2⟩, rfl⟩ := hp
  change GW K 4 E (wdL E ay) A 879 [some (.ref b), some (.ref (E.2.2.1 0)), some (.ref (ay 0)), some (.int (nI i9))] [.int v, .int v] (jn h1 g1)
  refine P_icmp_eq X 1099 882 dL_law_879 rfl rfl (fun b879 => ?_) (fun b879 => ?_)
  · exact kk _ _ (hq2 _ hq1)
  · exact absurd rfl b879
set_option maxHeartbeats 4000000 in
set_option maxRecDepth 100000 in
theorem law_sheet {K : Kx} {E : Ev} {ay : Nat → Nat} {A : Nat → Prop} {b L i9 : Nat} {xs : Nat → Int32} {h g : Hp} (X : Cx K RL cL_law 4 (some .boolean) E A 41) (hS : SX K A b L xs) (hL : L ≤ 3072) (hi : i9 + 6 ≤ L) (hR : Rel h g) (kk : ∀ h2 g2, Rel h2 g2 → GW K 4 E (wdL E ay) A 1099 [some (.ref b), some (.ref (E.2.2.1 0)), some (.ref (ay 0)), some (.int (nI i9))] [] (jn h2 g2)) : GW K 4 E (wdL E ay) A 884 [some (.ref b), some (.ref (E.2.2.1 0)), some (.ref (ay 0)), some (.int (nI i9))] [] (jn h g) := by
  obtain ⟨v, Qx, cX, cY⟩ := op_sheet (E := E) (E2 := eY E ay) hR (xs (i9 + 1)) (xs (i9 + 2)) (xs (i9 + 3))
  refine P_aload1 X 885 dL_law_884 rfl ?_
  refine P_aload0 X 886 dL_law_885 rfl ?_
  refine P_iload3 X 887 dL_law_886 rfl ?_
  refine P_iconst X (1) rfl 888 dL_law_887 rfl ?_
  refine P_iadd X 889 dL_law_888 rfl ?_
  refine P_sld X hS hL 890 dL_law_889 rfl (nI_add i9 1) (by omega) ?_
  refine P_aload0 X 891 dL_law_890 rfl ?_
  refine P_iload3 X 892 dL_law_891 rfl ?_
  refine P_iconst X (2) rfl 893 dL_law_892 rfl ?_
  refine P_iadd X 894 dL_law_893 rfl ?_
  refine P_sld X hS hL 895 dL_law_894 rfl (nI_add i9 2) (by omega) ?_
  refine P_aload0 X 896 dL_law_895 rfl ?_
  refine P_iload3 X 897 dL_law_896 rfl ?_
  refine P_iconst X (3) rfl 898 dL_law_897 rfl ?_
  refine P_iadd X 899 dL_law_898 rfl ?_
  refine P_sld X hS hL 900 dL_law_899 rfl (nI_add i9 3) (by omega) ?_
  refine V3g X 0 903 dL_law_900 rfl lk_L_102 mv_X8_sheet rfl (by omega) (Nat.le_of_ble_eq_true rfl) (Nat.le_of_ble_eq_true rfl) rfl rfl (Cl_X cX) (fun r h9 hp => ?_)
  obtain ⟨h1, ⟨rfl, hq1⟩, rfl⟩ := hp
  change GW K 4 E (wdL E ay) A 903 [some (.ref b), some (.ref (E.2.2.1 0)), some (.ref (ay 0)), some (.int (nI i9))] [.int v] (jn h1 g)
  refine P_aload2 X 904 dL_law_903 rfl ?_
  refine P_aload0 X 905 dL_law_904 rfl ?_
  refine P_iload3 X 906 dL_law_905 rfl ?_
  refine P_iconst X (1) rfl 907 dL_law_906 rfl ?_
  refine P_iadd X 908 dL_law_907 rfl ?_
  refine P_sld X hS hL 909 dL_law_908 rfl (nI_add i9 1) (by omega) ?_
  refine P_aload0 X 910 dL_law_909 rfl ?_
  refine P_iload3 X 911 dL_law_910 rfl ?_
  refine P_iconst X (2) rfl 912 dL_law_911 rfl ?_
  refine P_iadd X 913 dL_law_912 rfl ?_
  refine P_sld X hS hL 914 dL_law_913 rfl (nI_add i9 2) (by omega) ?_
  refine P_aload0 X 915 dL_law_914 rfl ?_
  refine P_iload3 X 916 dL_law_915 rfl ?_
  refine P_iconst X (3) rfl 917 dL_law_916 rfl ?_
  refine P_iadd X 918 dL_law_917 rfl ?_
  refine P_sld X hS hL 919 dL_law_918 rfl (nI_add i9 3) (by omega) ?_
  refine V3g X 51 922 dL_law_919 rfl lk_L_105 mv_X9_sheet rfl (by omega) (Nat.le_of_ble_eq_true rfl) (Nat.le_of_ble_eq_true rfl) rfl rfl (Cl_Y cY) (fun r h9 hp => ?_)
  obtain ⟨g1, ⟨rfl, hq2⟩, rfl⟩ := hp
  change GW K 4 E (wdL E ay) A 922 [some (.ref b), some (.ref (E.2.2.1 0)), some (.ref (ay 0)), some (.int (nI i9))] [.int v, .int v] (jn h1 g1)
  refine P_icmp_eq X 1099 925 dL_law_922 rfl rfl (fun b922 => ?_) (fun b922 => ?_)
  · exact kk _ _ (hq2 _ hq1)
  · exact absurd rfl b922
set_option maxHeartbeats 4000000 in
set_option maxRecDepth 100000 in
theorem law_write {K : Kx} {E : Ev} {ay : Nat → Nat} {A : Nat → Prop} {b L i9 : Nat} {xs : Nat → Int32} {h g : Hp} (X : Cx K RL cL_law 4 (some .boolean) E A 41) (hS : SX K A b L xs) (hL : L ≤ 3072) (hi : i9 + 6 ≤ L) (hR : Rel h g) (kk : ∀ h2 g2, Rel h2 g2 → GW K 4 E (wdL E ay) A 1099 [some (.ref b), some (.ref (E.2.2.1 0)), some (.ref (ay 0)), some (.int (nI i9))] [] (jn h2 g2)) : GW K 4 E (wdL E ay) A 927 [some (.ref b), some (.ref (E.2.2.1 0)), some (.ref (ay 0)), some (.int (nI i9))] [] (jn h g) := by
  obtain ⟨v, Qx, cX, cY⟩ := op_write (E := E) (E2 := eY E ay) hR (xs (i9 + 1)) (xs (i9 + 2)) (xs (i9 + 3))
  refine P_aload1 X 928 dL_law_927 rfl ?_
  refine P_aload0 X 929 dL_law_928 rfl ?_
  refine P_iload3 X 930 dL_law_929 rfl ?_
  refine P_iconst X (1) rfl 931 dL_law_930 rfl ?_
  refine P_iadd X 932 dL_law_931 rfl ?_
  refine P_sld X hS hL 933 dL_law_932 rfl (nI_add i9 1) (by omega) ?_
  refine P_aload0 X 934 dL_law_933 rfl ?_
  refine P_iload3 X 935 dL_law_934 rfl ?_
  refine P_iconst X (2) rfl 936 dL_law_935 rfl ?_
  refine P_iadd X 937 dL_law_936 rfl ?_
  refine P_sld X hS hL 938 dL_law_937 rfl (nI_add i9 2) (by omega) ?_
  refine P_aload0 X 939 dL_law_938 rfl ?_
  refine P_iload3 X 940 dL_law_939 rfl ?_
  refine P_iconst X (3) rfl 941 dL_law_940 rfl ?_
  refine P_iadd X 942 dL_law_941 rfl ?_
  refine P_sld X hS hL 943 dL_law_942 rfl (nI_add i9 3) (by omega) ?_
  refine V3g X 0 946 dL_law_943 rfl lk_L_106 mv_X8_write rfl (by omega) (Nat.le_of_ble_eq_true rfl) (Nat.le_of_ble_eq_true rfl) rfl rfl (Cl_X cX) (fun r h9 hp => ?_)
  obtain ⟨h1, ⟨rfl, hq1⟩, rfl⟩ := hp
  change GW K 4 E (wdL E ay) A 946 [some (.ref b), some (.ref (E.2.2.1 0)), some (.ref (ay 0)), some (.int (nI i9))] [.int v] (jn h1 g)
  refine P_aload2 X 947 dL_law_946 rfl ?_
  refine P_aload0 X 948 dL_law_947 rfl ?_
  refine P_iload3 X 949 dL_law_948 rfl ?_
  refine P_iconst X (1) rfl 950 dL_law_949 rfl ?_
  refine P_iadd X 951 dL_law_950 rfl ?_
  refine P_sld X hS hL 952 dL_law_951 rfl (nI_add i9 1) (by omega) ?_
  refine P_aload0 X 953 dL_law_952 rfl ?_
  refine P_iload3 X 954 dL_law_953 rfl ?_
  refine P_iconst X (2) rfl 955 dL_law_954 rfl ?_
  refine P_iadd X 956 dL_law_955 rfl ?_
  refine P_sld X hS hL 957 dL_law_956 rfl (nI_add i9 2) (by omega) ?_
  refine P_aload0 X 958 dL_law_957 rfl ?_
  refine P_iload3 X 959 dL_law_958 rfl ?_
  refine P_iconst X (3) rfl 960 dL_law_959 rfl ?_
  refine P_iadd X 961 dL_law_960 rfl ?_
  refine P_sld X hS hL 962 dL_law_961 rfl (nI_add i9 3) (by omega) ?_
  refine V3g X 51 965 dL_law_962 rfl lk_L_109 mv_X9_write rfl (by omega) (Nat.le_of_ble_eq_true rfl) (Nat.le_of_ble_eq_true rfl) rfl rfl (Cl_Y cY) (fun r h9 hp => ?_)
  obtain ⟨g1, ⟨rfl, hq2⟩, rfl⟩ := hp
  change GW K 4 E (wdL E ay) A 965 [some (.ref b), some (.ref (E.2.2.1 0)), some (.ref (ay 0)), some (.int (nI i9))] [.int v, .int v] (jn h1 g1)
  refine P_icmp_eq X 1099 968 dL_law_965 rfl rfl (fun b965 => ?_) (fun b965 => ?_)
  · exact kk _ _ (hq2 _ hq1)
  · exact absurd rfl b965
set_option maxHeartbeats 4000000 in
set_option maxRecDepth 100000 in
theorem law_copy {K : Kx} {E : Ev} {ay : Nat → Nat} {A : Nat → Prop} {b L i9 : Nat} {xs : Nat → Int32} {h g : Hp} (X : Cx K RL cL_law 4 (some .boolean) E A 41) (hS : SX K A b L xs) (hL : L ≤ 3072) (hi : i9 + 6 ≤ L) (hR : Rel h g) (kk : ∀ h2 g2, Rel h2 g2 → GW K 4 E (wdL E ay) A 1099 [some (.ref b), some (.ref (E.2.2.1 0)), some (.ref (ay 0)), some (.int (nI i9))] [] (jn h2 g2)) : GW K 4 E (wdL E ay) A 970 [some (.ref b), some (.ref (E.2.2.1 0)), some (.ref (ay 0)), some (.int (nI i9))] [] (jn h g) := by
  obtain ⟨v, Qx, cX, cY⟩ := op_copy (E := E) (E2 := eY E ay) hR (xs (i9 + 1)) (xs (i9 + 2)) (xs (i9 + 3)) (xs (i9 + 4)) (xs (i9 + 5))
  refine P_aload1 X 971 dL_law_970 rfl ?_
  refine P_aload0 X 972 dL_law_971 rfl ?_
  refine P_iload3 X 973 dL_law_972 rfl ?_
  refine P_iconst X (1) rfl 974 dL_law_973 rfl ?_
  refine P_iadd X 975 dL_law_974 rfl ?_
  refine P_sld X hS hL 976 dL_law_975 rfl (nI_add i9 1) (by omega) ?_
  refine P_aload0 X 977 dL_law_976 rfl ?_
  refine P_iload3 X 978 dL_law_977 rfl ?_
  refine P_iconst X (2) rfl 979 dL_law_978 rfl ?_
  refine P_iadd X 980 dL_law_979 rfl ?_
  refine P_sld X hS hL 981 dL_law_980 rfl (nI_add i9 2) (by omega) ?_
  refine P_aload0 X 982 dL_law_981 rfl ?_
  refine P_iload3 X 983 dL_law_982 rfl ?_
  refine P_iconst X (3) rfl 984 dL_law_983 rfl ?_
  refine P_iadd X 985 dL_law_984 rfl ?_
  refine P_sld X hS hL 986 dL_law_985 rfl (nI_add i9 3) (by omega) ?_
  refine P_aload0 X 987 dL_law_986 rfl ?_
  refine P_iload3 X 988 dL_law_987 rfl ?_
  refine P_iconst X (4) rfl 989 dL_law_988 rfl ?_
  refine P_iadd X 990 dL_law_989 rfl ?_
  refine P_sld X hS hL 991 dL_law_990 rfl (nI_add i9 4) (by omega) ?_
  refine P_aload0 X 992 dL_law_991 rfl ?_
  refine P_iload3 X 993 dL_law_992 rfl ?_
  refine P_iconst X (5) rfl 994 dL_law_993 rfl ?_
  refine P_iadd X 995 dL_law_994 rfl ?_
  refine P_sld X hS hL 996 dL_law_995 rfl (nI_add i9 5) (by omega) ?_
  refine V5g X 0 999 dL_law_996 rfl lk_L_110 mv_X8_copy rfl (by omega) (Nat.le_of_ble_eq_true rfl) (Nat.le_of_ble_eq_true rfl) rfl rfl (Cl_X cX) (fun r h9 hp => ?_)
  obtain ⟨h1, ⟨rfl, hq1⟩, rfl⟩ := hp
  change GW K 4 E (wdL E ay) A 999 [some (.ref b), some (.ref (E.2.2.1 0)), some (.ref (ay 0)), some (.int (nI i9))] [.int v] (jn h1 g)
  refine P_aload2 X 1000 dL_law_999 rfl ?_
  refine P_aload0 X 1001 dL_law_1000 rfl ?_
  refine P_iload3 X 1002 dL_law_1001 rfl ?_
  refine P_iconst X (1) rfl 1003 dL_law_1002 rfl ?_
  refine P_iadd X 1004 dL_law_1003 rfl ?_
  refine P_sld X hS hL 1005 dL_law_1004 rfl (nI_add i9 1) (by omega) ?_
  refine P_aload0 X 1006 dL_law_1005 rfl ?_
  refine P_iload3 X 1007 dL_law_1006 rfl ?_
  refine P_iconst X (2) rfl 1008 dL_law_1007 rfl ?_
  refine P_iadd X 1009 dL_law_1008 rfl ?_
  refine P_sld X hS hL 1010 dL_law_1009 rfl (nI_add i9 2) (by omega) ?_
  refine P_aload0 X 1011 dL_law_1010 rfl ?_
  refine P_iload3 X 1012 dL_law_1011 rfl ?_
  refine P_iconst X (3) rfl 1013 dL_law_1012 rfl ?_
  refine P_iadd X 1014 dL_law_1013 rfl ?_
  refine P_sld X hS hL 1015 dL_law_1014 rfl (nI_add i9 3) (by omega) ?_
  refine P_aload0 X 1016 dL_law_1015 rfl ?_
  refine P_iload3 X 1017 dL_law_1016 rfl ?_
  refine P_iconst X (4) rfl 1018 dL_law_1017 rfl ?_
  refine P_iadd X 1019 dL_law_1018 rfl ?_
  refine P_sld X hS hL 1020 dL_law_1019 rfl (nI_add i9 4) (by omega) ?_
  refine P_aload0 X 1021 dL_law_1020 rfl ?_
  refine P_iload3 X 1022 dL_law_1021 rfl ?_
  refine P_iconst X (5) rfl 1023 dL_law_1022 rfl ?_
  refine P_iadd X 1024 dL_law_1023 rfl ?_
  refine P_sld X hS hL 1025 dL_law_1024 rfl (nI_add i9 5) (by omega) ?_
  refine V5g X 51 1028 dL_law_1025 rfl lk_L_113 mv_X9_copy rfl (by omega) (Nat.le_of_ble_eq_true rfl) (Nat.le_of_ble_eq_true rfl) rfl rfl (Cl_Y cY) (fun r h9 hp => ?_)
  obtain ⟨g1, ⟨rfl, hq2⟩, rfl⟩ := hp
  change GW K 4 E (wdL E ay) A 1028 [some (.ref b), some (.ref (E.2.2.1 0)), some (.ref (ay 0)), some (.int (nI i9))] [.int v, .int v] (jn h1 g1)
  refine P_icmp_eq X 1099 1031 dL_law_1028 rfl rfl (fun b1028 => ?_) (fun b1028 => ?_)
  · exact kk _ _ (hq2 _ hq1)
  · exact absurd rfl b1028
set_option maxHeartbeats 4000000 in
set_option maxRecDepth 100000 in
theorem law_read {K : Kx} {E : Ev} {ay : Nat → Nat} {A : Nat → Prop} {b L i9 : Nat} {xs : Nat → Int32} {h g : Hp} (X : Cx K RL cL_law 4 (some .boolean) E A 41) (hS : SX K A b L xs) (hL : L ≤ 3072) (hi : i9 + 6 ≤ L) (hR : Rel h g) (kk : ∀ h2 g2, Rel h2 g2 → GW K 4 E (wdL E ay) A 1099 [some (.ref b), some (.ref (E.2.2.1 0)), some (.ref (ay 0)), some (.int (nI i9))] [] (jn h2 g2)) : GW K 4 E (wdL E ay) A 1033 [some (.ref b), some (.ref (E.2.2.1 0)), some (.ref (ay 0)), some (.int (nI i9))] [] (jn h g) := by
  obtain ⟨v, Qx, cX, cY⟩ := op_read (E := E) (E2 := eY E ay) hR (xs (i9 + 1)) (xs (i9 + 2)) (xs (i9 + 3))
  refine P_aload1 X 1034 dL_law_1033 rfl ?_
  refine P_aload0 X 1035 dL_law_1034 rfl ?_
  refine P_iload3 X 1036 dL_law_1035 rfl ?_
  refine P_iconst X (1) rfl 1037 dL_law_1036 rfl ?_
  refine P_iadd X 1038 dL_law_1037 rfl ?_
  refine P_sld X hS hL 1039 dL_law_1038 rfl (nI_add i9 1) (by omega) ?_
  refine P_aload0 X 1040 dL_law_1039 rfl ?_
  refine P_iload3 X 1041 dL_law_1040 rfl ?_
  refine P_iconst X (2) rfl 1042 dL_law_1041 rfl ?_
  refine P_iadd X 1043 dL_law_1042 rfl ?_
  refine P_sld X hS hL 1044 dL_law_1043 rfl (nI_add i9 2) (by omega) ?_
  refine P_aload0 X 1045 dL_law_1044 rfl ?_
  refine P_iload3 X 1046 dL_law_1045 rfl ?_
  refine P_iconst X (3) rfl 1047 dL_law_1046 rfl ?_
  refine P_iadd X 1048 dL_law_1047 rfl ?_
  refine P_sld X hS hL 1049 dL_law_1048 rfl (nI_add i9 3) (by omega) ?_
  refine V3g X 0 1052 dL_law_1049 rfl lk_L_114 mv_X8_read rfl (by omega) (Nat.le_of_ble_eq_true rfl) (Nat.le_of_ble_eq_true rfl) rfl rfl (Cl_X cX) (fun r h9 hp => ?_)
  obtain ⟨h1, ⟨rfl, hq1⟩, rfl⟩ := hp
  change GW K 4 E (wdL E ay) A 1052 [some (.ref b), some (.ref (E.2.2.1 0)), some (.ref (ay 0)), some (.int (nI i9))] [.int v] (jn h1 g)
  refine P_aload2 X 1053 dL_law_1052 rfl ?_
  refine P_aload0 X 1054 dL_law_1053 rfl ?_
  refine P_iload3 X 1055 dL_law_1054 rfl ?_
  refine P_iconst X (1) rfl 1056 dL_law_1055 rfl ?_
  refine P_iadd X 1057 dL_law_1056 rfl ?_
  refine P_sld X hS hL 1058 dL_law_1057 rfl (nI_add i9 1) (by omega) ?_
  refine P_aload0 X 1059 dL_law_1058 rfl ?_
  refine P_iload3 X 1060 dL_law_1059 rfl ?_
  refine P_iconst X (2) rfl 1061 dL_law_1060 rfl ?_
  refine P_iadd X 1062 dL_law_1061 rfl ?_
  refine P_sld X hS hL 1063 dL_law_1062 rfl (nI_add i9 2) (by omega) ?_
  refine P_aload0 X 1064 dL_law_1063 rfl ?_
  refine P_iload3 X 1065 dL_law_1064 rfl ?_
  refine P_iconst X (3) rfl 1066 dL_law_1065 rfl ?_
  refine P_iadd X 1067 dL_law_1066 rfl ?_
  refine P_sld X hS hL 1068 dL_law_1067 rfl (nI_add i9 3) (by omega) ?_
  refine V3g X 51 1071 dL_law_1068 rfl lk_L_117 mv_X9_read rfl (by omega) (Nat.le_of_ble_eq_true rfl) (Nat.le_of_ble_eq_true rfl) rfl rfl (Cl_Y cY) (fun r h9 hp => ?_)
  obtain ⟨g1, ⟨rfl, hq2⟩, rfl⟩ := hp
  change GW K 4 E (wdL E ay) A 1071 [some (.ref b), some (.ref (E.2.2.1 0)), some (.ref (ay 0)), some (.int (nI i9))] [.int v, .int v] (jn h1 g1)
  refine P_icmp_eq X 1099 1074 dL_law_1071 rfl rfl (fun b1071 => ?_) (fun b1071 => ?_)
  · exact kk _ _ (hq2 _ hq1)
  · exact absurd rfl b1071
set_option maxHeartbeats 4000000 in
set_option maxRecDepth 100000 in
theorem law_told {K : Kx} {E : Ev} {ay : Nat → Nat} {A : Nat → Prop} {b L i9 : Nat} {xs : Nat → Int32} {h g : Hp} (X : Cx K RL cL_law 4 (some .boolean) E A 41) (hS : SX K A b L xs) (hL : L ≤ 3072) (hi : i9 + 6 ≤ L) (hR : Rel h g) (kk : ∀ h2 g2, Rel h2 g2 → GW K 4 E (wdL E ay) A 1099 [some (.ref b), some (.ref (E.2.2.1 0)), some (.ref (ay 0)), some (.int (nI i9))] [] (jn h2 g2)) : GW K 4 E (wdL E ay) A 1076 [some (.ref b), some (.ref (E.2.2.1 0)), some (.ref (ay 0)), some (.int (nI i9))] [] (jn h g) := by
  obtain ⟨v, Qx, cX, cY⟩ := op_told (E := E) (E2 := eY E ay) hR (xs (i9 + 1))
  refine P_aload1 X 1077 dL_law_1076 rfl ?_
  refine P_aload0 X 1078 dL_law_1077 rfl ?_
  refine P_iload3 X 1079 dL_law_1078 rfl ?_
  refine P_iconst X (1) rfl 1080 dL_law_1079 rfl ?_
  refine P_iadd X 1081 dL_law_1080 rfl ?_
  refine P_sld X hS hL 1082 dL_law_1081 rfl (nI_add i9 1) (by omega) ?_
  refine V1g X 0 1085 dL_law_1082 rfl lk_L_118 mv_X8_told rfl (by omega) (Nat.le_of_ble_eq_true rfl) (Nat.le_of_ble_eq_true rfl) rfl rfl (Cl_X cX) (fun r h9 hp => ?_)
  obtain ⟨h1, ⟨rfl, hq1⟩, rfl⟩ := hp
  change GW K 4 E (wdL E ay) A 1085 [some (.ref b), some (.ref (E.2.2.1 0)), some (.ref (ay 0)), some (.int (nI i9))] [.int v] (jn h1 g)
  refine P_aload2 X 1086 dL_law_1085 rfl ?_
  refine P_aload0 X 1087 dL_law_1086 rfl ?_
  refine P_iload3 X 1088 dL_law_1087 rfl ?_
  refine P_iconst X (1) rfl 1089 dL_law_1088 rfl ?_
  refine P_iadd X 1090 dL_law_1089 rfl ?_
  refine P_sld X hS hL 1091 dL_law_1090 rfl (nI_add i9 1) (by omega) ?_
  refine V1g X 51 1094 dL_law_1091 rfl lk_L_121 mv_X9_told rfl (by omega) (Nat.le_of_ble_eq_true rfl) (Nat.le_of_ble_eq_true rfl) rfl rfl (Cl_Y cY) (fun r h9 hp => ?_)
  obtain ⟨g1, ⟨rfl, hq2⟩, rfl⟩ := hp
  change GW K 4 E (wdL E ay) A 1094 [some (.ref b), some (.ref (E.2.2.1 0)), some (.ref (ay 0)), some (.int (nI i9))] [.int v, .int v] (jn h1 g1)
  refine P_icmp_eq X 1099 1097 dL_law_1094 rfl rfl (fun b1094 => ?_) (fun b1094 => ?_)
  · exact kk _ _ (hq2 _ hq1)
  · exact absurd rfl b1094
set_option maxHeartbeats 4000000 in
set_option maxRecDepth 100000 in
theorem law_loop {K : Kx} {E : Ev} {ay : Nat → Nat} {A : Nat → Prop} {b L : Nat} {xs : Nat → Int32} (X : Cx K RL cL_law 4 (some .boolean) E A 41) (hS : SX K A b L xs) (hL : L ≤ 3072) (hEnd : ∀ (lo : List (Option Value)) (h : Hp), GW K 4 E (wdL E ay) A 1106 lo [.int 1] h) : ∀ (n9 i9 : Nat) (h g : Hp), L < i9 + 6 * n9 → i9 ≤ 3078 → Rel h g → GW K 4 E (wdL E ay) A 18 [some (.ref b), some (.ref (E.2.2.1 0)), some (.ref (ay 0)), some (.int (nI i9))] [] (jn h g) := by
  intro n9
  induction n9 with
  | zero =>
    intro i9 h g hn h78 hR
    refine P_iload3 X 19 dL_law_18 rfl ?_
    refine P_aload0 X 20 dL_law_19 rfl ?_
    refine P_slen X hS 21 dL_law_20 rfl ?_
    refine P_bipush X (6) rfl 23 dL_law_21 rfl ?_
    refine P_isub X 24 dL_law_23 rfl ?_
    refine P_icmp_gt X 1105 27 dL_law_24 rfl rfl (fun b24 => ?_) (fun b24 => ?_)
    · refine P_iconst X (1) rfl 1106 dL_law_1105 rfl ?_
      exact hEnd _ _
    · have hi : i9 + 6 ≤ L := by
        rw [Int32.lt_iff_toInt_lt, show (nI L - 6 : Int32).toInt = (L : Int) - (6 : Nat) from sub31 (b := 6) (by omega) (by decide), nI_toInt (by omega)] at b24
        omega
      exact absurd hn (by omega)
  | succ n9 ih =>
    intro i9 h g hn h78 hR
    refine P_iload3 X 19 dL_law_18 rfl ?_
    refine P_aload0 X 20 dL_law_19 rfl ?_
    refine P_slen X hS 21 dL_law_20 rfl ?_
    refine P_bipush X (6) rfl 23 dL_law_21 rfl ?_
    refine P_isub X 24 dL_law_23 rfl ?_
    refine P_icmp_gt X 1105 27 dL_law_24 rfl rfl (fun b24 => ?_) (fun b24 => ?_)
    · refine P_iconst X (1) rfl 1106 dL_law_1105 rfl ?_
      exact hEnd _ _
    · have hi : i9 + 6 ≤ L := by
        rw [Int32.lt_iff_toInt_lt, show (nI L - 6 : Int32).toInt = (L : Int) - (6 : Nat) from sub31 (b := 6) (by omega) (by decide), nI_toInt (by omega)] at b24
        omega
      refine P_aload0 X 28 dL_law_27 rfl ?_
      refine P_iload3 X 29 dL_law_28 rfl ?_
      refine P_sld X hS hL 30 dL_law_29 rfl rfl (by omega) ?_
      refine P_bipush X (31) rfl 32 dL_law_30 rfl ?_
      refine P_iand X 33 dL_law_32 rfl ?_
      obtain ⟨n0, hn0, e31⟩ := and31 (xs i9)
      refine P_top e31 ?_
      clear e31
      have kk : ∀ h2 g2, Rel h2 g2 → GW K 4 E (wdL E ay) A 1099 [some (.ref b), some (.ref (E.2.2.1 0)), some (.ref (ay 0)), some (.int (nI i9))] [] (jn h2 g2) := fun h2 g2 hR2 => by
        refine P_iinc3 X (6) rfl 1102 dL_law_1099 rfl (by decide) rfl ?_
        refine P_goto X 18 dL_law_1102 rfl ?_
        rw [show nI i9 + 6 = nI (i9 + 6) from nI_add i9 6]
        exact ih (i9 + 6) h2 g2 (by omega) (by omega) hR2
      match n0, hn0 with
      | 0, _ => exact P_tblIn X 148 dL_law_33 (by decide) (by decide) rfl rfl (law_ask X hS hL hi hR kk)
      | 1, _ => exact P_tblIn X 211 dL_law_33 (by decide) (by decide) rfl rfl (law_marks X hS hL hi hR kk)
      | 2, _ => exact P_tblIn X 254 dL_law_33 (by decide) (by decide) rfl rfl (law_meet X hS hL hi hR kk)
      | 3, _ => exact P_tblIn X 287 dL_law_33 (by decide) (by decide) rfl rfl (law_of X hS hL hi hR kk)
      | 4, _ => exact P_tblIn X 320 dL_law_33 (by decide) (by decide) rfl rfl (law_as X hS hL hi hR kk)
      | 5, _ => exact P_tblIn X 353 dL_law_33 (by decide) (by decide) rfl rfl (law_fewest X hS hL hi hR kk)
      | 6, _ => exact P_tblIn X 386 dL_law_33 (by decide) (by decide) rfl rfl (law_thing X hS hL hi hR kk)
      | 7, _ => exact P_tblIn X 419 dL_law_33 (by decide) (by decide) rfl rfl (law_asked X hS hL hi hR kk)
      | 8, _ => exact P_tblIn X 452 dL_law_33 (by decide) (by decide) rfl rfl (law_feed X hS hL hi hR kk)
      | 9, _ => exact P_tblIn X 515 dL_law_33 (by decide) (by decide) rfl rfl (law_text X hS hL hi hR kk)
      | 10, _ => exact P_tblIn X 528 dL_law_33 (by decide) (by decide) rfl rfl (law_whose X hS hL hi hR kk)
      | 11, _ => exact P_tblIn X 551 dL_law_33 (by decide) (by decide) rfl rfl (law_promise X hS hL hi hR kk)
      | 12, _ => exact P_tblIn X 574 dL_law_33 (by decide) (by decide) rfl rfl (law_sent X hS hL hi hR kk)
      | 13, _ => exact P_tblIn X 597 dL_law_33 (by decide) (by decide) rfl rfl (law_effort X hS hL hi hR kk)
      | 14, _ => exact P_tblIn X 630 dL_law_33 (by decide) (by decide) rfl rfl (law_order X hS hL hi hR kk)
      | 15, _ => exact P_tblIn X 693 dL_law_33 (by decide) (by decide) rfl rfl (law_close X hS hL hi hR kk)
      | 16, _ => exact P_tblIn X 726 dL_law_33 (by decide) (by decide) rfl rfl (law_look X hS hL hi hR kk)
      | 17, _ => exact P_tblIn X 775 dL_law_33 (by decide) (by decide) rfl rfl (law_closings X hS hL hi hR kk)
      | 18, _ => exact P_tblIn X 808 dL_law_33 (by decide) (by decide) rfl rfl (law_walk X hS hL hi hR kk)
      | 19, _ => exact P_tblIn X 851 dL_law_33 (by decide) (by decide) rfl rfl (law_quarter X hS hL hi hR kk)
      | 20, _ => exact P_tblIn X 884 dL_law_33 (by decide) (by decide) rfl rfl (law_sheet X hS hL hi hR kk)
      | 21, _ => exact P_tblIn X 927 dL_law_33 (by decide) (by decide) rfl rfl (law_write X hS hL hi hR kk)
      | 22, _ => exact P_tblIn X 970 dL_law_33 (by decide) (by decide) rfl rfl (law_copy X hS hL hi hR kk)
      | 23, _ => exact P_tblIn X 1033 dL_law_33 (by decide) (by decide) rfl rfl (law_read X hS hL hi hR kk)
      | 24, _ => exact P_tblIn X 1076 dL_law_33 (by decide) (by decide) rfl rfl (law_told X hS hL hi hR kk)
      | n0 + 25, hn0 => exact P_tblOut X 1099 dL_law_33 (Or.inr (by rw [nI_toInt (by omega)]; omega)) rfl (kk h g hR)
