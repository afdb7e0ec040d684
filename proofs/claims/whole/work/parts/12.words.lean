theorem uwX0 : ∀ w ∈ u_ws RX0 TX0 9, w ∈ TB := by decide +kernel
theorem uwX1 : ∀ w ∈ u_ws RX1 TX1 11, w ∈ TB := by decide +kernel
theorem uwX2 : ∀ w ∈ u_ws RX2 TX2 5, w ∈ TB := by decide +kernel
theorem uwX3 : ∀ w ∈ u_ws RX3 TX3 4, w ∈ TB := by decide +kernel
theorem uwX4 : ∀ w ∈ u_ws RX4 TX4 3, w ∈ TB := by decide +kernel
theorem uwX5 : ∀ w ∈ u_ws RX5 TX5 3, w ∈ TB := by decide +kernel
theorem uwX6 : ∀ w ∈ u_ws RX6 TX6 2, w ∈ TB := by decide +kernel
theorem uwX7 : ∀ w ∈ u_ws RX7 TX7 7, w ∈ TB := by decide +kernel
theorem uwX8 : ∀ w ∈ u_ws RX8 TX8 12, w ∈ TB := by decide +kernel
theorem uwX9 : ∀ w ∈ u_ws RX9 TX9 41, w ∈ TB := by decide +kernel
theorem lk_L_9 : LK RL 9 yX8_init := Or.inl (TB_of 57 (by decide +kernel) rfl)
theorem lo_X8_1 : Cond.methodLink RX8 1 objectInit ∈ TB := TB_of 60 (by decide +kernel) rfl
theorem lk_X8_9 : LK RX8 9 yX0_init := Or.inr ⟨"TownAsks", NWl_of 65 (by decide +kernel) rfl⟩
theorem lo_X0_3 : Cond.methodLink RX0 3 objectInit ∈ TB := TB_of 68 (by decide +kernel) rfl
theorem fl_X0_9 : FL RX0 9 0 0 := ⟨RX0, TX0, 9, rfl, by decide, uwX0, Or.inl (TB_of 69 (by decide +kernel) rfl), rfl⟩
theorem fl_X8_120 : FL RX8 120 0 0 := ⟨RX0, TX0, 9, rfl, by decide, uwX0, Or.inr ⟨"TownAsks", NWl_of 70 (by decide +kernel) rfl⟩, rfl⟩
theorem fl_X0_15 : FL RX0 15 0 1 := ⟨RX0, TX0, 9, rfl, by decide, uwX0, Or.inl (TB_of 71 (by decide +kernel) rfl), rfl⟩
theorem fl_X8_331 : FL RX8 331 0 1 := ⟨RX0, TX0, 9, rfl, by decide, uwX0, Or.inr ⟨"TownAsks", NWl_of 72 (by decide +kernel) rfl⟩, rfl⟩
theorem fl_X0_18 : FL RX0 18 0 2 := ⟨RX0, TX0, 9, rfl, by decide, uwX0, Or.inl (TB_of 73 (by decide +kernel) rfl), rfl⟩
theorem fl_X8_334 : FL RX8 334 0 2 := ⟨RX0, TX0, 9, rfl, by decide, uwX0, Or.inr ⟨"TownAsks", NWl_of 74 (by decide +kernel) rfl⟩, rfl⟩
theorem fl_X0_21 : FL RX0 21 0 3 := ⟨RX0, TX0, 9, rfl, by decide, uwX0, Or.inl (TB_of 75 (by decide +kernel) rfl), rfl⟩
theorem fl_X0_24 : FL RX0 24 0 4 := ⟨RX0, TX0, 9, rfl, by decide, uwX0, Or.inl (TB_of 76 (by decide +kernel) rfl), rfl⟩
theorem fl_X8_325 : FL RX8 325 0 4 := ⟨RX0, TX0, 9, rfl, by decide, uwX0, Or.inr ⟨"TownAsks", NWl_of 77 (by decide +kernel) rfl⟩, rfl⟩
theorem fl_X0_27 : FL RX0 27 0 5 := ⟨RX0, TX0, 9, rfl, by decide, uwX0, Or.inl (TB_of 78 (by decide +kernel) rfl), rfl⟩
theorem fl_X8_127 : FL RX8 127 0 5 := ⟨RX0, TX0, 9, rfl, by decide, uwX0, Or.inr ⟨"TownAsks", NWl_of 79 (by decide +kernel) rfl⟩, rfl⟩
theorem fl_X0_30 : FL RX0 30 0 6 := ⟨RX0, TX0, 9, rfl, by decide, uwX0, Or.inl (TB_of 80 (by decide +kernel) rfl), rfl⟩
theorem fl_X8_103 : FL RX8 103 0 6 := ⟨RX0, TX0, 9, rfl, by decide, uwX0, Or.inr ⟨"TownAsks", NWl_of 81 (by decide +kernel) rfl⟩, rfl⟩
theorem fl_X0_33 : FL RX0 33 0 7 := ⟨RX0, TX0, 9, rfl, by decide, uwX0, Or.inl (TB_of 82 (by decide +kernel) rfl), rfl⟩
theorem fl_X8_106 : FL RX8 106 0 7 := ⟨RX0, TX0, 9, rfl, by decide, uwX0, Or.inr ⟨"TownAsks", NWl_of 83 (by decide +kernel) rfl⟩, rfl⟩
theorem fl_X0_36 : FL RX0 36 0 8 := ⟨RX0, TX0, 9, rfl, by decide, uwX0, Or.inl (TB_of 84 (by decide +kernel) rfl), rfl⟩
theorem fw_X0_36 : FW RX0 36 0 8 := ⟨RX0, TX0, 9, tyX0, rfl, by decide, uwX0, Or.inl (TB_of 84 (by decide +kernel) rfl), rfl, tyX0_ok, nmX0, rfl, by decide +kernel⟩
theorem fl_X8_95 : FL RX8 95 0 8 := ⟨RX0, TX0, 9, rfl, by decide, uwX0, Or.inr ⟨"TownAsks", NWl_of 85 (by decide +kernel) rfl⟩, rfl⟩
theorem fw_X8_95 : FW RX8 95 0 8 := ⟨RX0, TX0, 9, tyX0, rfl, by decide, uwX0, Or.inr ⟨"TownAsks", NWl_of 85 (by decide +kernel) rfl⟩, rfl, tyX0_ok, nmX0, rfl, by decide +kernel⟩
theorem lk_X8_18 : LK RX8 18 yX7_init := Or.inr ⟨"TownAsks", NWl_of 108 (by decide +kernel) rfl⟩
theorem lo_X7_3 : Cond.methodLink RX7 3 objectInit ∈ TB := TB_of 111 (by decide +kernel) rfl
theorem fl_X7_9 : FL RX7 9 7 0 := ⟨RX7, TX7, 7, rfl, by decide, uwX7, Or.inl (TB_of 112 (by decide +kernel) rfl), rfl⟩
theorem fl_X8_322 : FL RX8 322 7 0 := ⟨RX7, TX7, 7, rfl, by decide, uwX7, Or.inr ⟨"TownAsks", NWl_of 113 (by decide +kernel) rfl⟩, rfl⟩
theorem fl_X7_15 : FL RX7 15 7 1 := ⟨RX7, TX7, 7, rfl, by decide, uwX7, Or.inl (TB_of 114 (by decide +kernel) rfl), rfl⟩
theorem fl_X8_218 : FL RX8 218 7 1 := ⟨RX7, TX7, 7, rfl, by decide, uwX7, Or.inr ⟨"TownAsks", NWl_of 115 (by decide +kernel) rfl⟩, rfl⟩
theorem fl_X7_19 : FL RX7 19 7 2 := ⟨RX7, TX7, 7, rfl, by decide, uwX7, Or.inl (TB_of 116 (by decide +kernel) rfl), rfl⟩
theorem fl_X8_340 : FL RX8 340 7 2 := ⟨RX7, TX7, 7, rfl, by decide, uwX7, Or.inr ⟨"TownAsks", NWl_of 117 (by decide +kernel) rfl⟩, rfl⟩
theorem fl_X7_22 : FL RX7 22 7 3 := ⟨RX7, TX7, 7, rfl, by decide, uwX7, Or.inl (TB_of 118 (by decide +kernel) rfl), rfl⟩
theorem fl_X8_343 : FL RX8 343 7 3 := ⟨RX7, TX7, 7, rfl, by decide, uwX7, Or.inr ⟨"TownAsks", NWl_of 119 (by decide +kernel) rfl⟩, rfl⟩
theorem fl_X7_25 : FL RX7 25 7 4 := ⟨RX7, TX7, 7, rfl, by decide, uwX7, Or.inl (TB_of 120 (by decide +kernel) rfl), rfl⟩
theorem fl_X8_233 : FL RX8 233 7 4 := ⟨RX7, TX7, 7, rfl, by decide, uwX7, Or.inr ⟨"TownAsks", NWl_of 121 (by decide +kernel) rfl⟩, rfl⟩
theorem fl_X7_28 : FL RX7 28 7 5 := ⟨RX7, TX7, 7, rfl, by decide, uwX7, Or.inl (TB_of 122 (by decide +kernel) rfl), rfl⟩
theorem fl_X8_230 : FL RX8 230 7 5 := ⟨RX7, TX7, 7, rfl, by decide, uwX7, Or.inr ⟨"TownAsks", NWl_of 123 (by decide +kernel) rfl⟩, rfl⟩
theorem fl_X7_31 : FL RX7 31 7 6 := ⟨RX7, TX7, 7, rfl, by decide, uwX7, Or.inl (TB_of 124 (by decide +kernel) rfl), rfl⟩
theorem fw_X7_31 : FW RX7 31 7 6 := ⟨RX7, TX7, 7, tyX7, rfl, by decide, uwX7, Or.inl (TB_of 124 (by decide +kernel) rfl), rfl, tyX7_ok, nmX7, rfl, by decide +kernel⟩
theorem fl_X8_292 : FL RX8 292 7 6 := ⟨RX7, TX7, 7, rfl, by decide, uwX7, Or.inr ⟨"TownAsks", NWl_of 125 (by decide +kernel) rfl⟩, rfl⟩
theorem fw_X8_292 : FW RX8 292 7 6 := ⟨RX7, TX7, 7, tyX7, rfl, by decide, uwX7, Or.inr ⟨"TownAsks", NWl_of 125 (by decide +kernel) rfl⟩, rfl, tyX7_ok, nmX7, rfl, by decide +kernel⟩
theorem lk_X8_25 : LK RX8 25 yX3_init := Or.inr ⟨"TownAsks", NWl_of 144 (by decide +kernel) rfl⟩
theorem lo_X3_3 : Cond.methodLink RX3 3 objectInit ∈ TB := TB_of 147 (by decide +kernel) rfl
theorem fl_X3_9 : FL RX3 9 3 0 := ⟨RX3, TX3, 4, rfl, by decide, uwX3, Or.inl (TB_of 148 (by decide +kernel) rfl), rfl⟩
theorem fl_X3_15 : FL RX3 15 3 1 := ⟨RX3, TX3, 4, rfl, by decide, uwX3, Or.inl (TB_of 149 (by decide +kernel) rfl), rfl⟩
theorem fl_X3_24 : FL RX3 24 3 2 := ⟨RX3, TX3, 4, rfl, by decide, uwX3, Or.inl (TB_of 150 (by decide +kernel) rfl), rfl⟩
theorem fw_X3_24 : FW RX3 24 3 2 := ⟨RX3, TX3, 4, tyX3, rfl, by decide, uwX3, Or.inl (TB_of 150 (by decide +kernel) rfl), rfl, tyX3_ok, nmX3, rfl, by decide +kernel⟩
theorem fl_X3_28 : FL RX3 28 3 3 := ⟨RX3, TX3, 4, rfl, by decide, uwX3, Or.inl (TB_of 151 (by decide +kernel) rfl), rfl⟩
theorem fw_X3_28 : FW RX3 28 3 3 := ⟨RX3, TX3, 4, tyX3, rfl, by decide, uwX3, Or.inl (TB_of 151 (by decide +kernel) rfl), rfl, tyX3_ok, nmX3, rfl, by decide +kernel⟩
theorem lk_X8_32 : LK RX8 32 yX6_init := Or.inr ⟨"TownAsks", NWl_of 163 (by decide +kernel) rfl⟩
theorem lo_X6_1 : Cond.methodLink RX6 1 objectInit ∈ TB := TB_of 166 (by decide +kernel) rfl
theorem fl_X6_9 : FL RX6 9 6 0 := ⟨RX6, TX6, 2, rfl, by decide, uwX6, Or.inl (TB_of 167 (by decide +kernel) rfl), rfl⟩
theorem fl_X2_33 : FL RX2 33 6 0 := ⟨RX6, TX6, 2, rfl, by decide, uwX6, Or.inr ⟨"TownAsks", NWl_of 168 (by decide +kernel) rfl⟩, rfl⟩
theorem fl_X6_13 : FL RX6 13 6 1 := ⟨RX6, TX6, 2, rfl, by decide, uwX6, Or.inl (TB_of 169 (by decide +kernel) rfl), rfl⟩
theorem fw_X6_13 : FW RX6 13 6 1 := ⟨RX6, TX6, 2, tyX6, rfl, by decide, uwX6, Or.inl (TB_of 169 (by decide +kernel) rfl), rfl, tyX6_ok, nmX6, rfl, by decide +kernel⟩
theorem fl_X2_28 : FL RX2 28 6 1 := ⟨RX6, TX6, 2, rfl, by decide, uwX6, Or.inr ⟨"TownAsks", NWl_of 170 (by decide +kernel) rfl⟩, rfl⟩
theorem fw_X2_28 : FW RX2 28 6 1 := ⟨RX6, TX6, 2, tyX6, rfl, by decide, uwX6, Or.inr ⟨"TownAsks", NWl_of 170 (by decide +kernel) rfl⟩, rfl, tyX6_ok, nmX6, rfl, by decide +kernel⟩
theorem fl_X8_147 : FL RX8 147 6 1 := ⟨RX6, TX6, 2, rfl, by decide, uwX6, Or.inr ⟨"TownAsks", NWl_of 171 (by decide +kernel) rfl⟩, rfl⟩
theorem fw_X8_147 : FW RX8 147 6 1 := ⟨RX6, TX6, 2, tyX6, rfl, by decide, uwX6, Or.inr ⟨"TownAsks", NWl_of 171 (by decide +kernel) rfl⟩, rfl, tyX6_ok, nmX6, rfl, by decide +kernel⟩
theorem lk_X8_39 : LK RX8 39 yX2_init := Or.inr ⟨"TownAsks", NWl_of 179 (by decide +kernel) rfl⟩
theorem lo_X2_3 : Cond.methodLink RX2 3 objectInit ∈ TB := TB_of 182 (by decide +kernel) rfl
theorem fl_X2_11 : FL RX2 11 2 0 := ⟨RX2, TX2, 5, rfl, by decide, uwX2, Or.inl (TB_of 183 (by decide +kernel) rfl), rfl⟩
theorem fl_X2_15 : FL RX2 15 2 1 := ⟨RX2, TX2, 5, rfl, by decide, uwX2, Or.inl (TB_of 184 (by decide +kernel) rfl), rfl⟩
theorem fl_X2_18 : FL RX2 18 2 2 := ⟨RX2, TX2, 5, rfl, by decide, uwX2, Or.inl (TB_of 185 (by decide +kernel) rfl), rfl⟩
theorem fl_X2_21 : FL RX2 21 2 3 := ⟨RX2, TX2, 5, rfl, by decide, uwX2, Or.inl (TB_of 186 (by decide +kernel) rfl), rfl⟩
theorem fl_X2_24 : FL RX2 24 2 4 := ⟨RX2, TX2, 5, rfl, by decide, uwX2, Or.inl (TB_of 187 (by decide +kernel) rfl), rfl⟩
theorem fw_X2_24 : FW RX2 24 2 4 := ⟨RX2, TX2, 5, tyX2, rfl, by decide, uwX2, Or.inl (TB_of 187 (by decide +kernel) rfl), rfl, tyX2_ok, nmX2, rfl, by decide +kernel⟩
theorem fl_X8_162 : FL RX8 162 2 4 := ⟨RX2, TX2, 5, rfl, by decide, uwX2, Or.inr ⟨"TownAsks", NWl_of 188 (by decide +kernel) rfl⟩, rfl⟩
theorem fw_X8_162 : FW RX8 162 2 4 := ⟨RX2, TX2, 5, tyX2, rfl, by decide, uwX2, Or.inr ⟨"TownAsks", NWl_of 188 (by decide +kernel) rfl⟩, rfl, tyX2_ok, nmX2, rfl, by decide +kernel⟩
theorem lk_X8_46 : LK RX8 46 yX1_init := Or.inr ⟨"TownAsks", NWl_of 202 (by decide +kernel) rfl⟩
theorem lo_X1_3 : Cond.methodLink RX1 3 objectInit ∈ TB := TB_of 205 (by decide +kernel) rfl
theorem fl_X1_9 : FL RX1 9 1 0 := ⟨RX1, TX1, 11, rfl, by decide, uwX1, Or.inl (TB_of 206 (by decide +kernel) rfl), rfl⟩
theorem fl_X1_15 : FL RX1 15 1 1 := ⟨RX1, TX1, 11, rfl, by decide, uwX1, Or.inl (TB_of 207 (by decide +kernel) rfl), rfl⟩
theorem fl_X1_18 : FL RX1 18 1 2 := ⟨RX1, TX1, 11, rfl, by decide, uwX1, Or.inl (TB_of 208 (by decide +kernel) rfl), rfl⟩
theorem fl_X1_21 : FL RX1 21 1 3 := ⟨RX1, TX1, 11, rfl, by decide, uwX1, Or.inl (TB_of 209 (by decide +kernel) rfl), rfl⟩
theorem fl_X1_24 : FL RX1 24 1 4 := ⟨RX1, TX1, 11, rfl, by decide, uwX1, Or.inl (TB_of 210 (by decide +kernel) rfl), rfl⟩
theorem fl_X1_27 : FL RX1 27 1 5 := ⟨RX1, TX1, 11, rfl, by decide, uwX1, Or.inl (TB_of 211 (by decide +kernel) rfl), rfl⟩
theorem fl_X1_30 : FL RX1 30 1 6 := ⟨RX1, TX1, 11, rfl, by decide, uwX1, Or.inl (TB_of 212 (by decide +kernel) rfl), rfl⟩
theorem fl_X1_33 : FL RX1 33 1 7 := ⟨RX1, TX1, 11, rfl, by decide, uwX1, Or.inl (TB_of 213 (by decide +kernel) rfl), rfl⟩
theorem fw_X1_33 : FW RX1 33 1 7 := ⟨RX1, TX1, 11, tyX1, rfl, by decide, uwX1, Or.inl (TB_of 213 (by decide +kernel) rfl), rfl, tyX1_ok, nmX1, rfl, by decide +kernel⟩
theorem fl_X1_37 : FL RX1 37 1 8 := ⟨RX1, TX1, 11, rfl, by decide, uwX1, Or.inl (TB_of 214 (by decide +kernel) rfl), rfl⟩
theorem fw_X1_37 : FW RX1 37 1 8 := ⟨RX1, TX1, 11, tyX1, rfl, by decide, uwX1, Or.inl (TB_of 214 (by decide +kernel) rfl), rfl, tyX1_ok, nmX1, rfl, by decide +kernel⟩
theorem fl_X1_40 : FL RX1 40 1 9 := ⟨RX1, TX1, 11, rfl, by decide, uwX1, Or.inl (TB_of 215 (by decide +kernel) rfl), rfl⟩
theorem fw_X1_40 : FW RX1 40 1 9 := ⟨RX1, TX1, 11, tyX1, rfl, by decide, uwX1, Or.inl (TB_of 215 (by decide +kernel) rfl), rfl, tyX1_ok, nmX1, rfl, by decide +kernel⟩
theorem fl_X1_43 : FL RX1 43 1 10 := ⟨RX1, TX1, 11, rfl, by decide, uwX1, Or.inl (TB_of 216 (by decide +kernel) rfl), rfl⟩
theorem fw_X1_43 : FW RX1 43 1 10 := ⟨RX1, TX1, 11, tyX1, rfl, by decide, uwX1, Or.inl (TB_of 216 (by decide +kernel) rfl), rfl, tyX1_ok, nmX1, rfl, by decide +kernel⟩
theorem lk_X8_57 : LK RX8 57 yX5_init := Or.inr ⟨"TownAsks", NWl_of 242 (by decide +kernel) rfl⟩
theorem lo_X5_3 : Cond.methodLink RX5 3 objectInit ∈ TB := TB_of 245 (by decide +kernel) rfl
theorem fl_X5_9 : FL RX5 9 5 0 := ⟨RX5, TX5, 3, rfl, by decide, uwX5, Or.inl (TB_of 246 (by decide +kernel) rfl), rfl⟩
theorem fl_X8_227 : FL RX8 227 5 0 := ⟨RX5, TX5, 3, rfl, by decide, uwX5, Or.inr ⟨"TownAsks", NWl_of 247 (by decide +kernel) rfl⟩, rfl⟩
theorem fl_X5_15 : FL RX5 15 5 1 := ⟨RX5, TX5, 3, rfl, by decide, uwX5, Or.inl (TB_of 248 (by decide +kernel) rfl), rfl⟩
theorem fl_X5_18 : FL RX5 18 5 2 := ⟨RX5, TX5, 3, rfl, by decide, uwX5, Or.inl (TB_of 249 (by decide +kernel) rfl), rfl⟩
theorem lk_X8_74 : LK RX8 74 yX4_init := Or.inr ⟨"TownAsks", NWl_of 260 (by decide +kernel) rfl⟩
theorem lo_X4_3 : Cond.methodLink RX4 3 objectInit ∈ TB := TB_of 263 (by decide +kernel) rfl
theorem fl_X4_9 : FL RX4 9 4 0 := ⟨RX4, TX4, 3, rfl, by decide, uwX4, Or.inl (TB_of 264 (by decide +kernel) rfl), rfl⟩
theorem fl_X8_280 : FL RX8 280 4 0 := ⟨RX4, TX4, 3, rfl, by decide, uwX4, Or.inr ⟨"TownAsks", NWl_of 265 (by decide +kernel) rfl⟩, rfl⟩
theorem fl_X4_15 : FL RX4 15 4 1 := ⟨RX4, TX4, 3, rfl, by decide, uwX4, Or.inl (TB_of 266 (by decide +kernel) rfl), rfl⟩
theorem fw_X4_15 : FW RX4 15 4 1 := ⟨RX4, TX4, 3, tyX4, rfl, by decide, uwX4, Or.inl (TB_of 266 (by decide +kernel) rfl), rfl, tyX4_ok, nmX4, rfl, by decide +kernel⟩
theorem fl_X8_274 : FL RX8 274 4 1 := ⟨RX4, TX4, 3, rfl, by decide, uwX4, Or.inr ⟨"TownAsks", NWl_of 267 (by decide +kernel) rfl⟩, rfl⟩
theorem fw_X8_274 : FW RX8 274 4 1 := ⟨RX4, TX4, 3, tyX4, rfl, by decide, uwX4, Or.inr ⟨"TownAsks", NWl_of 267 (by decide +kernel) rfl⟩, rfl, tyX4_ok, nmX4, rfl, by decide +kernel⟩
theorem fl_X4_19 : FL RX4 19 4 2 := ⟨RX4, TX4, 3, rfl, by decide, uwX4, Or.inl (TB_of 268 (by decide +kernel) rfl), rfl⟩
theorem fw_X4_19 : FW RX4 19 4 2 := ⟨RX4, TX4, 3, tyX4, rfl, by decide, uwX4, Or.inl (TB_of 268 (by decide +kernel) rfl), rfl, tyX4_ok, nmX4, rfl, by decide +kernel⟩
theorem fl_X8_263 : FL RX8 263 4 2 := ⟨RX4, TX4, 3, rfl, by decide, uwX4, Or.inr ⟨"TownAsks", NWl_of 269 (by decide +kernel) rfl⟩, rfl⟩
theorem fw_X8_263 : FW RX8 263 4 2 := ⟨RX4, TX4, 3, tyX4, rfl, by decide, uwX4, Or.inr ⟨"TownAsks", NWl_of 269 (by decide +kernel) rfl⟩, rfl, tyX4_ok, nmX4, rfl, by decide +kernel⟩
theorem fl_X8_10 : FL RX8 10 8 0 := ⟨RX8, TX8, 12, rfl, by decide, uwX8, Or.inl (TB_of 277 (by decide +kernel) rfl), rfl⟩
theorem fl_X8_19 : FL RX8 19 8 1 := ⟨RX8, TX8, 12, rfl, by decide, uwX8, Or.inl (TB_of 278 (by decide +kernel) rfl), rfl⟩
theorem fl_X8_26 : FL RX8 26 8 2 := ⟨RX8, TX8, 12, rfl, by decide, uwX8, Or.inl (TB_of 279 (by decide +kernel) rfl), rfl⟩
theorem fl_X8_33 : FL RX8 33 8 3 := ⟨RX8, TX8, 12, rfl, by decide, uwX8, Or.inl (TB_of 280 (by decide +kernel) rfl), rfl⟩
theorem fl_X8_40 : FL RX8 40 8 4 := ⟨RX8, TX8, 12, rfl, by decide, uwX8, Or.inl (TB_of 281 (by decide +kernel) rfl), rfl⟩
theorem fl_X8_47 : FL RX8 47 8 5 := ⟨RX8, TX8, 12, rfl, by decide, uwX8, Or.inl (TB_of 282 (by decide +kernel) rfl), rfl⟩
theorem fl_X8_51 : FL RX8 51 8 6 := ⟨RX8, TX8, 12, rfl, by decide, uwX8, Or.inl (TB_of 283 (by decide +kernel) rfl), rfl⟩
theorem fl_X8_58 : FL RX8 58 8 7 := ⟨RX8, TX8, 12, rfl, by decide, uwX8, Or.inl (TB_of 284 (by decide +kernel) rfl), rfl⟩
theorem fl_X8_62 : FL RX8 62 8 8 := ⟨RX8, TX8, 12, rfl, by decide, uwX8, Or.inl (TB_of 285 (by decide +kernel) rfl), rfl⟩
theorem fl_X8_65 : FL RX8 65 8 9 := ⟨RX8, TX8, 12, rfl, by decide, uwX8, Or.inl (TB_of 286 (by decide +kernel) rfl), rfl⟩
theorem fl_X8_70 : FL RX8 70 8 10 := ⟨RX8, TX8, 12, rfl, by decide, uwX8, Or.inl (TB_of 287 (by decide +kernel) rfl), rfl⟩
theorem fl_X8_75 : FL RX8 75 8 11 := ⟨RX8, TX8, 12, rfl, by decide, uwX8, Or.inl (TB_of 288 (by decide +kernel) rfl), rfl⟩
theorem fw_X8_75 : FW RX8 75 8 11 := ⟨RX8, TX8, 12, tyX8, rfl, by decide, uwX8, Or.inl (TB_of 288 (by decide +kernel) rfl), rfl, tyX8_ok, nmX8, rfl, by decide +kernel⟩
theorem lk_L_13 : LK RL 13 yX8_ask := Or.inl (TB_of 314 (by decide +kernel) rfl)
theorem lk_X8_79 : LK RX8 79 yX8_within := Or.inl (TB_of 318 (by decide +kernel) rfl)
theorem lk_X8_83 : LK RX8 83 yX8_isKind := Or.inl (TB_of 321 (by decide +kernel) rfl)
theorem lk_X8_87 : LK RX8 87 yX8_canComeOn := Or.inl (TB_of 324 (by decide +kernel) rfl)
theorem lk_X8_191 : LK RX8 191 yX8_isDay := Or.inl (TB_of 328 (by decide +kernel) rfl)
theorem lk_X8_300 : LK RX8 300 yX0_latestDay := Or.inl (TB_of 331 (by decide +kernel) rfl)
theorem kc_X8_90 : Cond.constant RX8 90 (-1000001) ∈ TB := TB_of 335 (by decide +kernel) rfl
theorem lk_X8_91 : LK RX8 91 yX8_finding := Or.inl (TB_of 336 (by decide +kernel) rfl)
theorem kc_X8_98 : Cond.constant RX8 98 (-1000002) ∈ TB := TB_of 340 (by decide +kernel) rfl
theorem lk_X8_99 : LK RX8 99 yX8_join := Or.inl (TB_of 341 (by decide +kernel) rfl)
theorem lk_X8_311 : LK RX8 311 yX0_add := Or.inl (TB_of 345 (by decide +kernel) rfl)
theorem lk_X8_314 : LK RX8 314 yX8_firstOpenThingFor := Or.inl (TB_of 349 (by decide +kernel) rfl)
theorem lk_X8_319 : LK RX8 319 yX0_meetsAllOfThing := Or.inl (TB_of 353 (by decide +kernel) rfl)
theorem lk_X0_50 : LK RX0 50 yX0_areMeeting := Or.inl (TB_of 357 (by decide +kernel) rfl)
theorem lk_X0_40 : LK RX0 40 yX8_far := Or.inr ⟨"TownAsks", NWl_of 361 (by decide +kernel) rfl⟩
theorem lk_X8_306 : LK RX8 306 yJ9_abs_0f7a4 := Or.inl (TB_of 364 (by decide +kernel) rfl)
theorem la_X8_306 : Cond.methodLink RX8 306 Lib.Math.abs.name ∈ TB := TB_of 364 (by decide +kernel) rfl
theorem lk_X0_44 : LK RX0 44 yJ9_abs_0f7a4 := Or.inl (TB_of 367 (by decide +kernel) rfl)
theorem la_X0_44 : Cond.methodLink RX0 44 Lib.Math.abs.name ∈ TB := TB_of 367 (by decide +kernel) rfl
theorem lk_X8_317 : LK RX8 317 yX7_begin := Or.inl (TB_of 368 (by decide +kernel) rfl)
theorem lk_L_18 : LK RL 18 yX8_marks := Or.inl (TB_of 372 (by decide +kernel) rfl)
theorem lk_L_23 : LK RL 23 yX8_meet := Or.inl (TB_of 376 (by decide +kernel) rfl)
theorem lk_X8_109 : LK RX8 109 yX8_isAsk := Or.inl (TB_of 380 (by decide +kernel) rfl)
theorem lk_X8_112 : LK RX8 112 yX0_areMeeting := Or.inl (TB_of 384 (by decide +kernel) rfl)
theorem lk_L_28 : LK RL 28 yX8_of := Or.inl (TB_of 385 (by decide +kernel) rfl)
theorem lk_X8_116 : LK RX8 116 yX0_detail := Or.inl (TB_of 389 (by decide +kernel) rfl)
theorem lk_X0_58 : LK RX0 58 yX0_quarterOfAsk := Or.inl (TB_of 393 (by decide +kernel) rfl)
theorem lk_X0_54 : LK RX0 54 yX8_quarterAt := Or.inr ⟨"TownAsks", NWl_of 397 (by decide +kernel) rfl⟩
theorem lk_L_32 : LK RL 32 yX8_as := Or.inl (TB_of 400 (by decide +kernel) rfl)
theorem lk_X8_123 : LK RX8 123 yX8_isOrIsUnder := Or.inl (TB_of 404 (by decide +kernel) rfl)
theorem ab_X8_303 : Cond.fieldLink RX8 303 "TownAsks" "ABOVE" "[I" ∈ TB ∨ ∃ host, Cond.fieldLinkNest RX8 303 "TownAsks" "ABOVE" "[I" host ∈ NWl := Or.inl (TB_of 407 (by decide +kernel) rfl)
theorem kc_X8_126 : Cond.constant RX8 126 (-1000003) ∈ TB := TB_of 409 (by decide +kernel) rfl
theorem lk_L_36 : LK RL 36 yX8_fewest := Or.inl (TB_of 410 (by decide +kernel) rfl)
theorem kc_X8_130 : Cond.constant RX8 130 (-1000006) ∈ TB := TB_of 414 (by decide +kernel) rfl
theorem lk_X8_131 : LK RX8 131 yX3_fewestSets := Or.inl (TB_of 415 (by decide +kernel) rfl)
theorem lk_X3_18 : LK RX3 18 yX0_areMeeting := Or.inl (TB_of 419 (by decide +kernel) rfl)
theorem lk_X3_31 : LK RX3 31 yX3_putFrom := Or.inl (TB_of 420 (by decide +kernel) rfl)
theorem lk_L_40 : LK RL 40 yX8_thing := Or.inl (TB_of 424 (by decide +kernel) rfl)
theorem lk_X8_135 : LK RX8 135 yX8_isThing := Or.inl (TB_of 428 (by decide +kernel) rfl)
theorem lk_X8_138 : LK RX8 138 yX8_placeDetail := Or.inl (TB_of 432 (by decide +kernel) rfl)
theorem lk_X8_141 : LK RX8 141 yX8_stateDetail := Or.inl (TB_of 436 (by decide +kernel) rfl)
theorem lk_X8_337 : LK RX8 337 yX0_countOfThing := Or.inl (TB_of 440 (by decide +kernel) rfl)
theorem lk_L_44 : LK RL 44 yX8_asked := Or.inl (TB_of 444 (by decide +kernel) rfl)
theorem lk_X8_144 : LK RX8 144 yX0_nthOfThing := Or.inl (TB_of 448 (by decide +kernel) rfl)
theorem lk_L_50 : LK RL 50 yX8_feed := Or.inl (TB_of 452 (by decide +kernel) rfl)
theorem lk_X8_150 : LK RX8 150 yX6_append := Or.inl (TB_of 456 (by decide +kernel) rfl)
theorem lk_L_55 : LK RL 55 yX8_text := Or.inl (TB_of 460 (by decide +kernel) rfl)
theorem lk_X8_154 : LK RX8 154 yX2_wrongPlace := Or.inl (TB_of 464 (by decide +kernel) rfl)
theorem lk_X2_36 : LK RX2 36 yX2_canStand := Or.inl (TB_of 468 (by decide +kernel) rfl)
theorem lk_X2_40 : LK RX2 40 yX8_within := Or.inr ⟨"TownAsks", NWl_of 471 (by decide +kernel) rfl⟩
theorem lk_X8_158 : LK RX8 158 yX2_load := Or.inl (TB_of 472 (by decide +kernel) rfl)
theorem kc_X8_165 : Cond.constant RX8 165 (-1000100) ∈ TB := TB_of 476 (by decide +kernel) rfl
theorem lk_L_60 : LK RL 60 yX8_whose := Or.inl (TB_of 477 (by decide +kernel) rfl)
theorem lk_X8_166 : LK RX8 166 yX8_ownerOf := Or.inl (TB_of 481 (by decide +kernel) rfl)
theorem lk_X8_169 : LK RX8 169 yX8_kindOf := Or.inl (TB_of 485 (by decide +kernel) rfl)
theorem lk_X8_179 : LK RX8 179 yX2_firstDeskFor := Or.inl (TB_of 489 (by decide +kernel) rfl)
theorem lk_X2_44 : LK RX2 44 yX2_rowFor := Or.inl (TB_of 493 (by decide +kernel) rfl)
theorem lk_X2_48 : LK RX2 48 yX2_rowForJust := Or.inl (TB_of 497 (by decide +kernel) rfl)
theorem ab_X2_51 : Cond.fieldLink RX2 51 "TownAsks" "ABOVE" "[I" ∈ TB ∨ ∃ host, Cond.fieldLinkNest RX2 51 "TownAsks" "ABOVE" "[I" host ∈ NWl := Or.inr ⟨"TownAsks", NWl_of 501 (by decide +kernel) rfl⟩
theorem kc_X8_175 : Cond.constant RX8 175 (-1000004) ∈ TB := TB_of 502 (by decide +kernel) rfl
theorem lk_X8_182 : LK RX8 182 yX8_quarterOfThing := Or.inl (TB_of 503 (by decide +kernel) rfl)
theorem lk_X8_328 : LK RX8 328 yX0_quarterOfAsk := Or.inl (TB_of 507 (by decide +kernel) rfl)
theorem lk_X8_346 : LK RX8 346 yX2_lastDeskFrom := Or.inl (TB_of 508 (by decide +kernel) rfl)
theorem lk_X2_62 : LK RX2 62 yX2_rowsGoneBy := Or.inl (TB_of 512 (by decide +kernel) rfl)
theorem lk_X2_54 : LK RX2 54 yX2_nextDesk := Or.inl (TB_of 516 (by decide +kernel) rfl)
theorem lk_X2_58 : LK RX2 58 yX8_hasBit := Or.inr ⟨"TownAsks", NWl_of 520 (by decide +kernel) rfl⟩
theorem kc_X2_65 : Cond.constant RX2 65 (-1000007) ∈ TB := TB_of 523 (by decide +kernel) rfl
theorem lk_L_65 : LK RL 65 yX8_promise := Or.inl (TB_of 524 (by decide +kernel) rfl)
theorem lk_X8_172 : LK RX8 172 yX2_daysFor := Or.inl (TB_of 528 (by decide +kernel) rfl)
theorem lk_X8_176 : LK RX8 176 yX8_dayOf := Or.inl (TB_of 532 (by decide +kernel) rfl)
theorem lk_L_69 : LK RL 69 yX8_sent := Or.inl (TB_of 536 (by decide +kernel) rfl)
theorem lk_X8_185 : LK RX8 185 yX2_rowsGoneBy := Or.inl (TB_of 540 (by decide +kernel) rfl)
theorem lk_L_73 : LK RL 73 yX8_effort := Or.inl (TB_of 541 (by decide +kernel) rfl)
theorem lk_L_77 : LK RL 77 yX8_order := Or.inl (TB_of 545 (by decide +kernel) rfl)
theorem lk_X8_188 : LK RX8 188 yX8_isPlace := Or.inl (TB_of 549 (by decide +kernel) rfl)
theorem lk_X8_194 : LK RX8 194 yX8_areThings := Or.inl (TB_of 552 (by decide +kernel) rfl)
theorem lk_X8_197 : LK RX8 197 yJ6_bitCount_0f7a4 := Or.inl (TB_of 556 (by decide +kernel) rfl)
theorem kc_J6_265 : Cond.constant RJ6 265 1431655765 ∈ TB := TB_of 559 (by decide +kernel) rfl
theorem kc_J6_266 : Cond.constant RJ6 266 858993459 ∈ TB := TB_of 560 (by decide +kernel) rfl
theorem kc_J6_267 : Cond.constant RJ6 267 252645135 ∈ TB := TB_of 561 (by decide +kernel) rfl
theorem lk_X8_202 : LK RX8 202 yX1_begin := Or.inl (TB_of 562 (by decide +kernel) rfl)
theorem lk_X8_206 : LK RX8 206 yX8_hasBit := Or.inl (TB_of 566 (by decide +kernel) rfl)
theorem lk_X8_209 : LK RX8 209 yX8_giveToCrew := Or.inl (TB_of 567 (by decide +kernel) rfl)
theorem kc_X8_349 : Cond.constant RX8 349 1000000 ∈ TB := TB_of 571 (by decide +kernel) rfl
theorem lk_X8_350 : LK RX8 350 yX1_take := Or.inl (TB_of 572 (by decide +kernel) rfl)
theorem lk_X8_212 : LK RX8 212 yX1_findOrder := Or.inl (TB_of 576 (by decide +kernel) rfl)
theorem lk_X1_46 : LK RX1 46 yX1_goOn := Or.inl (TB_of 580 (by decide +kernel) rfl)
theorem lk_X1_50 : LK RX1 50 yX1_keepTried := Or.inl (TB_of 584 (by decide +kernel) rfl)
theorem lk_X1_54 : LK RX1 54 yX8_hasBit := Or.inr ⟨"TownAsks", NWl_of 588 (by decide +kernel) rfl⟩
theorem lk_X1_58 : LK RX1 58 yX8_far := Or.inr ⟨"TownAsks", NWl_of 589 (by decide +kernel) rfl⟩
theorem lk_X8_216 : LK RX8 216 yX1_detail := Or.inl (TB_of 590 (by decide +kernel) rfl)
theorem lk_X1_62 : LK RX1 62 yX8_within := Or.inr ⟨"TownAsks", NWl_of 594 (by decide +kernel) rfl⟩
theorem lk_L_81 : LK RL 81 yX8_close := Or.inl (TB_of 595 (by decide +kernel) rfl)
theorem kc_X8_222 : Cond.constant RX8 222 (-1000005) ∈ TB := TB_of 599 (by decide +kernel) rfl
theorem lk_X8_223 : LK RX8 223 yX7_shut := Or.inl (TB_of 600 (by decide +kernel) rfl)
theorem lk_L_85 : LK RL 85 yX8_look := Or.inl (TB_of 604 (by decide +kernel) rfl)
theorem lk_X8_236 : LK RX8 236 yX5_countLook := Or.inl (TB_of 608 (by decide +kernel) rfl)
theorem lk_L_90 : LK RL 90 yX8_closings := Or.inl (TB_of 612 (by decide +kernel) rfl)
theorem lk_X8_240 : LK RX8 240 yX5_detail := Or.inl (TB_of 616 (by decide +kernel) rfl)
theorem lk_L_94 : LK RL 94 yX8_walk := Or.inl (TB_of 620 (by decide +kernel) rfl)
theorem lk_X8_241 : LK RX8 241 yX8_isQuarter := Or.inl (TB_of 624 (by decide +kernel) rfl)
theorem lk_L_98 : LK RL 98 yX8_quarter := Or.inl (TB_of 627 (by decide +kernel) rfl)
theorem lk_X8_244 : LK RX8 244 yX8_thingsIn := Or.inl (TB_of 631 (by decide +kernel) rfl)
theorem lk_X8_248 : LK RX8 248 yX0_countIn := Or.inl (TB_of 635 (by decide +kernel) rfl)
theorem lk_X8_251 : LK RX8 251 yX8_askedOfHundred := Or.inl (TB_of 639 (by decide +kernel) rfl)
theorem lk_X8_254 : LK RX8 254 yX8_thingsReckoned := Or.inl (TB_of 643 (by decide +kernel) rfl)
theorem lk_L_102 : LK RL 102 yX8_sheet := Or.inl (TB_of 647 (by decide +kernel) rfl)
theorem lk_X8_257 : LK RX8 257 yX8_isSheet := Or.inl (TB_of 651 (by decide +kernel) rfl)
theorem kc_X8_260 : Cond.constant RX8 260 (-1000009) ∈ TB := TB_of 654 (by decide +kernel) rfl
theorem lk_X8_261 : LK RX8 261 yX4_begin := Or.inl (TB_of 655 (by decide +kernel) rfl)
theorem lk_L_106 : LK RL 106 yX8_write := Or.inl (TB_of 659 (by decide +kernel) rfl)
theorem lk_X8_266 : LK RX8 266 yX4_isMissing := Or.inl (TB_of 663 (by decide +kernel) rfl)
theorem kc_X8_270 : Cond.constant RX8 270 (-1000008) ∈ TB := TB_of 667 (by decide +kernel) rfl
theorem lk_X8_271 : LK RX8 271 yX4_replace := Or.inl (TB_of 668 (by decide +kernel) rfl)
theorem lk_X4_22 : LK RX4 22 yX4_lowestBits := Or.inl (TB_of 672 (by decide +kernel) rfl)
theorem lk_L_110 : LK RL 110 yX8_copy := Or.inl (TB_of 676 (by decide +kernel) rfl)
theorem lk_X8_277 : LK RX8 277 yX4_hasRange := Or.inl (TB_of 680 (by decide +kernel) rfl)
theorem lk_X8_283 : Cond.methodLink RX8 283 arraycopyName ∈ TB := TB_of 684 (by decide +kernel) rfl
theorem lk_L_114 : LK RL 114 yX8_read := Or.inl (TB_of 687 (by decide +kernel) rfl)
theorem lk_X8_289 : LK RX8 289 yX4_holdsPlacesAlone := Or.inl (TB_of 691 (by decide +kernel) rfl)
theorem lk_X4_26 : LK RX4 26 yX8_isPlace := Or.inr ⟨"TownAsks", NWl_of 695 (by decide +kernel) rfl⟩
theorem lk_L_118 : LK RL 118 yX8_told := Or.inl (TB_of 696 (by decide +kernel) rfl)
theorem lk_X8_293 : LK RX8 293 yX7_countOpen := Or.inl (TB_of 700 (by decide +kernel) rfl)
theorem lk_X8_297 : LK RX8 297 yX5_allClosed := Or.inl (TB_of 704 (by decide +kernel) rfl)
theorem lk_L_12 : LK RL 12 yX9_init := Or.inl (TB_of 710 (by decide +kernel) rfl)
theorem lo_X9_1 : Cond.methodLink RX9 1 objectInit ∈ TB := TB_of 713 (by decide +kernel) rfl
theorem fl_X9_107 : FL RX9 107 9 0 := ⟨RX9, TX9, 41, rfl, by decide, uwX9, Or.inl (TB_of 714 (by decide +kernel) rfl), rfl⟩
theorem fw_X9_107 : FW RX9 107 9 0 := ⟨RX9, TX9, 41, tyX9, rfl, by decide, uwX9, Or.inl (TB_of 714 (by decide +kernel) rfl), rfl, tyX9_ok, nmX9, rfl, by decide +kernel⟩
theorem fl_X9_115 : FL RX9 115 9 1 := ⟨RX9, TX9, 41, rfl, by decide, uwX9, Or.inl (TB_of 715 (by decide +kernel) rfl), rfl⟩
theorem fw_X9_115 : FW RX9 115 9 1 := ⟨RX9, TX9, 41, tyX9, rfl, by decide, uwX9, Or.inl (TB_of 715 (by decide +kernel) rfl), rfl, tyX9_ok, nmX9, rfl, by decide +kernel⟩
theorem fl_X9_7 : FL RX9 7 9 2 := ⟨RX9, TX9, 41, rfl, by decide, uwX9, Or.inl (TB_of 716 (by decide +kernel) rfl), rfl⟩
theorem fl_X9_13 : FL RX9 13 9 3 := ⟨RX9, TX9, 41, rfl, by decide, uwX9, Or.inl (TB_of 717 (by decide +kernel) rfl), rfl⟩
theorem fl_X9_16 : FL RX9 16 9 4 := ⟨RX9, TX9, 41, rfl, by decide, uwX9, Or.inl (TB_of 718 (by decide +kernel) rfl), rfl⟩
theorem fl_X9_19 : FL RX9 19 9 5 := ⟨RX9, TX9, 41, rfl, by decide, uwX9, Or.inl (TB_of 719 (by decide +kernel) rfl), rfl⟩
theorem fl_X9_22 : FL RX9 22 9 6 := ⟨RX9, TX9, 41, rfl, by decide, uwX9, Or.inl (TB_of 720 (by decide +kernel) rfl), rfl⟩
theorem fl_X9_25 : FL RX9 25 9 7 := ⟨RX9, TX9, 41, rfl, by decide, uwX9, Or.inl (TB_of 721 (by decide +kernel) rfl), rfl⟩
theorem fl_X9_28 : FL RX9 28 9 8 := ⟨RX9, TX9, 41, rfl, by decide, uwX9, Or.inl (TB_of 722 (by decide +kernel) rfl), rfl⟩
theorem fl_X9_31 : FL RX9 31 9 9 := ⟨RX9, TX9, 41, rfl, by decide, uwX9, Or.inl (TB_of 723 (by decide +kernel) rfl), rfl⟩
theorem fl_X9_118 : FL RX9 118 9 10 := ⟨RX9, TX9, 41, rfl, by decide, uwX9, Or.inl (TB_of 724 (by decide +kernel) rfl), rfl⟩
theorem fw_X9_118 : FW RX9 118 9 10 := ⟨RX9, TX9, 41, tyX9, rfl, by decide, uwX9, Or.inl (TB_of 724 (by decide +kernel) rfl), rfl, tyX9_ok, nmX9, rfl, by decide +kernel⟩
theorem fl_X9_34 : FL RX9 34 9 11 := ⟨RX9, TX9, 41, rfl, by decide, uwX9, Or.inl (TB_of 725 (by decide +kernel) rfl), rfl⟩
theorem fl_X9_37 : FL RX9 37 9 12 := ⟨RX9, TX9, 41, rfl, by decide, uwX9, Or.inl (TB_of 726 (by decide +kernel) rfl), rfl⟩
theorem fl_X9_41 : FL RX9 41 9 13 := ⟨RX9, TX9, 41, rfl, by decide, uwX9, Or.inl (TB_of 727 (by decide +kernel) rfl), rfl⟩
theorem fl_X9_44 : FL RX9 44 9 14 := ⟨RX9, TX9, 41, rfl, by decide, uwX9, Or.inl (TB_of 728 (by decide +kernel) rfl), rfl⟩
theorem fl_X9_47 : FL RX9 47 9 15 := ⟨RX9, TX9, 41, rfl, by decide, uwX9, Or.inl (TB_of 729 (by decide +kernel) rfl), rfl⟩
theorem fl_X9_50 : FL RX9 50 9 16 := ⟨RX9, TX9, 41, rfl, by decide, uwX9, Or.inl (TB_of 730 (by decide +kernel) rfl), rfl⟩
theorem fl_X9_170 : FL RX9 170 9 17 := ⟨RX9, TX9, 41, rfl, by decide, uwX9, Or.inl (TB_of 731 (by decide +kernel) rfl), rfl⟩
theorem fw_X9_170 : FW RX9 170 9 17 := ⟨RX9, TX9, 41, tyX9, rfl, by decide, uwX9, Or.inl (TB_of 731 (by decide +kernel) rfl), rfl, tyX9_ok, nmX9, rfl, by decide +kernel⟩
theorem fl_X9_53 : FL RX9 53 9 18 := ⟨RX9, TX9, 41, rfl, by decide, uwX9, Or.inl (TB_of 732 (by decide +kernel) rfl), rfl⟩
theorem fl_X9_179 : FL RX9 179 9 19 := ⟨RX9, TX9, 41, rfl, by decide, uwX9, Or.inl (TB_of 733 (by decide +kernel) rfl), rfl⟩
theorem fw_X9_179 : FW RX9 179 9 19 := ⟨RX9, TX9, 41, tyX9, rfl, by decide, uwX9, Or.inl (TB_of 733 (by decide +kernel) rfl), rfl, tyX9_ok, nmX9, rfl, by decide +kernel⟩
theorem fl_X9_56 : FL RX9 56 9 20 := ⟨RX9, TX9, 41, rfl, by decide, uwX9, Or.inl (TB_of 734 (by decide +kernel) rfl), rfl⟩
theorem fl_X9_59 : FL RX9 59 9 21 := ⟨RX9, TX9, 41, rfl, by decide, uwX9, Or.inl (TB_of 735 (by decide +kernel) rfl), rfl⟩
theorem fl_X9_62 : FL RX9 62 9 22 := ⟨RX9, TX9, 41, rfl, by decide, uwX9, Or.inl (TB_of 736 (by decide +kernel) rfl), rfl⟩
theorem fl_X9_65 : FL RX9 65 9 23 := ⟨RX9, TX9, 41, rfl, by decide, uwX9, Or.inl (TB_of 737 (by decide +kernel) rfl), rfl⟩
theorem fl_X9_68 : FL RX9 68 9 24 := ⟨RX9, TX9, 41, rfl, by decide, uwX9, Or.inl (TB_of 738 (by decide +kernel) rfl), rfl⟩
theorem fl_X9_71 : FL RX9 71 9 25 := ⟨RX9, TX9, 41, rfl, by decide, uwX9, Or.inl (TB_of 739 (by decide +kernel) rfl), rfl⟩
theorem fl_X9_74 : FL RX9 74 9 26 := ⟨RX9, TX9, 41, rfl, by decide, uwX9, Or.inl (TB_of 740 (by decide +kernel) rfl), rfl⟩
theorem fl_X9_77 : FL RX9 77 9 27 := ⟨RX9, TX9, 41, rfl, by decide, uwX9, Or.inl (TB_of 741 (by decide +kernel) rfl), rfl⟩
theorem fl_X9_80 : FL RX9 80 9 28 := ⟨RX9, TX9, 41, rfl, by decide, uwX9, Or.inl (TB_of 742 (by decide +kernel) rfl), rfl⟩
theorem fl_X9_83 : FL RX9 83 9 29 := ⟨RX9, TX9, 41, rfl, by decide, uwX9, Or.inl (TB_of 743 (by decide +kernel) rfl), rfl⟩
theorem fl_X9_86 : FL RX9 86 9 30 := ⟨RX9, TX9, 41, rfl, by decide, uwX9, Or.inl (TB_of 744 (by decide +kernel) rfl), rfl⟩
theorem fl_X9_89 : FL RX9 89 9 31 := ⟨RX9, TX9, 41, rfl, by decide, uwX9, Or.inl (TB_of 745 (by decide +kernel) rfl), rfl⟩
theorem fl_X9_92 : FL RX9 92 9 32 := ⟨RX9, TX9, 41, rfl, by decide, uwX9, Or.inl (TB_of 746 (by decide +kernel) rfl), rfl⟩
theorem fl_X9_185 : FL RX9 185 9 33 := ⟨RX9, TX9, 41, rfl, by decide, uwX9, Or.inl (TB_of 747 (by decide +kernel) rfl), rfl⟩
theorem fw_X9_185 : FW RX9 185 9 33 := ⟨RX9, TX9, 41, tyX9, rfl, by decide, uwX9, Or.inl (TB_of 747 (by decide +kernel) rfl), rfl, tyX9_ok, nmX9, rfl, by decide +kernel⟩
theorem fl_X9_199 : FL RX9 199 9 34 := ⟨RX9, TX9, 41, rfl, by decide, uwX9, Or.inl (TB_of 748 (by decide +kernel) rfl), rfl⟩
theorem fw_X9_199 : FW RX9 199 9 34 := ⟨RX9, TX9, 41, tyX9, rfl, by decide, uwX9, Or.inl (TB_of 748 (by decide +kernel) rfl), rfl, tyX9_ok, nmX9, rfl, by decide +kernel⟩
theorem fl_X9_95 : FL RX9 95 9 35 := ⟨RX9, TX9, 41, rfl, by decide, uwX9, Or.inl (TB_of 749 (by decide +kernel) rfl), rfl⟩
theorem fl_X9_98 : FL RX9 98 9 36 := ⟨RX9, TX9, 41, rfl, by decide, uwX9, Or.inl (TB_of 750 (by decide +kernel) rfl), rfl⟩
theorem fl_X9_101 : FL RX9 101 9 37 := ⟨RX9, TX9, 41, rfl, by decide, uwX9, Or.inl (TB_of 751 (by decide +kernel) rfl), rfl⟩
theorem fl_X9_202 : FL RX9 202 9 38 := ⟨RX9, TX9, 41, rfl, by decide, uwX9, Or.inl (TB_of 752 (by decide +kernel) rfl), rfl⟩
theorem fw_X9_202 : FW RX9 202 9 38 := ⟨RX9, TX9, 41, tyX9, rfl, by decide, uwX9, Or.inl (TB_of 752 (by decide +kernel) rfl), rfl, tyX9_ok, nmX9, rfl, by decide +kernel⟩
theorem fl_X9_205 : FL RX9 205 9 39 := ⟨RX9, TX9, 41, rfl, by decide, uwX9, Or.inl (TB_of 753 (by decide +kernel) rfl), rfl⟩
theorem fw_X9_205 : FW RX9 205 9 39 := ⟨RX9, TX9, 41, tyX9, rfl, by decide, uwX9, Or.inl (TB_of 753 (by decide +kernel) rfl), rfl, tyX9_ok, nmX9, rfl, by decide +kernel⟩
theorem fl_X9_104 : FL RX9 104 9 40 := ⟨RX9, TX9, 41, rfl, by decide, uwX9, Or.inl (TB_of 754 (by decide +kernel) rfl), rfl⟩
theorem lk_L_17 : LK RL 17 yX9_ask := Or.inl (TB_of 838 (by decide +kernel) rfl)
theorem lk_X9_133 : LK RX9 133 yX9_isKind := Or.inl (TB_of 842 (by decide +kernel) rfl)
theorem lk_X9_111 : LK RX9 111 yX9_in := Or.inl (TB_of 845 (by decide +kernel) rfl)
theorem lk_X9_137 : LK RX9 137 yX9_isDay := Or.inl (TB_of 848 (by decide +kernel) rfl)
theorem lk_X9_140 : LK RX9 140 yX9_latest := Or.inl (TB_of 851 (by decide +kernel) rfl)
theorem kc_X9_144 : Cond.constant RX9 144 (-1000001) ∈ TB := TB_of 855 (by decide +kernel) rfl
theorem lk_X9_145 : LK RX9 145 yX9_finding := Or.inl (TB_of 856 (by decide +kernel) rfl)
theorem kc_X9_148 : Cond.constant RX9 148 (-1000002) ∈ TB := TB_of 860 (by decide +kernel) rfl
theorem lk_X9_149 : LK RX9 149 yX9_comes := Or.inl (TB_of 861 (by decide +kernel) rfl)
theorem lk_X9_129 : LK RX9 129 yX9_doMeet := Or.inl (TB_of 865 (by decide +kernel) rfl)
theorem lk_X9_125 : LK RX9 125 yX9_away := Or.inl (TB_of 869 (by decide +kernel) rfl)
theorem lk_L_22 : LK RL 22 yX9_marks := Or.inl (TB_of 872 (by decide +kernel) rfl)
theorem lk_L_27 : LK RL 27 yX9_meet := Or.inl (TB_of 876 (by decide +kernel) rfl)
theorem lk_X9_153 : LK RX9 153 yX9_isAsk := Or.inl (TB_of 880 (by decide +kernel) rfl)
theorem lk_L_31 : LK RL 31 yX9_of := Or.inl (TB_of 884 (by decide +kernel) rfl)
theorem lk_X9_156 : LK RX9 156 yX9_quarterOf := Or.inl (TB_of 888 (by decide +kernel) rfl)
theorem lk_L_35 : LK RL 35 yX9_as := Or.inl (TB_of 891 (by decide +kernel) rfl)
theorem lk_X9_159 : LK RX9 159 yX9_isUnder := Or.inl (TB_of 895 (by decide +kernel) rfl)
theorem lk_X9_121 : LK RX9 121 yX9_above := Or.inl (TB_of 898 (by decide +kernel) rfl)
theorem kc_X9_162 : Cond.constant RX9 162 (-1000003) ∈ TB := TB_of 901 (by decide +kernel) rfl
theorem lk_L_39 : LK RL 39 yX9_fewest := Or.inl (TB_of 902 (by decide +kernel) rfl)
theorem kc_X9_163 : Cond.constant RX9 163 (-1000006) ∈ TB := TB_of 906 (by decide +kernel) rfl
theorem lk_L_43 : LK RL 43 yX9_thing := Or.inl (TB_of 907 (by decide +kernel) rfl)
theorem lk_X9_164 : LK RX9 164 yX9_isThing := Or.inl (TB_of 911 (by decide +kernel) rfl)
theorem lk_X9_167 : LK RX9 167 yX9_asksOf := Or.inl (TB_of 915 (by decide +kernel) rfl)
theorem lk_L_47 : LK RL 47 yX9_asked := Or.inl (TB_of 919 (by decide +kernel) rfl)
theorem lk_L_54 : LK RL 54 yX9_feed := Or.inl (TB_of 923 (by decide +kernel) rfl)
theorem kc_X9_173 : Cond.constantLong RX9 173 255 ∈ TB := TB_of 927 (by decide +kernel) rfl
theorem lk_L_59 : LK RL 59 yX9_text := Or.inl (TB_of 928 (by decide +kernel) rfl)
theorem lk_X9_175 : LK RX9 175 yX9_fits := Or.inl (TB_of 932 (by decide +kernel) rfl)
theorem kc_X9_178 : Cond.constant RX9 178 (-1000100) ∈ TB := TB_of 936 (by decide +kernel) rfl
theorem lk_L_64 : LK RL 64 yX9_whose := Or.inl (TB_of 937 (by decide +kernel) rfl)
theorem lk_X9_193 : LK RX9 193 yX9_owner := Or.inl (TB_of 941 (by decide +kernel) rfl)
theorem lk_X9_182 : LK RX9 182 yX9_rowFor := Or.inl (TB_of 945 (by decide +kernel) rfl)
theorem kc_X9_188 : Cond.constant RX9 188 (-1000004) ∈ TB := TB_of 949 (by decide +kernel) rfl
theorem lk_X9_189 : LK RX9 189 yX9_sends := Or.inl (TB_of 950 (by decide +kernel) rfl)
theorem kc_X9_192 : Cond.constant RX9 192 (-1000007) ∈ TB := TB_of 954 (by decide +kernel) rfl
theorem lk_L_68 : LK RL 68 yX9_promise := Or.inl (TB_of 955 (by decide +kernel) rfl)
theorem lk_X9_196 : LK RX9 196 yX9_promised := Or.inl (TB_of 959 (by decide +kernel) rfl)
theorem lk_L_72 : LK RL 72 yX9_sent := Or.inl (TB_of 963 (by decide +kernel) rfl)
theorem lk_L_76 : LK RL 76 yX9_effort := Or.inl (TB_of 967 (by decide +kernel) rfl)
theorem lk_L_80 : LK RL 80 yX9_order := Or.inl (TB_of 971 (by decide +kernel) rfl)
theorem lk_X9_215 : LK RX9 215 yX9_findOrder := Or.inl (TB_of 975 (by decide +kernel) rfl)
theorem lk_X9_208 : LK RX9 208 yX9_isChosen := Or.inl (TB_of 979 (by decide +kernel) rfl)
theorem lk_X9_211 : LK RX9 211 yX9_takes := Or.inl (TB_of 983 (by decide +kernel) rfl)
theorem lk_L_84 : LK RL 84 yX9_close := Or.inl (TB_of 987 (by decide +kernel) rfl)
theorem kc_X9_218 : Cond.constant RX9 218 (-1000005) ∈ TB := TB_of 991 (by decide +kernel) rfl
theorem lk_L_89 : LK RL 89 yX9_look := Or.inl (TB_of 992 (by decide +kernel) rfl)
theorem lk_L_93 : LK RL 93 yX9_closings := Or.inl (TB_of 996 (by decide +kernel) rfl)
theorem lk_L_97 : LK RL 97 yX9_walk := Or.inl (TB_of 1000 (by decide +kernel) rfl)
theorem lk_L_101 : LK RL 101 yX9_quarter := Or.inl (TB_of 1004 (by decide +kernel) rfl)
theorem lk_L_105 : LK RL 105 yX9_sheet := Or.inl (TB_of 1008 (by decide +kernel) rfl)
theorem lk_X9_219 : LK RX9 219 yX9_isSheet := Or.inl (TB_of 1012 (by decide +kernel) rfl)
theorem kc_X9_222 : Cond.constant RX9 222 (-1000009) ∈ TB := TB_of 1015 (by decide +kernel) rfl
theorem lk_L_109 : LK RL 109 yX9_write := Or.inl (TB_of 1016 (by decide +kernel) rfl)
theorem kc_X9_223 : Cond.constant RX9 223 (-1000008) ∈ TB := TB_of 1020 (by decide +kernel) rfl
theorem lk_X9_224 : LK RX9 224 yX9_cut := Or.inl (TB_of 1021 (by decide +kernel) rfl)
theorem lk_L_113 : LK RL 113 yX9_copy := Or.inl (TB_of 1024 (by decide +kernel) rfl)
theorem lk_L_117 : LK RL 117 yX9_read := Or.inl (TB_of 1028 (by decide +kernel) rfl)
theorem lk_L_121 : LK RL 121 yX9_told := Or.inl (TB_of 1032 (by decide +kernel) rfl)
theorem lk_X9_227 : LK RX9 227 yX9_openMany := Or.inl (TB_of 1036 (by decide +kernel) rfl)
theorem lk_X9_230 : LK RX9 230 yX9_allClosings := Or.inl (TB_of 1040 (by decide +kernel) rfl)
theorem kc_L_48 : Cond.constantLong RL 48 4294967295 ∈ TB := TB_of 1044 (by decide +kernel) rfl
set_option maxRecDepth 100000 in
theorem mk_X8_init : MK yX8_init cX8_init 2 none 0 := ⟨TB_of 59 rfl rfl, TB_of 42 (by decide +kernel) rfl, (by decide +kernel), by decide⟩
theorem mi_X8_init : Cond.instanceMethod yX8_init ∈ TB := TB_of 58 (by decide +kernel) rfl
set_option maxRecDepth 100000 in
theorem mk_X0_init : MK yX0_init cX0_init 1 none 0 := ⟨TB_of 67 rfl rfl, TB_of 43 (by decide +kernel) rfl, (by decide +kernel), by decide⟩
theorem mi_X0_init : Cond.instanceMethod yX0_init ∈ TB := TB_of 66 (by decide +kernel) rfl
set_option maxRecDepth 100000 in
theorem mk_X7_init : MK yX7_init cX7_init 1 none 0 := ⟨TB_of 110 rfl rfl, TB_of 44 (by decide +kernel) rfl, (by decide +kernel), by decide⟩
theorem mi_X7_init : Cond.instanceMethod yX7_init ∈ TB := TB_of 109 (by decide +kernel) rfl
set_option maxRecDepth 100000 in
theorem mk_X3_init : MK yX3_init cX3_init 1 none 0 := ⟨TB_of 146 rfl rfl, TB_of 45 (by decide +kernel) rfl, (by decide +kernel), by decide⟩
theorem mi_X3_init : Cond.instanceMethod yX3_init ∈ TB := TB_of 145 (by decide +kernel) rfl
set_option maxRecDepth 100000 in
theorem mk_X6_init : MK yX6_init cX6_init 1 none 0 := ⟨TB_of 165 rfl rfl, TB_of 46 (by decide +kernel) rfl, (by decide +kernel), by decide⟩
theorem mi_X6_init : Cond.instanceMethod yX6_init ∈ TB := TB_of 164 (by decide +kernel) rfl
set_option maxRecDepth 100000 in
theorem mk_X2_init : MK yX2_init cX2_init 1 none 0 := ⟨TB_of 181 rfl rfl, TB_of 47 (by decide +kernel) rfl, (by decide +kernel), by decide⟩
theorem mi_X2_init : Cond.instanceMethod yX2_init ∈ TB := TB_of 180 (by decide +kernel) rfl
set_option maxRecDepth 100000 in
theorem mk_X1_init : MK yX1_init cX1_init 1 none 0 := ⟨TB_of 204 rfl rfl, TB_of 48 (by decide +kernel) rfl, (by decide +kernel), by decide⟩
theorem mi_X1_init : Cond.instanceMethod yX1_init ∈ TB := TB_of 203 (by decide +kernel) rfl
set_option maxRecDepth 100000 in
theorem mk_X5_init : MK yX5_init cX5_init 1 none 0 := ⟨TB_of 244 rfl rfl, TB_of 49 (by decide +kernel) rfl, (by decide +kernel), by decide⟩
theorem mi_X5_init : Cond.instanceMethod yX5_init ∈ TB := TB_of 243 (by decide +kernel) rfl
set_option maxRecDepth 100000 in
theorem mk_X4_init : MK yX4_init cX4_init 1 none 0 := ⟨TB_of 262 rfl rfl, TB_of 50 (by decide +kernel) rfl, (by decide +kernel), by decide⟩
theorem mi_X4_init : Cond.instanceMethod yX4_init ∈ TB := TB_of 261 (by decide +kernel) rfl
set_option maxRecDepth 100000 in
theorem mv_X8_ask : MV yX8_ask cX8_ask 7 (some .int) 5 := ⟨⟨TB_of 317 rfl rfl, TB_of 42 (by decide +kernel) rfl, (by decide +kernel), by decide⟩, TB_of 315 (by decide +kernel) rfl, TB_of 316 (by decide +kernel) rfl⟩
set_option maxRecDepth 100000 in
theorem ms_X8_within : MS yX8_within cX8_within 3 (some .boolean) 3 := ⟨⟨TB_of 320 rfl rfl, TB_of 42 (by decide +kernel) rfl, (by decide +kernel), by decide⟩, TB_of 319 (by decide +kernel) rfl⟩
set_option maxRecDepth 100000 in
theorem ms_X8_isKind : MS yX8_isKind cX8_isKind 1 (some .boolean) 1 := ⟨⟨TB_of 323 rfl rfl, TB_of 42 (by decide +kernel) rfl, (by decide +kernel), by decide⟩, TB_of 322 (by decide +kernel) rfl⟩
set_option maxRecDepth 100000 in
theorem mv_X8_canComeOn : MV yX8_canComeOn cX8_canComeOn 2 (some .boolean) 1 := ⟨⟨TB_of 327 rfl rfl, TB_of 42 (by decide +kernel) rfl, (by decide +kernel), by decide⟩, TB_of 326 (by decide +kernel) rfl, TB_of 0 (by decide +kernel) rfl⟩
set_option maxRecDepth 100000 in
theorem ms_X8_isDay : MS yX8_isDay cX8_isDay 1 (some .boolean) 1 := ⟨⟨TB_of 330 rfl rfl, TB_of 42 (by decide +kernel) rfl, (by decide +kernel), by decide⟩, TB_of 329 (by decide +kernel) rfl⟩
set_option maxRecDepth 100000 in
theorem mv_X0_latestDay : MV yX0_latestDay cX0_latestDay 1 (some .int) 0 := ⟨⟨TB_of 334 rfl rfl, TB_of 43 (by decide +kernel) rfl, (by decide +kernel), by decide⟩, TB_of 332 (by decide +kernel) rfl, TB_of 333 (by decide +kernel) rfl⟩
set_option maxRecDepth 100000 in
theorem mv_X8_finding : MV yX8_finding cX8_finding 2 (some .int) 1 := ⟨⟨TB_of 339 rfl rfl, TB_of 42 (by decide +kernel) rfl, (by decide +kernel), by decide⟩, TB_of 338 (by decide +kernel) rfl, TB_of 1 (by decide +kernel) rfl⟩
set_option maxRecDepth 100000 in
theorem mv_X8_join : MV yX8_join cX8_join 8 (some .int) 5 := ⟨⟨TB_of 344 rfl rfl, TB_of 42 (by decide +kernel) rfl, (by decide +kernel), by decide⟩, TB_of 343 (by decide +kernel) rfl, TB_of 2 (by decide +kernel) rfl⟩
set_option maxRecDepth 100000 in
theorem mv_X0_add : MV yX0_add cX0_add 7 (some .int) 5 := ⟨⟨TB_of 348 rfl rfl, TB_of 43 (by decide +kernel) rfl, (by decide +kernel), by decide⟩, TB_of 346 (by decide +kernel) rfl, TB_of 347 (by decide +kernel) rfl⟩
set_option maxRecDepth 100000 in
theorem mv_X8_firstOpenThingFor : MV yX8_firstOpenThingFor cX8_firstOpenThingFor 3 (some .int) 1 := ⟨⟨TB_of 352 rfl rfl, TB_of 42 (by decide +kernel) rfl, (by decide +kernel), by decide⟩, TB_of 351 (by decide +kernel) rfl, TB_of 3 (by decide +kernel) rfl⟩
set_option maxRecDepth 100000 in
theorem mv_X0_meetsAllOfThing : MV yX0_meetsAllOfThing cX0_meetsAllOfThing 4 (some .boolean) 2 := ⟨⟨TB_of 356 rfl rfl, TB_of 43 (by decide +kernel) rfl, (by decide +kernel), by decide⟩, TB_of 354 (by decide +kernel) rfl, TB_of 355 (by decide +kernel) rfl⟩
set_option maxRecDepth 100000 in
theorem mv_X0_areMeeting : MV yX0_areMeeting cX0_areMeeting 4 (some .boolean) 2 := ⟨⟨TB_of 360 rfl rfl, TB_of 43 (by decide +kernel) rfl, (by decide +kernel), by decide⟩, TB_of 358 (by decide +kernel) rfl, TB_of 359 (by decide +kernel) rfl⟩
set_option maxRecDepth 100000 in
theorem ms_X8_far : MS yX8_far cX8_far 4 (some .int) 4 := ⟨⟨TB_of 363 rfl rfl, TB_of 42 (by decide +kernel) rfl, (by decide +kernel), by decide⟩, TB_of 362 (by decide +kernel) rfl⟩
set_option maxRecDepth 100000 in
theorem ms_J9_abs_0f7a4 : MS yJ9_abs_0f7a4 cJ9_abs_0f7a4 1 (some .int) 1 := ⟨⟨TB_of 366 rfl rfl, TB_of 52 (by decide +kernel) rfl, (by decide +kernel), by decide⟩, TB_of 365 (by decide +kernel) rfl⟩
set_option maxRecDepth 100000 in
theorem mv_X7_begin : MV yX7_begin cX7_begin 3 (some .int) 1 := ⟨⟨TB_of 371 rfl rfl, TB_of 44 (by decide +kernel) rfl, (by decide +kernel), by decide⟩, TB_of 369 (by decide +kernel) rfl, TB_of 370 (by decide +kernel) rfl⟩
set_option maxRecDepth 100000 in
theorem mv_X8_marks : MV yX8_marks cX8_marks 4 (some .int) 3 := ⟨⟨TB_of 375 rfl rfl, TB_of 42 (by decide +kernel) rfl, (by decide +kernel), by decide⟩, TB_of 373 (by decide +kernel) rfl, TB_of 374 (by decide +kernel) rfl⟩
set_option maxRecDepth 100000 in
theorem mv_X8_meet : MV yX8_meet cX8_meet 3 (some .int) 2 := ⟨⟨TB_of 379 rfl rfl, TB_of 42 (by decide +kernel) rfl, (by decide +kernel), by decide⟩, TB_of 377 (by decide +kernel) rfl, TB_of 378 (by decide +kernel) rfl⟩
set_option maxRecDepth 100000 in
theorem mv_X8_isAsk : MV yX8_isAsk cX8_isAsk 2 (some .boolean) 1 := ⟨⟨TB_of 383 rfl rfl, TB_of 42 (by decide +kernel) rfl, (by decide +kernel), by decide⟩, TB_of 382 (by decide +kernel) rfl, TB_of 4 (by decide +kernel) rfl⟩
set_option maxRecDepth 100000 in
theorem mv_X8_of : MV yX8_of cX8_of 3 (some .int) 2 := ⟨⟨TB_of 388 rfl rfl, TB_of 42 (by decide +kernel) rfl, (by decide +kernel), by decide⟩, TB_of 386 (by decide +kernel) rfl, TB_of 387 (by decide +kernel) rfl⟩
set_option maxRecDepth 100000 in
theorem mv_X0_detail : MV yX0_detail cX0_detail 3 (some .int) 2 := ⟨⟨TB_of 392 rfl rfl, TB_of 43 (by decide +kernel) rfl, (by decide +kernel), by decide⟩, TB_of 390 (by decide +kernel) rfl, TB_of 391 (by decide +kernel) rfl⟩
set_option maxRecDepth 100000 in
theorem mv_X0_quarterOfAsk : MV yX0_quarterOfAsk cX0_quarterOfAsk 2 (some .int) 1 := ⟨⟨TB_of 396 rfl rfl, TB_of 43 (by decide +kernel) rfl, (by decide +kernel), by decide⟩, TB_of 394 (by decide +kernel) rfl, TB_of 395 (by decide +kernel) rfl⟩
set_option maxRecDepth 100000 in
theorem ms_X8_quarterAt : MS yX8_quarterAt cX8_quarterAt 2 (some .int) 2 := ⟨⟨TB_of 399 rfl rfl, TB_of 42 (by decide +kernel) rfl, (by decide +kernel), by decide⟩, TB_of 398 (by decide +kernel) rfl⟩
set_option maxRecDepth 100000 in
theorem mv_X8_as : MV yX8_as cX8_as 3 (some .int) 2 := ⟨⟨TB_of 403 rfl rfl, TB_of 42 (by decide +kernel) rfl, (by decide +kernel), by decide⟩, TB_of 401 (by decide +kernel) rfl, TB_of 402 (by decide +kernel) rfl⟩
set_option maxRecDepth 100000 in
theorem ms_X8_isOrIsUnder : MS yX8_isOrIsUnder cX8_isOrIsUnder 4 (some .boolean) 2 := ⟨⟨TB_of 406 rfl rfl, TB_of 42 (by decide +kernel) rfl, (by decide +kernel), by decide⟩, TB_of 405 (by decide +kernel) rfl⟩
set_option maxRecDepth 100000 in
theorem mv_X8_fewest : MV yX8_fewest cX8_fewest 3 (some .int) 2 := ⟨⟨TB_of 413 rfl rfl, TB_of 42 (by decide +kernel) rfl, (by decide +kernel), by decide⟩, TB_of 411 (by decide +kernel) rfl, TB_of 412 (by decide +kernel) rfl⟩
set_option maxRecDepth 100000 in
theorem mv_X3_fewestSets : MV yX3_fewestSets cX3_fewestSets 6 (some .int) 3 := ⟨⟨TB_of 418 rfl rfl, TB_of 45 (by decide +kernel) rfl, (by decide +kernel), by decide⟩, TB_of 416 (by decide +kernel) rfl, TB_of 417 (by decide +kernel) rfl⟩
set_option maxRecDepth 100000 in
theorem mv_X3_putFrom : MV yX3_putFrom cX3_putFrom 4 none 2 := ⟨⟨TB_of 423 rfl rfl, TB_of 45 (by decide +kernel) rfl, (by decide +kernel), by decide⟩, TB_of 422 (by decide +kernel) rfl, TB_of 5 (by decide +kernel) rfl⟩
set_option maxRecDepth 100000 in
theorem mv_X8_thing : MV yX8_thing cX8_thing 3 (some .int) 2 := ⟨⟨TB_of 427 rfl rfl, TB_of 42 (by decide +kernel) rfl, (by decide +kernel), by decide⟩, TB_of 425 (by decide +kernel) rfl, TB_of 426 (by decide +kernel) rfl⟩
set_option maxRecDepth 100000 in
theorem mv_X8_isThing : MV yX8_isThing cX8_isThing 2 (some .boolean) 1 := ⟨⟨TB_of 431 rfl rfl, TB_of 42 (by decide +kernel) rfl, (by decide +kernel), by decide⟩, TB_of 430 (by decide +kernel) rfl, TB_of 6 (by decide +kernel) rfl⟩
set_option maxRecDepth 100000 in
theorem mv_X8_placeDetail : MV yX8_placeDetail cX8_placeDetail 4 (some .int) 2 := ⟨⟨TB_of 435 rfl rfl, TB_of 42 (by decide +kernel) rfl, (by decide +kernel), by decide⟩, TB_of 434 (by decide +kernel) rfl, TB_of 7 (by decide +kernel) rfl⟩
set_option maxRecDepth 100000 in
theorem mv_X8_stateDetail : MV yX8_stateDetail cX8_stateDetail 3 (some .int) 2 := ⟨⟨TB_of 439 rfl rfl, TB_of 42 (by decide +kernel) rfl, (by decide +kernel), by decide⟩, TB_of 438 (by decide +kernel) rfl, TB_of 8 (by decide +kernel) rfl⟩
set_option maxRecDepth 100000 in
theorem mv_X0_countOfThing : MV yX0_countOfThing cX0_countOfThing 4 (some .int) 1 := ⟨⟨TB_of 443 rfl rfl, TB_of 43 (by decide +kernel) rfl, (by decide +kernel), by decide⟩, TB_of 441 (by decide +kernel) rfl, TB_of 442 (by decide +kernel) rfl⟩
set_option maxRecDepth 100000 in
theorem mv_X8_asked : MV yX8_asked cX8_asked 3 (some .int) 2 := ⟨⟨TB_of 447 rfl rfl, TB_of 42 (by decide +kernel) rfl, (by decide +kernel), by decide⟩, TB_of 445 (by decide +kernel) rfl, TB_of 446 (by decide +kernel) rfl⟩
set_option maxRecDepth 100000 in
theorem mv_X0_nthOfThing : MV yX0_nthOfThing cX0_nthOfThing 5 (some .int) 2 := ⟨⟨TB_of 451 rfl rfl, TB_of 43 (by decide +kernel) rfl, (by decide +kernel), by decide⟩, TB_of 449 (by decide +kernel) rfl, TB_of 450 (by decide +kernel) rfl⟩
set_option maxRecDepth 100000 in
theorem mv_X8_feed : MV yX8_feed cX8_feed 4 (some .int) 2 := ⟨⟨TB_of 455 rfl rfl, TB_of 42 (by decide +kernel) rfl, (by decide +kernel), by decide⟩, TB_of 453 (by decide +kernel) rfl, TB_of 454 (by decide +kernel) rfl⟩
set_option maxRecDepth 100000 in
theorem mv_X6_append : MV yX6_append cX6_append 5 none 2 := ⟨⟨TB_of 459 rfl rfl, TB_of 46 (by decide +kernel) rfl, (by decide +kernel), by decide⟩, TB_of 457 (by decide +kernel) rfl, TB_of 458 (by decide +kernel) rfl⟩
set_option maxRecDepth 100000 in
theorem mv_X8_text : MV yX8_text cX8_text 2 (some .int) 0 := ⟨⟨TB_of 463 rfl rfl, TB_of 42 (by decide +kernel) rfl, (by decide +kernel), by decide⟩, TB_of 461 (by decide +kernel) rfl, TB_of 462 (by decide +kernel) rfl⟩
set_option maxRecDepth 100000 in
theorem mv_X2_wrongPlace : MV yX2_wrongPlace cX2_wrongPlace 3 (some .int) 1 := ⟨⟨TB_of 467 rfl rfl, TB_of 47 (by decide +kernel) rfl, (by decide +kernel), by decide⟩, TB_of 465 (by decide +kernel) rfl, TB_of 466 (by decide +kernel) rfl⟩
set_option maxRecDepth 100000 in
theorem ms_X2_canStand : MS yX2_canStand cX2_canStand 6 (some .boolean) 2 := ⟨⟨TB_of 470 rfl rfl, TB_of 47 (by decide +kernel) rfl, (by decide +kernel), by decide⟩, TB_of 469 (by decide +kernel) rfl⟩
set_option maxRecDepth 100000 in
theorem mv_X2_load : MV yX2_load cX2_load 4 none 1 := ⟨⟨TB_of 475 rfl rfl, TB_of 47 (by decide +kernel) rfl, (by decide +kernel), by decide⟩, TB_of 473 (by decide +kernel) rfl, TB_of 474 (by decide +kernel) rfl⟩
set_option maxRecDepth 100000 in
theorem mv_X8_whose : MV yX8_whose cX8_whose 3 (some .int) 1 := ⟨⟨TB_of 480 rfl rfl, TB_of 42 (by decide +kernel) rfl, (by decide +kernel), by decide⟩, TB_of 478 (by decide +kernel) rfl, TB_of 479 (by decide +kernel) rfl⟩
set_option maxRecDepth 100000 in
theorem mv_X8_ownerOf : MV yX8_ownerOf cX8_ownerOf 3 (some .int) 1 := ⟨⟨TB_of 484 rfl rfl, TB_of 42 (by decide +kernel) rfl, (by decide +kernel), by decide⟩, TB_of 483 (by decide +kernel) rfl, TB_of 9 (by decide +kernel) rfl⟩
set_option maxRecDepth 100000 in
theorem mv_X8_kindOf : MV yX8_kindOf cX8_kindOf 2 (some .int) 1 := ⟨⟨TB_of 488 rfl rfl, TB_of 42 (by decide +kernel) rfl, (by decide +kernel), by decide⟩, TB_of 487 (by decide +kernel) rfl, TB_of 10 (by decide +kernel) rfl⟩
set_option maxRecDepth 100000 in
theorem mv_X2_firstDeskFor : MV yX2_firstDeskFor cX2_firstDeskFor 3 (some .int) 1 := ⟨⟨TB_of 492 rfl rfl, TB_of 47 (by decide +kernel) rfl, (by decide +kernel), by decide⟩, TB_of 490 (by decide +kernel) rfl, TB_of 491 (by decide +kernel) rfl⟩
set_option maxRecDepth 100000 in
theorem mv_X2_rowFor : MV yX2_rowFor cX2_rowFor 5 (some .int) 1 := ⟨⟨TB_of 496 rfl rfl, TB_of 47 (by decide +kernel) rfl, (by decide +kernel), by decide⟩, TB_of 495 (by decide +kernel) rfl, TB_of 11 (by decide +kernel) rfl⟩
set_option maxRecDepth 100000 in
theorem mv_X2_rowForJust : MV yX2_rowForJust cX2_rowForJust 3 (some .int) 1 := ⟨⟨TB_of 500 rfl rfl, TB_of 47 (by decide +kernel) rfl, (by decide +kernel), by decide⟩, TB_of 499 (by decide +kernel) rfl, TB_of 12 (by decide +kernel) rfl⟩
set_option maxRecDepth 100000 in
theorem mv_X8_quarterOfThing : MV yX8_quarterOfThing cX8_quarterOfThing 2 (some .int) 1 := ⟨⟨TB_of 506 rfl rfl, TB_of 42 (by decide +kernel) rfl, (by decide +kernel), by decide⟩, TB_of 505 (by decide +kernel) rfl, TB_of 13 (by decide +kernel) rfl⟩
set_option maxRecDepth 100000 in
theorem mv_X2_lastDeskFrom : MV yX2_lastDeskFrom cX2_lastDeskFrom 6 (some .int) 2 := ⟨⟨TB_of 511 rfl rfl, TB_of 47 (by decide +kernel) rfl, (by decide +kernel), by decide⟩, TB_of 509 (by decide +kernel) rfl, TB_of 510 (by decide +kernel) rfl⟩
set_option maxRecDepth 100000 in
theorem mv_X2_rowsGoneBy : MV yX2_rowsGoneBy cX2_rowsGoneBy 6 (some .int) 2 := ⟨⟨TB_of 515 rfl rfl, TB_of 47 (by decide +kernel) rfl, (by decide +kernel), by decide⟩, TB_of 513 (by decide +kernel) rfl, TB_of 514 (by decide +kernel) rfl⟩
set_option maxRecDepth 100000 in
theorem mv_X2_nextDesk : MV yX2_nextDesk cX2_nextDesk 5 (some .int) 2 := ⟨⟨TB_of 519 rfl rfl, TB_of 47 (by decide +kernel) rfl, (by decide +kernel), by decide⟩, TB_of 518 (by decide +kernel) rfl, TB_of 14 (by decide +kernel) rfl⟩
set_option maxRecDepth 100000 in
theorem ms_X8_hasBit : MS yX8_hasBit cX8_hasBit 2 (some .boolean) 2 := ⟨⟨TB_of 522 rfl rfl, TB_of 42 (by decide +kernel) rfl, (by decide +kernel), by decide⟩, TB_of 521 (by decide +kernel) rfl⟩
set_option maxRecDepth 100000 in
theorem mv_X8_promise : MV yX8_promise cX8_promise 3 (some .int) 1 := ⟨⟨TB_of 527 rfl rfl, TB_of 42 (by decide +kernel) rfl, (by decide +kernel), by decide⟩, TB_of 525 (by decide +kernel) rfl, TB_of 526 (by decide +kernel) rfl⟩
set_option maxRecDepth 100000 in
theorem mv_X2_daysFor : MV yX2_daysFor cX2_daysFor 3 (some .int) 1 := ⟨⟨TB_of 531 rfl rfl, TB_of 47 (by decide +kernel) rfl, (by decide +kernel), by decide⟩, TB_of 529 (by decide +kernel) rfl, TB_of 530 (by decide +kernel) rfl⟩
set_option maxRecDepth 100000 in
theorem mv_X8_dayOf : MV yX8_dayOf cX8_dayOf 2 (some .int) 1 := ⟨⟨TB_of 535 rfl rfl, TB_of 42 (by decide +kernel) rfl, (by decide +kernel), by decide⟩, TB_of 534 (by decide +kernel) rfl, TB_of 15 (by decide +kernel) rfl⟩
set_option maxRecDepth 100000 in
theorem mv_X8_sent : MV yX8_sent cX8_sent 3 (some .int) 1 := ⟨⟨TB_of 539 rfl rfl, TB_of 42 (by decide +kernel) rfl, (by decide +kernel), by decide⟩, TB_of 537 (by decide +kernel) rfl, TB_of 538 (by decide +kernel) rfl⟩
set_option maxRecDepth 100000 in
theorem mv_X8_effort : MV yX8_effort cX8_effort 4 (some .int) 2 := ⟨⟨TB_of 544 rfl rfl, TB_of 42 (by decide +kernel) rfl, (by decide +kernel), by decide⟩, TB_of 542 (by decide +kernel) rfl, TB_of 543 (by decide +kernel) rfl⟩
set_option maxRecDepth 100000 in
theorem mv_X8_order : MV yX8_order cX8_order 8 (some .int) 5 := ⟨⟨TB_of 548 rfl rfl, TB_of 42 (by decide +kernel) rfl, (by decide +kernel), by decide⟩, TB_of 546 (by decide +kernel) rfl, TB_of 547 (by decide +kernel) rfl⟩
set_option maxRecDepth 100000 in
theorem ms_X8_isPlace : MS yX8_isPlace cX8_isPlace 1 (some .boolean) 1 := ⟨⟨TB_of 551 rfl rfl, TB_of 42 (by decide +kernel) rfl, (by decide +kernel), by decide⟩, TB_of 550 (by decide +kernel) rfl⟩
set_option maxRecDepth 100000 in
theorem mv_X8_areThings : MV yX8_areThings cX8_areThings 4 (some .boolean) 2 := ⟨⟨TB_of 555 rfl rfl, TB_of 42 (by decide +kernel) rfl, (by decide +kernel), by decide⟩, TB_of 554 (by decide +kernel) rfl, TB_of 16 (by decide +kernel) rfl⟩
set_option maxRecDepth 100000 in
theorem ms_J6_bitCount_0f7a4 : MS yJ6_bitCount_0f7a4 cJ6_bitCount_0f7a4 1 (some .int) 1 := ⟨⟨TB_of 558 rfl rfl, TB_of 53 (by decide +kernel) rfl, (by decide +kernel), by decide⟩, TB_of 557 (by decide +kernel) rfl⟩
set_option maxRecDepth 100000 in
theorem mv_X1_begin : MV yX1_begin cX1_begin 2 none 1 := ⟨⟨TB_of 565 rfl rfl, TB_of 48 (by decide +kernel) rfl, (by decide +kernel), by decide⟩, TB_of 563 (by decide +kernel) rfl, TB_of 564 (by decide +kernel) rfl⟩
set_option maxRecDepth 100000 in
theorem mv_X8_giveToCrew : MV yX8_giveToCrew cX8_giveToCrew 5 none 1 := ⟨⟨TB_of 570 rfl rfl, TB_of 42 (by decide +kernel) rfl, (by decide +kernel), by decide⟩, TB_of 569 (by decide +kernel) rfl, TB_of 17 (by decide +kernel) rfl⟩
set_option maxRecDepth 100000 in
theorem mv_X1_take : MV yX1_take cX1_take 6 none 5 := ⟨⟨TB_of 575 rfl rfl, TB_of 48 (by decide +kernel) rfl, (by decide +kernel), by decide⟩, TB_of 573 (by decide +kernel) rfl, TB_of 574 (by decide +kernel) rfl⟩
set_option maxRecDepth 100000 in
theorem mv_X1_findOrder : MV yX1_findOrder cX1_findOrder 3 none 2 := ⟨⟨TB_of 579 rfl rfl, TB_of 48 (by decide +kernel) rfl, (by decide +kernel), by decide⟩, TB_of 577 (by decide +kernel) rfl, TB_of 578 (by decide +kernel) rfl⟩
set_option maxRecDepth 100000 in
theorem mv_X1_goOn : MV yX1_goOn cX1_goOn 10 none 6 := ⟨⟨TB_of 583 rfl rfl, TB_of 48 (by decide +kernel) rfl, (by decide +kernel), by decide⟩, TB_of 582 (by decide +kernel) rfl, TB_of 18 (by decide +kernel) rfl⟩
set_option maxRecDepth 100000 in
theorem mv_X1_keepTried : MV yX1_keepTried cX1_keepTried 4 none 2 := ⟨⟨TB_of 587 rfl rfl, TB_of 48 (by decide +kernel) rfl, (by decide +kernel), by decide⟩, TB_of 586 (by decide +kernel) rfl, TB_of 19 (by decide +kernel) rfl⟩
set_option maxRecDepth 100000 in
theorem mv_X1_detail : MV yX1_detail cX1_detail 2 (some .int) 1 := ⟨⟨TB_of 593 rfl rfl, TB_of 48 (by decide +kernel) rfl, (by decide +kernel), by decide⟩, TB_of 591 (by decide +kernel) rfl, TB_of 592 (by decide +kernel) rfl⟩
set_option maxRecDepth 100000 in
theorem mv_X8_close : MV yX8_close cX8_close 4 (some .int) 2 := ⟨⟨TB_of 598 rfl rfl, TB_of 42 (by decide +kernel) rfl, (by decide +kernel), by decide⟩, TB_of 596 (by decide +kernel) rfl, TB_of 597 (by decide +kernel) rfl⟩
set_option maxRecDepth 100000 in
theorem mv_X7_shut : MV yX7_shut cX7_shut 4 none 3 := ⟨⟨TB_of 603 rfl rfl, TB_of 44 (by decide +kernel) rfl, (by decide +kernel), by decide⟩, TB_of 601 (by decide +kernel) rfl, TB_of 602 (by decide +kernel) rfl⟩
set_option maxRecDepth 100000 in
theorem mv_X8_look : MV yX8_look cX8_look 3 (some .int) 2 := ⟨⟨TB_of 607 rfl rfl, TB_of 42 (by decide +kernel) rfl, (by decide +kernel), by decide⟩, TB_of 605 (by decide +kernel) rfl, TB_of 606 (by decide +kernel) rfl⟩
set_option maxRecDepth 100000 in
theorem mv_X5_countLook : MV yX5_countLook cX5_countLook 3 none 2 := ⟨⟨TB_of 611 rfl rfl, TB_of 49 (by decide +kernel) rfl, (by decide +kernel), by decide⟩, TB_of 609 (by decide +kernel) rfl, TB_of 610 (by decide +kernel) rfl⟩
set_option maxRecDepth 100000 in
theorem mv_X8_closings : MV yX8_closings cX8_closings 3 (some .int) 2 := ⟨⟨TB_of 615 rfl rfl, TB_of 42 (by decide +kernel) rfl, (by decide +kernel), by decide⟩, TB_of 613 (by decide +kernel) rfl, TB_of 614 (by decide +kernel) rfl⟩
set_option maxRecDepth 100000 in
theorem mv_X5_detail : MV yX5_detail cX5_detail 3 (some .int) 2 := ⟨⟨TB_of 619 rfl rfl, TB_of 49 (by decide +kernel) rfl, (by decide +kernel), by decide⟩, TB_of 617 (by decide +kernel) rfl, TB_of 618 (by decide +kernel) rfl⟩
set_option maxRecDepth 100000 in
theorem mv_X8_walk : MV yX8_walk cX8_walk 4 (some .int) 3 := ⟨⟨TB_of 623 rfl rfl, TB_of 42 (by decide +kernel) rfl, (by decide +kernel), by decide⟩, TB_of 621 (by decide +kernel) rfl, TB_of 622 (by decide +kernel) rfl⟩
set_option maxRecDepth 100000 in
theorem ms_X8_isQuarter : MS yX8_isQuarter cX8_isQuarter 1 (some .boolean) 1 := ⟨⟨TB_of 626 rfl rfl, TB_of 42 (by decide +kernel) rfl, (by decide +kernel), by decide⟩, TB_of 625 (by decide +kernel) rfl⟩
set_option maxRecDepth 100000 in
theorem mv_X8_quarter : MV yX8_quarter cX8_quarter 3 (some .int) 2 := ⟨⟨TB_of 630 rfl rfl, TB_of 42 (by decide +kernel) rfl, (by decide +kernel), by decide⟩, TB_of 628 (by decide +kernel) rfl, TB_of 629 (by decide +kernel) rfl⟩
set_option maxRecDepth 100000 in
theorem mv_X8_thingsIn : MV yX8_thingsIn cX8_thingsIn 5 (some .int) 2 := ⟨⟨TB_of 634 rfl rfl, TB_of 42 (by decide +kernel) rfl, (by decide +kernel), by decide⟩, TB_of 633 (by decide +kernel) rfl, TB_of 20 (by decide +kernel) rfl⟩
set_option maxRecDepth 100000 in
theorem mv_X0_countIn : MV yX0_countIn cX0_countIn 4 (some .int) 1 := ⟨⟨TB_of 638 rfl rfl, TB_of 43 (by decide +kernel) rfl, (by decide +kernel), by decide⟩, TB_of 636 (by decide +kernel) rfl, TB_of 637 (by decide +kernel) rfl⟩
set_option maxRecDepth 100000 in
theorem mv_X8_askedOfHundred : MV yX8_askedOfHundred cX8_askedOfHundred 3 (some .int) 1 := ⟨⟨TB_of 642 rfl rfl, TB_of 42 (by decide +kernel) rfl, (by decide +kernel), by decide⟩, TB_of 641 (by decide +kernel) rfl, TB_of 21 (by decide +kernel) rfl⟩
set_option maxRecDepth 100000 in
theorem mv_X8_thingsReckoned : MV yX8_thingsReckoned cX8_thingsReckoned 3 (some .int) 1 := ⟨⟨TB_of 646 rfl rfl, TB_of 42 (by decide +kernel) rfl, (by decide +kernel), by decide⟩, TB_of 645 (by decide +kernel) rfl, TB_of 22 (by decide +kernel) rfl⟩
set_option maxRecDepth 100000 in
theorem mv_X8_sheet : MV yX8_sheet cX8_sheet 4 (some .int) 3 := ⟨⟨TB_of 650 rfl rfl, TB_of 42 (by decide +kernel) rfl, (by decide +kernel), by decide⟩, TB_of 648 (by decide +kernel) rfl, TB_of 649 (by decide +kernel) rfl⟩
set_option maxRecDepth 100000 in
theorem ms_X8_isSheet : MS yX8_isSheet cX8_isSheet 1 (some .boolean) 1 := ⟨⟨TB_of 653 rfl rfl, TB_of 42 (by decide +kernel) rfl, (by decide +kernel), by decide⟩, TB_of 652 (by decide +kernel) rfl⟩
set_option maxRecDepth 100000 in
theorem mv_X4_begin : MV yX4_begin cX4_begin 4 none 2 := ⟨⟨TB_of 658 rfl rfl, TB_of 50 (by decide +kernel) rfl, (by decide +kernel), by decide⟩, TB_of 656 (by decide +kernel) rfl, TB_of 657 (by decide +kernel) rfl⟩
set_option maxRecDepth 100000 in
theorem mv_X8_write : MV yX8_write cX8_write 4 (some .int) 3 := ⟨⟨TB_of 662 rfl rfl, TB_of 42 (by decide +kernel) rfl, (by decide +kernel), by decide⟩, TB_of 660 (by decide +kernel) rfl, TB_of 661 (by decide +kernel) rfl⟩
set_option maxRecDepth 100000 in
theorem mv_X4_isMissing : MV yX4_isMissing cX4_isMissing 1 (some .boolean) 0 := ⟨⟨TB_of 666 rfl rfl, TB_of 50 (by decide +kernel) rfl, (by decide +kernel), by decide⟩, TB_of 664 (by decide +kernel) rfl, TB_of 665 (by decide +kernel) rfl⟩
set_option maxRecDepth 100000 in
theorem mv_X4_replace : MV yX4_replace cX4_replace 4 (some .int) 2 := ⟨⟨TB_of 671 rfl rfl, TB_of 50 (by decide +kernel) rfl, (by decide +kernel), by decide⟩, TB_of 669 (by decide +kernel) rfl, TB_of 670 (by decide +kernel) rfl⟩
set_option maxRecDepth 100000 in
theorem mv_X4_lowestBits : MV yX4_lowestBits cX4_lowestBits 2 (some .int) 1 := ⟨⟨TB_of 675 rfl rfl, TB_of 50 (by decide +kernel) rfl, (by decide +kernel), by decide⟩, TB_of 674 (by decide +kernel) rfl, TB_of 23 (by decide +kernel) rfl⟩
set_option maxRecDepth 100000 in
theorem mv_X8_copy : MV yX8_copy cX8_copy 8 (some .int) 5 := ⟨⟨TB_of 679 rfl rfl, TB_of 42 (by decide +kernel) rfl, (by decide +kernel), by decide⟩, TB_of 677 (by decide +kernel) rfl, TB_of 678 (by decide +kernel) rfl⟩
set_option maxRecDepth 100000 in
theorem mv_X4_hasRange : MV yX4_hasRange cX4_hasRange 3 (some .boolean) 2 := ⟨⟨TB_of 683 rfl rfl, TB_of 50 (by decide +kernel) rfl, (by decide +kernel), by decide⟩, TB_of 681 (by decide +kernel) rfl, TB_of 682 (by decide +kernel) rfl⟩
set_option maxRecDepth 100000 in
theorem mv_X8_read : MV yX8_read cX8_read 6 (some .int) 3 := ⟨⟨TB_of 690 rfl rfl, TB_of 42 (by decide +kernel) rfl, (by decide +kernel), by decide⟩, TB_of 688 (by decide +kernel) rfl, TB_of 689 (by decide +kernel) rfl⟩
set_option maxRecDepth 100000 in
theorem mv_X4_holdsPlacesAlone : MV yX4_holdsPlacesAlone cX4_holdsPlacesAlone 2 (some .boolean) 0 := ⟨⟨TB_of 694 rfl rfl, TB_of 50 (by decide +kernel) rfl, (by decide +kernel), by decide⟩, TB_of 692 (by decide +kernel) rfl, TB_of 693 (by decide +kernel) rfl⟩
set_option maxRecDepth 100000 in
theorem mv_X8_told : MV yX8_told cX8_told 2 (some .int) 1 := ⟨⟨TB_of 699 rfl rfl, TB_of 42 (by decide +kernel) rfl, (by decide +kernel), by decide⟩, TB_of 697 (by decide +kernel) rfl, TB_of 698 (by decide +kernel) rfl⟩
set_option maxRecDepth 100000 in
theorem mv_X7_countOpen : MV yX7_countOpen cX7_countOpen 3 (some .int) 0 := ⟨⟨TB_of 703 rfl rfl, TB_of 44 (by decide +kernel) rfl, (by decide +kernel), by decide⟩, TB_of 701 (by decide +kernel) rfl, TB_of 702 (by decide +kernel) rfl⟩
set_option maxRecDepth 100000 in
theorem mv_X5_allClosed : MV yX5_allClosed cX5_allClosed 3 (some .int) 0 := ⟨⟨TB_of 707 rfl rfl, TB_of 49 (by decide +kernel) rfl, (by decide +kernel), by decide⟩, TB_of 705 (by decide +kernel) rfl, TB_of 706 (by decide +kernel) rfl⟩
set_option maxRecDepth 100000 in
theorem mk_X9_init : MK yX9_init cX9_init 1 none 0 := ⟨TB_of 712 rfl rfl, TB_of 51 (by decide +kernel) rfl, (by decide +kernel), by decide⟩
theorem mi_X9_init : Cond.instanceMethod yX9_init ∈ TB := TB_of 711 (by decide +kernel) rfl
set_option maxRecDepth 100000 in
theorem mv_X9_ask : MV yX9_ask cX9_ask 6 (some .int) 5 := ⟨⟨TB_of 841 rfl rfl, TB_of 51 (by decide +kernel) rfl, (by decide +kernel), by decide⟩, TB_of 839 (by decide +kernel) rfl, TB_of 840 (by decide +kernel) rfl⟩
set_option maxRecDepth 100000 in
theorem ms_X9_isKind : MS yX9_isKind cX9_isKind 1 (some .boolean) 1 := ⟨⟨TB_of 844 rfl rfl, TB_of 51 (by decide +kernel) rfl, (by decide +kernel), by decide⟩, TB_of 843 (by decide +kernel) rfl⟩
set_option maxRecDepth 100000 in
theorem ms_X9_in : MS yX9_in cX9_in 3 (some .boolean) 3 := ⟨⟨TB_of 847 rfl rfl, TB_of 51 (by decide +kernel) rfl, (by decide +kernel), by decide⟩, TB_of 846 (by decide +kernel) rfl⟩
set_option maxRecDepth 100000 in
theorem ms_X9_isDay : MS yX9_isDay cX9_isDay 1 (some .boolean) 1 := ⟨⟨TB_of 850 rfl rfl, TB_of 51 (by decide +kernel) rfl, (by decide +kernel), by decide⟩, TB_of 849 (by decide +kernel) rfl⟩
set_option maxRecDepth 100000 in
theorem mv_X9_latest : MV yX9_latest cX9_latest 1 (some .int) 0 := ⟨⟨TB_of 854 rfl rfl, TB_of 51 (by decide +kernel) rfl, (by decide +kernel), by decide⟩, TB_of 853 (by decide +kernel) rfl, TB_of 24 (by decide +kernel) rfl⟩
set_option maxRecDepth 100000 in
theorem mv_X9_finding : MV yX9_finding cX9_finding 2 (some .int) 1 := ⟨⟨TB_of 859 rfl rfl, TB_of 51 (by decide +kernel) rfl, (by decide +kernel), by decide⟩, TB_of 858 (by decide +kernel) rfl, TB_of 25 (by decide +kernel) rfl⟩
set_option maxRecDepth 100000 in
theorem mv_X9_comes : MV yX9_comes cX9_comes 10 (some .int) 5 := ⟨⟨TB_of 864 rfl rfl, TB_of 51 (by decide +kernel) rfl, (by decide +kernel), by decide⟩, TB_of 863 (by decide +kernel) rfl, TB_of 26 (by decide +kernel) rfl⟩
set_option maxRecDepth 100000 in
theorem mv_X9_doMeet : MV yX9_doMeet cX9_doMeet 5 (some .boolean) 2 := ⟨⟨TB_of 868 rfl rfl, TB_of 51 (by decide +kernel) rfl, (by decide +kernel), by decide⟩, TB_of 867 (by decide +kernel) rfl, TB_of 27 (by decide +kernel) rfl⟩
set_option maxRecDepth 100000 in
theorem ms_X9_away : MS yX9_away cX9_away 2 (some .int) 2 := ⟨⟨TB_of 871 rfl rfl, TB_of 51 (by decide +kernel) rfl, (by decide +kernel), by decide⟩, TB_of 870 (by decide +kernel) rfl⟩
set_option maxRecDepth 100000 in
theorem mv_X9_marks : MV yX9_marks cX9_marks 4 (some .int) 3 := ⟨⟨TB_of 875 rfl rfl, TB_of 51 (by decide +kernel) rfl, (by decide +kernel), by decide⟩, TB_of 873 (by decide +kernel) rfl, TB_of 874 (by decide +kernel) rfl⟩
set_option maxRecDepth 100000 in
theorem mv_X9_meet : MV yX9_meet cX9_meet 3 (some .int) 2 := ⟨⟨TB_of 879 rfl rfl, TB_of 51 (by decide +kernel) rfl, (by decide +kernel), by decide⟩, TB_of 877 (by decide +kernel) rfl, TB_of 878 (by decide +kernel) rfl⟩
set_option maxRecDepth 100000 in
theorem mv_X9_isAsk : MV yX9_isAsk cX9_isAsk 2 (some .boolean) 1 := ⟨⟨TB_of 883 rfl rfl, TB_of 51 (by decide +kernel) rfl, (by decide +kernel), by decide⟩, TB_of 882 (by decide +kernel) rfl, TB_of 28 (by decide +kernel) rfl⟩
set_option maxRecDepth 100000 in
theorem mv_X9_of : MV yX9_of cX9_of 3 (some .int) 2 := ⟨⟨TB_of 887 rfl rfl, TB_of 51 (by decide +kernel) rfl, (by decide +kernel), by decide⟩, TB_of 885 (by decide +kernel) rfl, TB_of 886 (by decide +kernel) rfl⟩
set_option maxRecDepth 100000 in
theorem ms_X9_quarterOf : MS yX9_quarterOf cX9_quarterOf 2 (some .int) 2 := ⟨⟨TB_of 890 rfl rfl, TB_of 51 (by decide +kernel) rfl, (by decide +kernel), by decide⟩, TB_of 889 (by decide +kernel) rfl⟩
set_option maxRecDepth 100000 in
theorem mv_X9_as : MV yX9_as cX9_as 3 (some .int) 2 := ⟨⟨TB_of 894 rfl rfl, TB_of 51 (by decide +kernel) rfl, (by decide +kernel), by decide⟩, TB_of 892 (by decide +kernel) rfl, TB_of 893 (by decide +kernel) rfl⟩
set_option maxRecDepth 100000 in
theorem ms_X9_isUnder : MS yX9_isUnder cX9_isUnder 3 (some .boolean) 2 := ⟨⟨TB_of 897 rfl rfl, TB_of 51 (by decide +kernel) rfl, (by decide +kernel), by decide⟩, TB_of 896 (by decide +kernel) rfl⟩
set_option maxRecDepth 100000 in
theorem ms_X9_above : MS yX9_above cX9_above 1 (some .int) 1 := ⟨⟨TB_of 900 rfl rfl, TB_of 51 (by decide +kernel) rfl, (by decide +kernel), by decide⟩, TB_of 899 (by decide +kernel) rfl⟩
set_option maxRecDepth 100000 in
theorem mv_X9_fewest : MV yX9_fewest cX9_fewest 11 (some .int) 2 := ⟨⟨TB_of 905 rfl rfl, TB_of 51 (by decide +kernel) rfl, (by decide +kernel), by decide⟩, TB_of 903 (by decide +kernel) rfl, TB_of 904 (by decide +kernel) rfl⟩
set_option maxRecDepth 100000 in
theorem mv_X9_thing : MV yX9_thing cX9_thing 3 (some .int) 2 := ⟨⟨TB_of 910 rfl rfl, TB_of 51 (by decide +kernel) rfl, (by decide +kernel), by decide⟩, TB_of 908 (by decide +kernel) rfl, TB_of 909 (by decide +kernel) rfl⟩
set_option maxRecDepth 100000 in
theorem mv_X9_isThing : MV yX9_isThing cX9_isThing 2 (some .boolean) 1 := ⟨⟨TB_of 914 rfl rfl, TB_of 51 (by decide +kernel) rfl, (by decide +kernel), by decide⟩, TB_of 913 (by decide +kernel) rfl, TB_of 29 (by decide +kernel) rfl⟩
set_option maxRecDepth 100000 in
theorem mv_X9_asksOf : MV yX9_asksOf cX9_asksOf 4 (some .int) 1 := ⟨⟨TB_of 918 rfl rfl, TB_of 51 (by decide +kernel) rfl, (by decide +kernel), by decide⟩, TB_of 917 (by decide +kernel) rfl, TB_of 30 (by decide +kernel) rfl⟩
set_option maxRecDepth 100000 in
theorem mv_X9_asked : MV yX9_asked cX9_asked 5 (some .int) 2 := ⟨⟨TB_of 922 rfl rfl, TB_of 51 (by decide +kernel) rfl, (by decide +kernel), by decide⟩, TB_of 920 (by decide +kernel) rfl, TB_of 921 (by decide +kernel) rfl⟩
set_option maxRecDepth 100000 in
theorem mv_X9_feed : MV yX9_feed cX9_feed 5 (some .int) 2 := ⟨⟨TB_of 926 rfl rfl, TB_of 51 (by decide +kernel) rfl, (by decide +kernel), by decide⟩, TB_of 924 (by decide +kernel) rfl, TB_of 925 (by decide +kernel) rfl⟩
set_option maxRecDepth 100000 in
theorem mv_X9_text : MV yX9_text cX9_text 5 (some .int) 0 := ⟨⟨TB_of 931 rfl rfl, TB_of 51 (by decide +kernel) rfl, (by decide +kernel), by decide⟩, TB_of 929 (by decide +kernel) rfl, TB_of 930 (by decide +kernel) rfl⟩
set_option maxRecDepth 100000 in
theorem mv_X9_fits : MV yX9_fits cX9_fits 5 (some .boolean) 1 := ⟨⟨TB_of 935 rfl rfl, TB_of 51 (by decide +kernel) rfl, (by decide +kernel), by decide⟩, TB_of 934 (by decide +kernel) rfl, TB_of 31 (by decide +kernel) rfl⟩
set_option maxRecDepth 100000 in
theorem mv_X9_whose : MV yX9_whose cX9_whose 3 (some .int) 1 := ⟨⟨TB_of 940 rfl rfl, TB_of 51 (by decide +kernel) rfl, (by decide +kernel), by decide⟩, TB_of 938 (by decide +kernel) rfl, TB_of 939 (by decide +kernel) rfl⟩
set_option maxRecDepth 100000 in
theorem mv_X9_owner : MV yX9_owner cX9_owner 7 (some .int) 1 := ⟨⟨TB_of 944 rfl rfl, TB_of 51 (by decide +kernel) rfl, (by decide +kernel), by decide⟩, TB_of 943 (by decide +kernel) rfl, TB_of 32 (by decide +kernel) rfl⟩
set_option maxRecDepth 100000 in
theorem mv_X9_rowFor : MV yX9_rowFor cX9_rowFor 4 (some .int) 1 := ⟨⟨TB_of 948 rfl rfl, TB_of 51 (by decide +kernel) rfl, (by decide +kernel), by decide⟩, TB_of 947 (by decide +kernel) rfl, TB_of 33 (by decide +kernel) rfl⟩
set_option maxRecDepth 100000 in
theorem mv_X9_sends : MV yX9_sends cX9_sends 4 (some .int) 2 := ⟨⟨TB_of 953 rfl rfl, TB_of 51 (by decide +kernel) rfl, (by decide +kernel), by decide⟩, TB_of 952 (by decide +kernel) rfl, TB_of 34 (by decide +kernel) rfl⟩
set_option maxRecDepth 100000 in
theorem mv_X9_promise : MV yX9_promise cX9_promise 3 (some .int) 1 := ⟨⟨TB_of 958 rfl rfl, TB_of 51 (by decide +kernel) rfl, (by decide +kernel), by decide⟩, TB_of 956 (by decide +kernel) rfl, TB_of 957 (by decide +kernel) rfl⟩
set_option maxRecDepth 100000 in
theorem mv_X9_promised : MV yX9_promised cX9_promised 3 (some .int) 1 := ⟨⟨TB_of 962 rfl rfl, TB_of 51 (by decide +kernel) rfl, (by decide +kernel), by decide⟩, TB_of 961 (by decide +kernel) rfl, TB_of 35 (by decide +kernel) rfl⟩
set_option maxRecDepth 100000 in
theorem mv_X9_sent : MV yX9_sent cX9_sent 2 (some .int) 1 := ⟨⟨TB_of 966 rfl rfl, TB_of 51 (by decide +kernel) rfl, (by decide +kernel), by decide⟩, TB_of 964 (by decide +kernel) rfl, TB_of 965 (by decide +kernel) rfl⟩
set_option maxRecDepth 100000 in
theorem mv_X9_effort : MV yX9_effort cX9_effort 4 (some .int) 2 := ⟨⟨TB_of 970 rfl rfl, TB_of 51 (by decide +kernel) rfl, (by decide +kernel), by decide⟩, TB_of 968 (by decide +kernel) rfl, TB_of 969 (by decide +kernel) rfl⟩
set_option maxRecDepth 100000 in
theorem mv_X9_order : MV yX9_order cX9_order 8 (some .int) 5 := ⟨⟨TB_of 974 rfl rfl, TB_of 51 (by decide +kernel) rfl, (by decide +kernel), by decide⟩, TB_of 972 (by decide +kernel) rfl, TB_of 973 (by decide +kernel) rfl⟩
set_option maxRecDepth 100000 in
theorem mv_X9_findOrder : MV yX9_findOrder cX9_findOrder 4 none 2 := ⟨⟨TB_of 978 rfl rfl, TB_of 51 (by decide +kernel) rfl, (by decide +kernel), by decide⟩, TB_of 977 (by decide +kernel) rfl, TB_of 36 (by decide +kernel) rfl⟩
set_option maxRecDepth 100000 in
theorem mv_X9_isChosen : MV yX9_isChosen cX9_isChosen 5 (some .boolean) 2 := ⟨⟨TB_of 982 rfl rfl, TB_of 51 (by decide +kernel) rfl, (by decide +kernel), by decide⟩, TB_of 981 (by decide +kernel) rfl, TB_of 37 (by decide +kernel) rfl⟩
set_option maxRecDepth 100000 in
theorem mv_X9_takes : MV yX9_takes cX9_takes 11 none 2 := ⟨⟨TB_of 986 rfl rfl, TB_of 51 (by decide +kernel) rfl, (by decide +kernel), by decide⟩, TB_of 985 (by decide +kernel) rfl, TB_of 38 (by decide +kernel) rfl⟩
set_option maxRecDepth 100000 in
theorem mv_X9_close : MV yX9_close cX9_close 4 (some .int) 2 := ⟨⟨TB_of 990 rfl rfl, TB_of 51 (by decide +kernel) rfl, (by decide +kernel), by decide⟩, TB_of 988 (by decide +kernel) rfl, TB_of 989 (by decide +kernel) rfl⟩
set_option maxRecDepth 100000 in
theorem mv_X9_look : MV yX9_look cX9_look 3 (some .int) 2 := ⟨⟨TB_of 995 rfl rfl, TB_of 51 (by decide +kernel) rfl, (by decide +kernel), by decide⟩, TB_of 993 (by decide +kernel) rfl, TB_of 994 (by decide +kernel) rfl⟩
set_option maxRecDepth 100000 in
theorem mv_X9_closings : MV yX9_closings cX9_closings 3 (some .int) 2 := ⟨⟨TB_of 999 rfl rfl, TB_of 51 (by decide +kernel) rfl, (by decide +kernel), by decide⟩, TB_of 997 (by decide +kernel) rfl, TB_of 998 (by decide +kernel) rfl⟩
set_option maxRecDepth 100000 in
theorem mv_X9_walk : MV yX9_walk cX9_walk 4 (some .int) 3 := ⟨⟨TB_of 1003 rfl rfl, TB_of 51 (by decide +kernel) rfl, (by decide +kernel), by decide⟩, TB_of 1001 (by decide +kernel) rfl, TB_of 1002 (by decide +kernel) rfl⟩
set_option maxRecDepth 100000 in
theorem mv_X9_quarter : MV yX9_quarter cX9_quarter 7 (some .int) 2 := ⟨⟨TB_of 1007 rfl rfl, TB_of 51 (by decide +kernel) rfl, (by decide +kernel), by decide⟩, TB_of 1005 (by decide +kernel) rfl, TB_of 1006 (by decide +kernel) rfl⟩
set_option maxRecDepth 100000 in
theorem mv_X9_sheet : MV yX9_sheet cX9_sheet 5 (some .int) 3 := ⟨⟨TB_of 1011 rfl rfl, TB_of 51 (by decide +kernel) rfl, (by decide +kernel), by decide⟩, TB_of 1009 (by decide +kernel) rfl, TB_of 1010 (by decide +kernel) rfl⟩
set_option maxRecDepth 100000 in
theorem ms_X9_isSheet : MS yX9_isSheet cX9_isSheet 1 (some .boolean) 1 := ⟨⟨TB_of 1014 rfl rfl, TB_of 51 (by decide +kernel) rfl, (by decide +kernel), by decide⟩, TB_of 1013 (by decide +kernel) rfl⟩
set_option maxRecDepth 100000 in
theorem mv_X9_write : MV yX9_write cX9_write 5 (some .int) 3 := ⟨⟨TB_of 1019 rfl rfl, TB_of 51 (by decide +kernel) rfl, (by decide +kernel), by decide⟩, TB_of 1017 (by decide +kernel) rfl, TB_of 1018 (by decide +kernel) rfl⟩
set_option maxRecDepth 100000 in
theorem ms_X9_cut : MS yX9_cut cX9_cut 2 (some .int) 2 := ⟨⟨TB_of 1023 rfl rfl, TB_of 51 (by decide +kernel) rfl, (by decide +kernel), by decide⟩, TB_of 1022 (by decide +kernel) rfl⟩
set_option maxRecDepth 100000 in
theorem mv_X9_copy : MV yX9_copy cX9_copy 7 (some .int) 5 := ⟨⟨TB_of 1027 rfl rfl, TB_of 51 (by decide +kernel) rfl, (by decide +kernel), by decide⟩, TB_of 1025 (by decide +kernel) rfl, TB_of 1026 (by decide +kernel) rfl⟩
set_option maxRecDepth 100000 in
theorem mv_X9_read : MV yX9_read cX9_read 6 (some .int) 3 := ⟨⟨TB_of 1031 rfl rfl, TB_of 51 (by decide +kernel) rfl, (by decide +kernel), by decide⟩, TB_of 1029 (by decide +kernel) rfl, TB_of 1030 (by decide +kernel) rfl⟩
set_option maxRecDepth 100000 in
theorem mv_X9_told : MV yX9_told cX9_told 2 (some .int) 1 := ⟨⟨TB_of 1035 rfl rfl, TB_of 51 (by decide +kernel) rfl, (by decide +kernel), by decide⟩, TB_of 1033 (by decide +kernel) rfl, TB_of 1034 (by decide +kernel) rfl⟩
set_option maxRecDepth 100000 in
theorem mv_X9_openMany : MV yX9_openMany cX9_openMany 3 (some .int) 0 := ⟨⟨TB_of 1039 rfl rfl, TB_of 51 (by decide +kernel) rfl, (by decide +kernel), by decide⟩, TB_of 1038 (by decide +kernel) rfl, TB_of 39 (by decide +kernel) rfl⟩
set_option maxRecDepth 100000 in
theorem mv_X9_allClosings : MV yX9_allClosings cX9_allClosings 3 (some .int) 0 := ⟨⟨TB_of 1043 rfl rfl, TB_of 51 (by decide +kernel) rfl, (by decide +kernel), by decide⟩, TB_of 1042 (by decide +kernel) rfl, TB_of 40 (by decide +kernel) rfl⟩
theorem ja_st : Cond.static Lib.Math.abs.name ∈ TB := TB_of 365 (by decide +kernel) rfl
theorem ja_ini : Cond.initialized "java/lang/Math" ∈ TB := TB_of 52 (by decide +kernel) rfl
set_option maxRecDepth 100000 in
theorem ja_co : Cond.code Lib.Math.abs.name Lib.Math.abs.code 1 (some .int) ∈ TB := TB_of 366 rfl rfl
theorem jc_nat : Cond.native arraycopyName ∈ TB := TB_of 686 (by decide +kernel) rfl
theorem jc_st : Cond.static arraycopyName ∈ TB := TB_of 685 (by decide +kernel) rfl
theorem jc_ini : Cond.initialized "java/lang/System" ∈ TB := TB_of 54 (by decide +kernel) rfl
theorem jo_in : Cond.instanceMethod objectInit ∈ TB := TB_of 61 (by decide +kernel) rfl
set_option maxRecDepth 100000 in
theorem jo_co : Cond.code objectInit ⟨#[0xb1]⟩ 1 none ∈ TB := TB_of 62 rfl rfl
theorem ini_L : Cond.initialized RL ∈ TB := TB_of 41 (by decide +kernel) rfl
theorem ini_X8 : Cond.initialized RX8 ∈ TB := TB_of 42 (by decide +kernel) rfl
theorem ini_X0 : Cond.initialized RX0 ∈ TB := TB_of 43 (by decide +kernel) rfl
theorem ini_X7 : Cond.initialized RX7 ∈ TB := TB_of 44 (by decide +kernel) rfl
theorem ini_X3 : Cond.initialized RX3 ∈ TB := TB_of 45 (by decide +kernel) rfl
theorem ini_X6 : Cond.initialized RX6 ∈ TB := TB_of 46 (by decide +kernel) rfl
theorem ini_X2 : Cond.initialized RX2 ∈ TB := TB_of 47 (by decide +kernel) rfl
theorem ini_X1 : Cond.initialized RX1 ∈ TB := TB_of 48 (by decide +kernel) rfl
theorem ini_X5 : Cond.initialized RX5 ∈ TB := TB_of 49 (by decide +kernel) rfl
theorem ini_X4 : Cond.initialized RX4 ∈ TB := TB_of 50 (by decide +kernel) rfl
theorem ini_X9 : Cond.initialized RX9 ∈ TB := TB_of 51 (by decide +kernel) rfl
theorem ini_J9 : Cond.initialized RJ9 ∈ TB := TB_of 52 (by decide +kernel) rfl
theorem ini_J6 : Cond.initialized RJ6 ∈ TB := TB_of 53 (by decide +kernel) rfl
theorem ini_J10 : Cond.initialized RJ10 ∈ TB := TB_of 54 (by decide +kernel) rfl
theorem cl_L_7 : Cond.classLink RL 7 RX8 ∈ TB := TB_of 55 (by decide +kernel) rfl
theorem in_X8 : Cond.instantiable RX8 12 ∈ TB := TB_of 56 (by decide +kernel) rfl
theorem cl_X8_7 : Cond.classLink RX8 7 RX0 ∈ TB := TB_of 63 (by decide +kernel) rfl
theorem in_X0 : Cond.instantiable RX0 9 ∈ TB := TB_of 64 (by decide +kernel) rfl
theorem cl_X8_16 : Cond.classLink RX8 16 RX7 ∈ TB := TB_of 106 (by decide +kernel) rfl
theorem in_X7 : Cond.instantiable RX7 7 ∈ TB := TB_of 107 (by decide +kernel) rfl
theorem cl_X8_23 : Cond.classLink RX8 23 RX3 ∈ TB := TB_of 142 (by decide +kernel) rfl
theorem in_X3 : Cond.instantiable RX3 4 ∈ TB := TB_of 143 (by decide +kernel) rfl
theorem cl_X8_30 : Cond.classLink RX8 30 RX6 ∈ TB := TB_of 161 (by decide +kernel) rfl
theorem in_X6 : Cond.instantiable RX6 2 ∈ TB := TB_of 162 (by decide +kernel) rfl
theorem cl_X8_37 : Cond.classLink RX8 37 RX2 ∈ TB := TB_of 177 (by decide +kernel) rfl
theorem in_X2 : Cond.instantiable RX2 5 ∈ TB := TB_of 178 (by decide +kernel) rfl
theorem cl_X8_44 : Cond.classLink RX8 44 RX1 ∈ TB := TB_of 200 (by decide +kernel) rfl
theorem in_X1 : Cond.instantiable RX1 11 ∈ TB := TB_of 201 (by decide +kernel) rfl
theorem cl_X8_55 : Cond.classLink RX8 55 RX5 ∈ TB := TB_of 240 (by decide +kernel) rfl
theorem in_X5 : Cond.instantiable RX5 3 ∈ TB := TB_of 241 (by decide +kernel) rfl
theorem cl_X8_68 : Cond.classLink RX8 68 RX4 ∈ TB := TB_of 257 (by decide +kernel) rfl
theorem in_X4 : Cond.instantiable RX4 3 ∈ TB := TB_of 259 (by decide +kernel) rfl
theorem cl_L_10 : Cond.classLink RL 10 RX9 ∈ TB := TB_of 708 (by decide +kernel) rfl
theorem in_X9 : Cond.instantiable RX9 41 ∈ TB := TB_of 709 (by decide +kernel) rfl
