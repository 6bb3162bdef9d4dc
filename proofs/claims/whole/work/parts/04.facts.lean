theorem gx_X0 : ∀ w ∈ u_ws RX0 TX0 7, w ∈ GW := gw_lays (by decide +kernel)
theorem gx_X1 : ∀ w ∈ u_ws RX1 TX1 6, w ∈ GW := gw_lays (by decide +kernel)
theorem gx_X2 : ∀ w ∈ u_ws RX2 TX2 4, w ∈ GW := gw_lays (by decide +kernel)
theorem gx_X3 : ∀ w ∈ u_ws RX3 TX3 5, w ∈ GW := gw_lays (by decide +kernel)
theorem gx_X4 : ∀ w ∈ u_ws RX4 TX4 6, w ∈ GW := gw_lays (by decide +kernel)
theorem gx_X5 : ∀ w ∈ u_ws RX5 TX5 6, w ∈ GW := gw_lays (by decide +kernel)
theorem gx_X6 : ∀ w ∈ u_ws RX6 TX6 9, w ∈ GW := gw_lays (by decide +kernel)
theorem gx_X7 : ∀ w ∈ u_ws RX7 TX7 3, w ∈ GW := gw_lays (by decide +kernel)
theorem gx_X8 : ∀ w ∈ u_ws RX8 TX8 3, w ∈ GW := gw_lays (by decide +kernel)
theorem gx_X9 : ∀ w ∈ u_ws RX9 TX9 8, w ∈ GW := gw_lays (by decide +kernel)
theorem gx_X10 : ∀ w ∈ u_ws RX10 TX10 19, w ∈ GW := gw_lays (by decide +kernel)
theorem fl_X9_10 : FL RX9 10 9 0 := ⟨RX9, TX9, 8, rfl, by decide, gx_X9, Or.inl (gw_at 438 (by decide +kernel) rfl)⟩
theorem fp_X9_10_i : FP RX9 10 9 0 (.object "Campground$Camp") true := ⟨RX9, TX9, 8, tyX9, rfl, by decide, gx_X9, tyX9_ok, nmX9, by decide +kernel, Or.inr (Or.inr ⟨gw_at 438 (by decide +kernel) rfl, rfl, rfl, rfl⟩)⟩
theorem fl_X9_16 : FL RX9 16 9 1 := ⟨RX9, TX9, 8, rfl, by decide, gx_X9, Or.inl (gw_at 439 (by decide +kernel) rfl)⟩
theorem fp_X9_16_i : FP RX9 16 9 1 (.object "Campground$Camp") true := ⟨RX9, TX9, 8, tyX9, rfl, by decide, gx_X9, tyX9_ok, nmX9, by decide +kernel, Or.inr (Or.inr ⟨gw_at 439 (by decide +kernel) rfl, rfl, rfl, rfl⟩)⟩
theorem fl_X9_19 : FL RX9 19 9 2 := ⟨RX9, TX9, 8, rfl, by decide, gx_X9, Or.inl (gw_at 440 (by decide +kernel) rfl)⟩
theorem fp_X9_19_i : FP RX9 19 9 2 (.array (.object "Campground$Camp")) true := ⟨RX9, TX9, 8, tyX9, rfl, by decide, gx_X9, tyX9_ok, nmX9, by decide +kernel, Or.inr (Or.inr ⟨gw_at 440 (by decide +kernel) rfl, rfl, rfl, rfl⟩)⟩
theorem fl_X9_28 : FL RX9 28 9 3 := ⟨RX9, TX9, 8, rfl, by decide, gx_X9, Or.inl (gw_at 441 (by decide +kernel) rfl)⟩
theorem fp_X9_28_i : FP RX9 28 9 3 (.object "Campground$StayJudge") true := ⟨RX9, TX9, 8, tyX9, rfl, by decide, gx_X9, tyX9_ok, nmX9, by decide +kernel, Or.inr (Or.inr ⟨gw_at 441 (by decide +kernel) rfl, rfl, rfl, rfl⟩)⟩
theorem fl_X9_35 : FL RX9 35 9 4 := ⟨RX9, TX9, 8, rfl, by decide, gx_X9, Or.inl (gw_at 442 (by decide +kernel) rfl)⟩
theorem fp_X9_35_i : FP RX9 35 9 4 (.object "Campground$Plan") true := ⟨RX9, TX9, 8, tyX9, rfl, by decide, gx_X9, tyX9_ok, nmX9, by decide +kernel, Or.inr (Or.inr ⟨gw_at 442 (by decide +kernel) rfl, rfl, rfl, rfl⟩)⟩
theorem fl_X9_39 : FL RX9 39 9 5 := ⟨RX9, TX9, 8, rfl, by decide, gx_X9, Or.inl (gw_at 443 (by decide +kernel) rfl)⟩
theorem fp_X9_39_i : FP RX9 39 9 5 (.array .byte) true := ⟨RX9, TX9, 8, tyX9, rfl, by decide, gx_X9, tyX9_ok, nmX9, by decide +kernel, Or.inr (Or.inr ⟨gw_at 443 (by decide +kernel) rfl, rfl, rfl, rfl⟩)⟩
theorem fl_X9_48 : FL RX9 48 9 6 := ⟨RX9, TX9, 8, rfl, by decide, gx_X9, Or.inl (gw_at 444 (by decide +kernel) rfl)⟩
theorem fp_X9_48_i : FP RX9 48 9 6 (.object "Campground$SetupReader") true := ⟨RX9, TX9, 8, tyX9, rfl, by decide, gx_X9, tyX9_ok, nmX9, by decide +kernel, Or.inr (Or.inr ⟨gw_at 444 (by decide +kernel) rfl, rfl, rfl, rfl⟩)⟩
theorem fl_X9_52 : FL RX9 52 9 7 := ⟨RX9, TX9, 8, rfl, by decide, gx_X9, Or.inl (gw_at 445 (by decide +kernel) rfl)⟩
theorem fp_X9_52_m : FP RX9 52 9 7 (.int) false := ⟨RX9, TX9, 8, tyX9, rfl, by decide, gx_X9, tyX9_ok, nmX9, by decide +kernel, Or.inl ⟨gw_at 445 (by decide +kernel) rfl, rfl⟩⟩
theorem fp_X9_52_i : FP RX9 52 9 7 (.int) true := ⟨RX9, TX9, 8, tyX9, rfl, by decide, gx_X9, tyX9_ok, nmX9, by decide +kernel, Or.inl ⟨gw_at 445 (by decide +kernel) rfl, rfl⟩⟩
theorem fl_X9_60 : FL RX9 60 1 0 := ⟨RX1, TX1, 6, rfl, by decide, gx_X1, Or.inr ⟨"Campground", gw_at 324 (by decide +kernel) rfl⟩⟩
theorem fl_X9_64 : FL RX9 64 2 3 := ⟨RX2, TX2, 4, rfl, by decide, gx_X2, Or.inr ⟨"Campground", gw_at 177 (by decide +kernel) rfl⟩⟩
theorem fl_X9_84 : FL RX9 84 1 1 := ⟨RX1, TX1, 6, rfl, by decide, gx_X1, Or.inr ⟨"Campground", gw_at 328 (by decide +kernel) rfl⟩⟩
theorem fl_X9_88 : FL RX9 88 7 2 := ⟨RX7, TX7, 3, rfl, by decide, gx_X7, Or.inr ⟨"Campground", gw_at 203 (by decide +kernel) rfl⟩⟩
theorem fl_X9_96 : FL RX9 96 1 2 := ⟨RX1, TX1, 6, rfl, by decide, gx_X1, Or.inr ⟨"Campground", gw_at 332 (by decide +kernel) rfl⟩⟩
theorem fl_X9_100 : FL RX9 100 5 5 := ⟨RX5, TX5, 6, rfl, by decide, gx_X5, Or.inr ⟨"Campground", gw_at 225 (by decide +kernel) rfl⟩⟩
theorem fl_X9_111 : FL RX9 111 7 0 := ⟨RX7, TX7, 3, rfl, by decide, gx_X7, Or.inr ⟨"Campground", gw_at 197 (by decide +kernel) rfl⟩⟩
theorem fl_X9_128 : FL RX9 128 1 3 := ⟨RX1, TX1, 6, rfl, by decide, gx_X1, Or.inr ⟨"Campground", gw_at 339 (by decide +kernel) rfl⟩⟩
theorem fl_X9_164 : FL RX9 164 0 6 := ⟨RX0, TX0, 7, rfl, by decide, gx_X0, Or.inr ⟨"Campground", gw_at 270 (by decide +kernel) rfl⟩⟩
theorem fl_X9_168 : FL RX9 168 0 4 := ⟨RX0, TX0, 7, rfl, by decide, gx_X0, Or.inr ⟨"Campground", gw_at 263 (by decide +kernel) rfl⟩⟩
theorem fl_X9_171 : FL RX9 171 0 0 := ⟨RX0, TX0, 7, rfl, by decide, gx_X0, Or.inr ⟨"Campground", gw_at 249 (by decide +kernel) rfl⟩⟩
theorem fl_X9_172 : FL RX9 172 0 1 := ⟨RX0, TX0, 7, rfl, by decide, gx_X0, Or.inr ⟨"Campground", gw_at 253 (by decide +kernel) rfl⟩⟩
theorem fl_X9_175 : FL RX9 175 0 2 := ⟨RX0, TX0, 7, rfl, by decide, gx_X0, Or.inr ⟨"Campground", gw_at 257 (by decide +kernel) rfl⟩⟩
theorem fl_X9_178 : FL RX9 178 0 3 := ⟨RX0, TX0, 7, rfl, by decide, gx_X0, Or.inr ⟨"Campground", gw_at 260 (by decide +kernel) rfl⟩⟩
theorem fl_X9_181 : FL RX9 181 0 5 := ⟨RX0, TX0, 7, rfl, by decide, gx_X0, Or.inr ⟨"Campground", gw_at 266 (by decide +kernel) rfl⟩⟩
theorem fl_X9_198 : FL RX9 198 1 5 := ⟨RX1, TX1, 6, rfl, by decide, gx_X1, Or.inr ⟨"Campground", gw_at 345 (by decide +kernel) rfl⟩⟩
theorem fl_X9_222 : FL RX9 222 7 1 := ⟨RX7, TX7, 3, rfl, by decide, gx_X7, Or.inr ⟨"Campground", gw_at 200 (by decide +kernel) rfl⟩⟩
theorem fl_X9_228 : FL RX9 228 1 4 := ⟨RX1, TX1, 6, rfl, by decide, gx_X1, Or.inr ⟨"Campground", gw_at 341 (by decide +kernel) rfl⟩⟩
theorem fl_X9_232 : FL RX9 232 4 5 := ⟨RX4, TX4, 6, rfl, by decide, gx_X4, Or.inr ⟨"Campground", gw_at 309 (by decide +kernel) rfl⟩⟩
theorem fl_X9_241 : FL RX9 241 4 3 := ⟨RX4, TX4, 6, rfl, by decide, gx_X4, Or.inr ⟨"Campground", gw_at 303 (by decide +kernel) rfl⟩⟩
theorem fl_X9_242 : FL RX9 242 4 4 := ⟨RX4, TX4, 6, rfl, by decide, gx_X4, Or.inr ⟨"Campground", gw_at 306 (by decide +kernel) rfl⟩⟩
theorem fl_X9_254 : FL RX9 254 3 1 := ⟨RX3, TX3, 5, rfl, by decide, gx_X3, Or.inr ⟨"Campground", gw_at 384 (by decide +kernel) rfl⟩⟩
theorem fl_X9_255 : FL RX9 255 3 3 := ⟨RX3, TX3, 5, rfl, by decide, gx_X3, Or.inr ⟨"Campground", gw_at 387 (by decide +kernel) rfl⟩⟩
theorem fl_X9_258 : FL RX9 258 3 4 := ⟨RX3, TX3, 5, rfl, by decide, gx_X3, Or.inr ⟨"Campground", gw_at 389 (by decide +kernel) rfl⟩⟩
theorem fl_X9_290 : FL RX9 290 6 7 := ⟨RX6, TX6, 9, rfl, by decide, gx_X6, Or.inr ⟨"Campground", gw_at 415 (by decide +kernel) rfl⟩⟩
theorem fl_X9_293 : FL RX9 293 6 8 := ⟨RX6, TX6, 9, rfl, by decide, gx_X6, Or.inr ⟨"Campground", gw_at 417 (by decide +kernel) rfl⟩⟩
theorem fl_X9_318 : FL RX9 318 4 0 := ⟨RX4, TX4, 6, rfl, by decide, gx_X4, Or.inr ⟨"Campground", gw_at 294 (by decide +kernel) rfl⟩⟩
theorem fl_X9_322 : FL RX9 322 4 1 := ⟨RX4, TX4, 6, rfl, by decide, gx_X4, Or.inr ⟨"Campground", gw_at 297 (by decide +kernel) rfl⟩⟩
theorem fl_X9_323 : FL RX9 323 4 2 := ⟨RX4, TX4, 6, rfl, by decide, gx_X4, Or.inr ⟨"Campground", gw_at 300 (by decide +kernel) rfl⟩⟩
theorem fl_X0_9 : FL RX0 9 0 0 := ⟨RX0, TX0, 7, rfl, by decide, gx_X0, Or.inl (gw_at 246 (by decide +kernel) rfl)⟩
theorem fp_X0_9_i : FP RX0 9 0 0 (.array .int) true := ⟨RX0, TX0, 7, tyX0, rfl, by decide, gx_X0, tyX0_ok, nmX0, by decide +kernel, Or.inr (Or.inr ⟨gw_at 246 (by decide +kernel) rfl, rfl, rfl, rfl⟩)⟩
theorem fl_X0_15 : FL RX0 15 0 1 := ⟨RX0, TX0, 7, rfl, by decide, gx_X0, Or.inl (gw_at 250 (by decide +kernel) rfl)⟩
theorem fp_X0_15_i : FP RX0 15 0 1 (.array .int) true := ⟨RX0, TX0, 7, tyX0, rfl, by decide, gx_X0, tyX0_ok, nmX0, by decide +kernel, Or.inr (Or.inr ⟨gw_at 250 (by decide +kernel) rfl, rfl, rfl, rfl⟩)⟩
theorem fl_X0_18 : FL RX0 18 0 2 := ⟨RX0, TX0, 7, rfl, by decide, gx_X0, Or.inl (gw_at 254 (by decide +kernel) rfl)⟩
theorem fp_X0_18_i : FP RX0 18 0 2 (.array .int) true := ⟨RX0, TX0, 7, tyX0, rfl, by decide, gx_X0, tyX0_ok, nmX0, by decide +kernel, Or.inr (Or.inr ⟨gw_at 254 (by decide +kernel) rfl, rfl, rfl, rfl⟩)⟩
theorem fl_X0_21 : FL RX0 21 0 3 := ⟨RX0, TX0, 7, rfl, by decide, gx_X0, Or.inl (gw_at 258 (by decide +kernel) rfl)⟩
theorem fp_X0_21_i : FP RX0 21 0 3 (.array .int) true := ⟨RX0, TX0, 7, tyX0, rfl, by decide, gx_X0, tyX0_ok, nmX0, by decide +kernel, Or.inr (Or.inr ⟨gw_at 258 (by decide +kernel) rfl, rfl, rfl, rfl⟩)⟩
theorem fl_X0_24 : FL RX0 24 0 4 := ⟨RX0, TX0, 7, rfl, by decide, gx_X0, Or.inl (gw_at 261 (by decide +kernel) rfl)⟩
theorem fp_X0_24_i : FP RX0 24 0 4 (.array .int) true := ⟨RX0, TX0, 7, tyX0, rfl, by decide, gx_X0, tyX0_ok, nmX0, by decide +kernel, Or.inr (Or.inr ⟨gw_at 261 (by decide +kernel) rfl, rfl, rfl, rfl⟩)⟩
theorem fl_X0_27 : FL RX0 27 0 5 := ⟨RX0, TX0, 7, rfl, by decide, gx_X0, Or.inl (gw_at 264 (by decide +kernel) rfl)⟩
theorem fp_X0_27_i : FP RX0 27 0 5 (.array .int) true := ⟨RX0, TX0, 7, tyX0, rfl, by decide, gx_X0, tyX0_ok, nmX0, by decide +kernel, Or.inr (Or.inr ⟨gw_at 264 (by decide +kernel) rfl, rfl, rfl, rfl⟩)⟩
theorem fl_X0_30 : FL RX0 30 0 6 := ⟨RX0, TX0, 7, rfl, by decide, gx_X0, Or.inl (gw_at 267 (by decide +kernel) rfl)⟩
theorem fp_X0_30_m : FP RX0 30 0 6 (.int) false := ⟨RX0, TX0, 7, tyX0, rfl, by decide, gx_X0, tyX0_ok, nmX0, by decide +kernel, Or.inl ⟨gw_at 267 (by decide +kernel) rfl, rfl⟩⟩
theorem fp_X0_30_i : FP RX0 30 0 6 (.int) true := ⟨RX0, TX0, 7, tyX0, rfl, by decide, gx_X0, tyX0_ok, nmX0, by decide +kernel, Or.inl ⟨gw_at 267 (by decide +kernel) rfl, rfl⟩⟩
theorem fl_X1_12 : FL RX1 12 1 0 := ⟨RX1, TX1, 6, rfl, by decide, gx_X1, Or.inl (gw_at 323 (by decide +kernel) rfl)⟩
theorem fp_X1_12_i : FP RX1 12 1 0 (.object "Campground$Classes") true := ⟨RX1, TX1, 6, tyX1, rfl, by decide, gx_X1, tyX1_ok, nmX1, by decide +kernel, Or.inr (Or.inr ⟨gw_at 323 (by decide +kernel) rfl, rfl, rfl, rfl⟩)⟩
theorem fl_X1_21 : FL RX1 21 1 1 := ⟨RX1, TX1, 6, rfl, by decide, gx_X1, Or.inl (gw_at 327 (by decide +kernel) rfl)⟩
theorem fp_X1_21_i : FP RX1 21 1 1 (.object "Campground$Sites") true := ⟨RX1, TX1, 6, tyX1, rfl, by decide, gx_X1, tyX1_ok, nmX1, by decide +kernel, Or.inr (Or.inr ⟨gw_at 327 (by decide +kernel) rfl, rfl, rfl, rfl⟩)⟩
theorem fl_X1_28 : FL RX1 28 1 2 := ⟨RX1, TX1, 6, rfl, by decide, gx_X1, Or.inl (gw_at 331 (by decide +kernel) rfl)⟩
theorem fp_X1_28_i : FP RX1 28 1 2 (.object "Campground$Seasons") true := ⟨RX1, TX1, 6, tyX1, rfl, by decide, gx_X1, tyX1_ok, nmX1, by decide +kernel, Or.inr (Or.inr ⟨gw_at 331 (by decide +kernel) rfl, rfl, rfl, rfl⟩)⟩
theorem fl_X1_35 : FL RX1 35 1 3 := ⟨RX1, TX1, 6, rfl, by decide, gx_X1, Or.inl (gw_at 336 (by decide +kernel) rfl)⟩
theorem fp_X1_35_i : FP RX1 35 1 3 (.object "Campground$Bookings") true := ⟨RX1, TX1, 6, tyX1, rfl, by decide, gx_X1, tyX1_ok, nmX1, by decide +kernel, Or.inr (Or.inr ⟨gw_at 336 (by decide +kernel) rfl, rfl, rfl, rfl⟩)⟩
theorem fl_X1_42 : FL RX1 42 1 4 := ⟨RX1, TX1, 6, rfl, by decide, gx_X1, Or.inl (gw_at 340 (by decide +kernel) rfl)⟩
theorem fp_X1_42_i : FP RX1 42 1 4 (.object "Campground$Requests") true := ⟨RX1, TX1, 6, tyX1, rfl, by decide, gx_X1, tyX1_ok, nmX1, by decide +kernel, Or.inr (Or.inr ⟨gw_at 340 (by decide +kernel) rfl, rfl, rfl, rfl⟩)⟩
theorem fl_X1_46 : FL RX1 46 1 5 := ⟨RX1, TX1, 6, rfl, by decide, gx_X1, Or.inl (gw_at 342 (by decide +kernel) rfl)⟩
theorem fp_X1_46_m : FP RX1 46 1 5 (.int) false := ⟨RX1, TX1, 6, tyX1, rfl, by decide, gx_X1, tyX1_ok, nmX1, by decide +kernel, Or.inl ⟨gw_at 342 (by decide +kernel) rfl, rfl⟩⟩
theorem fp_X1_46_i : FP RX1 46 1 5 (.int) true := ⟨RX1, TX1, 6, tyX1, rfl, by decide, gx_X1, tyX1_ok, nmX1, by decide +kernel, Or.inl ⟨gw_at 342 (by decide +kernel) rfl, rfl⟩⟩
theorem fl_X1_50 : FL RX1 50 2 3 := ⟨RX2, TX2, 4, rfl, by decide, gx_X2, Or.inr ⟨"Campground", gw_at 176 (by decide +kernel) rfl⟩⟩
theorem fp_X1_50_m : FP RX1 50 2 3 (.int) false := ⟨RX2, TX2, 4, tyX2, rfl, by decide, gx_X2, tyX2_ok, nmX2, by decide +kernel, Or.inr (Or.inl ⟨⟨"Campground", gw_at 176 (by decide +kernel) rfl⟩, rfl⟩)⟩
theorem fl_X1_53 : FL RX1 53 7 2 := ⟨RX7, TX7, 3, rfl, by decide, gx_X7, Or.inr ⟨"Campground", gw_at 202 (by decide +kernel) rfl⟩⟩
theorem fp_X1_53_m : FP RX1 53 7 2 (.int) false := ⟨RX7, TX7, 3, tyX7, rfl, by decide, gx_X7, tyX7_ok, nmX7, by decide +kernel, Or.inr (Or.inl ⟨⟨"Campground", gw_at 202 (by decide +kernel) rfl⟩, rfl⟩)⟩
theorem fl_X1_54 : FL RX1 54 5 5 := ⟨RX5, TX5, 6, rfl, by decide, gx_X5, Or.inr ⟨"Campground", gw_at 224 (by decide +kernel) rfl⟩⟩
theorem fp_X1_54_m : FP RX1 54 5 5 (.int) false := ⟨RX5, TX5, 6, tyX5, rfl, by decide, gx_X5, tyX5_ok, nmX5, by decide +kernel, Or.inr (Or.inl ⟨⟨"Campground", gw_at 224 (by decide +kernel) rfl⟩, rfl⟩)⟩
theorem fl_X1_55 : FL RX1 55 0 6 := ⟨RX0, TX0, 7, rfl, by decide, gx_X0, Or.inr ⟨"Campground", gw_at 268 (by decide +kernel) rfl⟩⟩
theorem fp_X1_55_m : FP RX1 55 0 6 (.int) false := ⟨RX0, TX0, 7, tyX0, rfl, by decide, gx_X0, tyX0_ok, nmX0, by decide +kernel, Or.inr (Or.inl ⟨⟨"Campground", gw_at 268 (by decide +kernel) rfl⟩, rfl⟩)⟩
theorem fl_X1_56 : FL RX1 56 4 5 := ⟨RX4, TX4, 6, rfl, by decide, gx_X4, Or.inr ⟨"Campground", gw_at 308 (by decide +kernel) rfl⟩⟩
theorem fp_X1_56_m : FP RX1 56 4 5 (.int) false := ⟨RX4, TX4, 6, tyX4, rfl, by decide, gx_X4, tyX4_ok, nmX4, by decide +kernel, Or.inr (Or.inl ⟨⟨"Campground", gw_at 308 (by decide +kernel) rfl⟩, rfl⟩)⟩
theorem fl_X1_99 : FL RX1 99 7 0 := ⟨RX7, TX7, 3, rfl, by decide, gx_X7, Or.inr ⟨"Campground", gw_at 198 (by decide +kernel) rfl⟩⟩
theorem fl_X1_114 : FL RX1 114 4 0 := ⟨RX4, TX4, 6, rfl, by decide, gx_X4, Or.inr ⟨"Campground", gw_at 293 (by decide +kernel) rfl⟩⟩
theorem fl_X1_115 : FL RX1 115 4 1 := ⟨RX4, TX4, 6, rfl, by decide, gx_X4, Or.inr ⟨"Campground", gw_at 296 (by decide +kernel) rfl⟩⟩
theorem fl_X1_118 : FL RX1 118 4 2 := ⟨RX4, TX4, 6, rfl, by decide, gx_X4, Or.inr ⟨"Campground", gw_at 299 (by decide +kernel) rfl⟩⟩
theorem fl_X1_124 : FL RX1 124 4 4 := ⟨RX4, TX4, 6, rfl, by decide, gx_X4, Or.inr ⟨"Campground", gw_at 305 (by decide +kernel) rfl⟩⟩
theorem fl_X1_127 : FL RX1 127 4 3 := ⟨RX4, TX4, 6, rfl, by decide, gx_X4, Or.inr ⟨"Campground", gw_at 302 (by decide +kernel) rfl⟩⟩
theorem fl_X1_130 : FL RX1 130 0 1 := ⟨RX0, TX0, 7, rfl, by decide, gx_X0, Or.inr ⟨"Campground", gw_at 252 (by decide +kernel) rfl⟩⟩
theorem fl_X1_131 : FL RX1 131 0 3 := ⟨RX0, TX0, 7, rfl, by decide, gx_X0, Or.inr ⟨"Campground", gw_at 259 (by decide +kernel) rfl⟩⟩
theorem fl_X1_134 : FL RX1 134 0 0 := ⟨RX0, TX0, 7, rfl, by decide, gx_X0, Or.inr ⟨"Campground", gw_at 248 (by decide +kernel) rfl⟩⟩
theorem fl_X1_135 : FL RX1 135 0 2 := ⟨RX0, TX0, 7, rfl, by decide, gx_X0, Or.inr ⟨"Campground", gw_at 256 (by decide +kernel) rfl⟩⟩
theorem fl_X2_9 : FL RX2 9 2 0 := ⟨RX2, TX2, 4, rfl, by decide, gx_X2, Or.inl (gw_at 172 (by decide +kernel) rfl)⟩
theorem fp_X2_9_i : FP RX2 9 2 0 (.array .int) true := ⟨RX2, TX2, 4, tyX2, rfl, by decide, gx_X2, tyX2_ok, nmX2, by decide +kernel, Or.inr (Or.inr ⟨gw_at 172 (by decide +kernel) rfl, rfl, rfl, rfl⟩)⟩
theorem fl_X2_15 : FL RX2 15 2 1 := ⟨RX2, TX2, 4, rfl, by decide, gx_X2, Or.inl (gw_at 173 (by decide +kernel) rfl)⟩
theorem fp_X2_15_i : FP RX2 15 2 1 (.array .int) true := ⟨RX2, TX2, 4, tyX2, rfl, by decide, gx_X2, tyX2_ok, nmX2, by decide +kernel, Or.inr (Or.inr ⟨gw_at 173 (by decide +kernel) rfl, rfl, rfl, rfl⟩)⟩
theorem fl_X2_18 : FL RX2 18 2 2 := ⟨RX2, TX2, 4, rfl, by decide, gx_X2, Or.inl (gw_at 174 (by decide +kernel) rfl)⟩
theorem fp_X2_18_i : FP RX2 18 2 2 (.array .int) true := ⟨RX2, TX2, 4, tyX2, rfl, by decide, gx_X2, tyX2_ok, nmX2, by decide +kernel, Or.inr (Or.inr ⟨gw_at 174 (by decide +kernel) rfl, rfl, rfl, rfl⟩)⟩
theorem fl_X2_21 : FL RX2 21 2 3 := ⟨RX2, TX2, 4, rfl, by decide, gx_X2, Or.inl (gw_at 175 (by decide +kernel) rfl)⟩
theorem fp_X2_21_m : FP RX2 21 2 3 (.int) false := ⟨RX2, TX2, 4, tyX2, rfl, by decide, gx_X2, tyX2_ok, nmX2, by decide +kernel, Or.inl ⟨gw_at 175 (by decide +kernel) rfl, rfl⟩⟩
theorem fp_X2_21_i : FP RX2 21 2 3 (.int) true := ⟨RX2, TX2, 4, tyX2, rfl, by decide, gx_X2, tyX2_ok, nmX2, by decide +kernel, Or.inl ⟨gw_at 175 (by decide +kernel) rfl, rfl⟩⟩
theorem fl_X3_9 : FL RX3 9 3 1 := ⟨RX3, TX3, 5, rfl, by decide, gx_X3, Or.inl (gw_at 383 (by decide +kernel) rfl)⟩
theorem fp_X3_9_i : FP RX3 9 3 1 (.array .int) true := ⟨RX3, TX3, 5, tyX3, rfl, by decide, gx_X3, tyX3_ok, nmX3, by decide +kernel, Or.inr (Or.inr ⟨gw_at 383 (by decide +kernel) rfl, rfl, rfl, rfl⟩)⟩
theorem fl_X3_15 : FL RX3 15 3 2 := ⟨RX3, TX3, 5, rfl, by decide, gx_X3, Or.inl (gw_at 385 (by decide +kernel) rfl)⟩
theorem fp_X3_15_i : FP RX3 15 3 2 (.array .int) true := ⟨RX3, TX3, 5, tyX3, rfl, by decide, gx_X3, tyX3_ok, nmX3, by decide +kernel, Or.inr (Or.inr ⟨gw_at 385 (by decide +kernel) rfl, rfl, rfl, rfl⟩)⟩
theorem fl_X3_18 : FL RX3 18 3 3 := ⟨RX3, TX3, 5, rfl, by decide, gx_X3, Or.inl (gw_at 386 (by decide +kernel) rfl)⟩
theorem fp_X3_18_m : FP RX3 18 3 3 (.int) false := ⟨RX3, TX3, 5, tyX3, rfl, by decide, gx_X3, tyX3_ok, nmX3, by decide +kernel, Or.inl ⟨gw_at 386 (by decide +kernel) rfl, rfl⟩⟩
theorem fp_X3_18_i : FP RX3 18 3 3 (.int) true := ⟨RX3, TX3, 5, tyX3, rfl, by decide, gx_X3, tyX3_ok, nmX3, by decide +kernel, Or.inl ⟨gw_at 386 (by decide +kernel) rfl, rfl⟩⟩
theorem fl_X3_22 : FL RX3 22 3 4 := ⟨RX3, TX3, 5, rfl, by decide, gx_X3, Or.inl (gw_at 388 (by decide +kernel) rfl)⟩
theorem fp_X3_22_m : FP RX3 22 3 4 (.int) false := ⟨RX3, TX3, 5, tyX3, rfl, by decide, gx_X3, tyX3_ok, nmX3, by decide +kernel, Or.inl ⟨gw_at 388 (by decide +kernel) rfl, rfl⟩⟩
theorem fp_X3_22_i : FP RX3 22 3 4 (.int) true := ⟨RX3, TX3, 5, tyX3, rfl, by decide, gx_X3, tyX3_ok, nmX3, by decide +kernel, Or.inl ⟨gw_at 388 (by decide +kernel) rfl, rfl⟩⟩
theorem fl_X3_25 : FL RX3 25 3 0 := ⟨RX3, TX3, 5, rfl, by decide, gx_X3, Or.inl (gw_at 382 (by decide +kernel) rfl)⟩
theorem fp_X3_25_i : FP RX3 25 3 0 (.object "Campground$Camp") true := ⟨RX3, TX3, 5, tyX3, rfl, by decide, gx_X3, tyX3_ok, nmX3, by decide +kernel, Or.inr (Or.inr ⟨gw_at 382 (by decide +kernel) rfl, rfl, rfl, rfl⟩)⟩
theorem fl_X3_39 : FL RX3 39 1 3 := ⟨RX1, TX1, 6, rfl, by decide, gx_X1, Or.inr ⟨"Campground", gw_at 337 (by decide +kernel) rfl⟩⟩
theorem fl_X3_45 : FL RX3 45 0 6 := ⟨RX0, TX0, 7, rfl, by decide, gx_X0, Or.inr ⟨"Campground", gw_at 269 (by decide +kernel) rfl⟩⟩
theorem fl_X3_54 : FL RX3 54 0 1 := ⟨RX0, TX0, 7, rfl, by decide, gx_X0, Or.inr ⟨"Campground", gw_at 251 (by decide +kernel) rfl⟩⟩
theorem fl_X3_65 : FL RX3 65 0 2 := ⟨RX0, TX0, 7, rfl, by decide, gx_X0, Or.inr ⟨"Campground", gw_at 255 (by decide +kernel) rfl⟩⟩
theorem fl_X3_68 : FL RX3 68 0 5 := ⟨RX0, TX0, 7, rfl, by decide, gx_X0, Or.inr ⟨"Campground", gw_at 265 (by decide +kernel) rfl⟩⟩
theorem fl_X3_69 : FL RX3 69 0 4 := ⟨RX0, TX0, 7, rfl, by decide, gx_X0, Or.inr ⟨"Campground", gw_at 262 (by decide +kernel) rfl⟩⟩
theorem fl_X3_72 : FL RX3 72 0 0 := ⟨RX0, TX0, 7, rfl, by decide, gx_X0, Or.inr ⟨"Campground", gw_at 247 (by decide +kernel) rfl⟩⟩
theorem fl_X3_75 : FL RX3 75 1 1 := ⟨RX1, TX1, 6, rfl, by decide, gx_X1, Or.inr ⟨"Campground", gw_at 329 (by decide +kernel) rfl⟩⟩
theorem fl_X3_79 : FL RX3 79 7 2 := ⟨RX7, TX7, 3, rfl, by decide, gx_X7, Or.inr ⟨"Campground", gw_at 204 (by decide +kernel) rfl⟩⟩
theorem fl_X3_82 : FL RX3 82 7 0 := ⟨RX7, TX7, 3, rfl, by decide, gx_X7, Or.inr ⟨"Campground", gw_at 196 (by decide +kernel) rfl⟩⟩
theorem fl_X3_87 : FL RX3 87 1 2 := ⟨RX1, TX1, 6, rfl, by decide, gx_X1, Or.inr ⟨"Campground", gw_at 335 (by decide +kernel) rfl⟩⟩
theorem fl_X4_9 : FL RX4 9 4 0 := ⟨RX4, TX4, 6, rfl, by decide, gx_X4, Or.inl (gw_at 292 (by decide +kernel) rfl)⟩
theorem fp_X4_9_i : FP RX4 9 4 0 (.array .int) true := ⟨RX4, TX4, 6, tyX4, rfl, by decide, gx_X4, tyX4_ok, nmX4, by decide +kernel, Or.inr (Or.inr ⟨gw_at 292 (by decide +kernel) rfl, rfl, rfl, rfl⟩)⟩
theorem fl_X4_15 : FL RX4 15 4 1 := ⟨RX4, TX4, 6, rfl, by decide, gx_X4, Or.inl (gw_at 295 (by decide +kernel) rfl)⟩
theorem fp_X4_15_i : FP RX4 15 4 1 (.array .int) true := ⟨RX4, TX4, 6, tyX4, rfl, by decide, gx_X4, tyX4_ok, nmX4, by decide +kernel, Or.inr (Or.inr ⟨gw_at 295 (by decide +kernel) rfl, rfl, rfl, rfl⟩)⟩
theorem fl_X4_18 : FL RX4 18 4 2 := ⟨RX4, TX4, 6, rfl, by decide, gx_X4, Or.inl (gw_at 298 (by decide +kernel) rfl)⟩
theorem fp_X4_18_i : FP RX4 18 4 2 (.array .int) true := ⟨RX4, TX4, 6, tyX4, rfl, by decide, gx_X4, tyX4_ok, nmX4, by decide +kernel, Or.inr (Or.inr ⟨gw_at 298 (by decide +kernel) rfl, rfl, rfl, rfl⟩)⟩
theorem fl_X4_21 : FL RX4 21 4 3 := ⟨RX4, TX4, 6, rfl, by decide, gx_X4, Or.inl (gw_at 301 (by decide +kernel) rfl)⟩
theorem fp_X4_21_i : FP RX4 21 4 3 (.array .int) true := ⟨RX4, TX4, 6, tyX4, rfl, by decide, gx_X4, tyX4_ok, nmX4, by decide +kernel, Or.inr (Or.inr ⟨gw_at 301 (by decide +kernel) rfl, rfl, rfl, rfl⟩)⟩
theorem fl_X4_24 : FL RX4 24 4 4 := ⟨RX4, TX4, 6, rfl, by decide, gx_X4, Or.inl (gw_at 304 (by decide +kernel) rfl)⟩
theorem fp_X4_24_i : FP RX4 24 4 4 (.array .int) true := ⟨RX4, TX4, 6, tyX4, rfl, by decide, gx_X4, tyX4_ok, nmX4, by decide +kernel, Or.inr (Or.inr ⟨gw_at 304 (by decide +kernel) rfl, rfl, rfl, rfl⟩)⟩
theorem fl_X4_27 : FL RX4 27 4 5 := ⟨RX4, TX4, 6, rfl, by decide, gx_X4, Or.inl (gw_at 307 (by decide +kernel) rfl)⟩
theorem fp_X4_27_m : FP RX4 27 4 5 (.int) false := ⟨RX4, TX4, 6, tyX4, rfl, by decide, gx_X4, tyX4_ok, nmX4, by decide +kernel, Or.inl ⟨gw_at 307 (by decide +kernel) rfl, rfl⟩⟩
theorem fp_X4_27_i : FP RX4 27 4 5 (.int) true := ⟨RX4, TX4, 6, tyX4, rfl, by decide, gx_X4, tyX4_ok, nmX4, by decide +kernel, Or.inl ⟨gw_at 307 (by decide +kernel) rfl, rfl⟩⟩
theorem fl_X5_9 : FL RX5 9 5 0 := ⟨RX5, TX5, 6, rfl, by decide, gx_X5, Or.inl (gw_at 218 (by decide +kernel) rfl)⟩
theorem fp_X5_9_i : FP RX5 9 5 0 (.array .int) true := ⟨RX5, TX5, 6, tyX5, rfl, by decide, gx_X5, tyX5_ok, nmX5, by decide +kernel, Or.inr (Or.inr ⟨gw_at 218 (by decide +kernel) rfl, rfl, rfl, rfl⟩)⟩
theorem fl_X5_15 : FL RX5 15 5 1 := ⟨RX5, TX5, 6, rfl, by decide, gx_X5, Or.inl (gw_at 219 (by decide +kernel) rfl)⟩
theorem fp_X5_15_i : FP RX5 15 5 1 (.array .int) true := ⟨RX5, TX5, 6, tyX5, rfl, by decide, gx_X5, tyX5_ok, nmX5, by decide +kernel, Or.inr (Or.inr ⟨gw_at 219 (by decide +kernel) rfl, rfl, rfl, rfl⟩)⟩
theorem fl_X5_18 : FL RX5 18 5 2 := ⟨RX5, TX5, 6, rfl, by decide, gx_X5, Or.inl (gw_at 220 (by decide +kernel) rfl)⟩
theorem fp_X5_18_i : FP RX5 18 5 2 (.array .int) true := ⟨RX5, TX5, 6, tyX5, rfl, by decide, gx_X5, tyX5_ok, nmX5, by decide +kernel, Or.inr (Or.inr ⟨gw_at 220 (by decide +kernel) rfl, rfl, rfl, rfl⟩)⟩
theorem fl_X5_21 : FL RX5 21 5 3 := ⟨RX5, TX5, 6, rfl, by decide, gx_X5, Or.inl (gw_at 221 (by decide +kernel) rfl)⟩
theorem fp_X5_21_i : FP RX5 21 5 3 (.array .int) true := ⟨RX5, TX5, 6, tyX5, rfl, by decide, gx_X5, tyX5_ok, nmX5, by decide +kernel, Or.inr (Or.inr ⟨gw_at 221 (by decide +kernel) rfl, rfl, rfl, rfl⟩)⟩
theorem fl_X5_24 : FL RX5 24 5 4 := ⟨RX5, TX5, 6, rfl, by decide, gx_X5, Or.inl (gw_at 222 (by decide +kernel) rfl)⟩
theorem fp_X5_24_i : FP RX5 24 5 4 (.array .int) true := ⟨RX5, TX5, 6, tyX5, rfl, by decide, gx_X5, tyX5_ok, nmX5, by decide +kernel, Or.inr (Or.inr ⟨gw_at 222 (by decide +kernel) rfl, rfl, rfl, rfl⟩)⟩
theorem fl_X5_27 : FL RX5 27 5 5 := ⟨RX5, TX5, 6, rfl, by decide, gx_X5, Or.inl (gw_at 223 (by decide +kernel) rfl)⟩
theorem fp_X5_27_m : FP RX5 27 5 5 (.int) false := ⟨RX5, TX5, 6, tyX5, rfl, by decide, gx_X5, tyX5_ok, nmX5, by decide +kernel, Or.inl ⟨gw_at 223 (by decide +kernel) rfl, rfl⟩⟩
theorem fp_X5_27_i : FP RX5 27 5 5 (.int) true := ⟨RX5, TX5, 6, tyX5, rfl, by decide, gx_X5, tyX5_ok, nmX5, by decide +kernel, Or.inl ⟨gw_at 223 (by decide +kernel) rfl, rfl⟩⟩
theorem fl_X6_9 : FL RX6 9 6 2 := ⟨RX6, TX6, 9, rfl, by decide, gx_X6, Or.inl (gw_at 409 (by decide +kernel) rfl)⟩
theorem fp_X6_9_m : FP RX6 9 6 2 (.int) false := ⟨RX6, TX6, 9, tyX6, rfl, by decide, gx_X6, tyX6_ok, nmX6, by decide +kernel, Or.inl ⟨gw_at 409 (by decide +kernel) rfl, rfl⟩⟩
theorem fp_X6_9_i : FP RX6 9 6 2 (.int) true := ⟨RX6, TX6, 9, tyX6, rfl, by decide, gx_X6, tyX6_ok, nmX6, by decide +kernel, Or.inl ⟨gw_at 409 (by decide +kernel) rfl, rfl⟩⟩
theorem fl_X6_15 : FL RX6 15 6 3 := ⟨RX6, TX6, 9, rfl, by decide, gx_X6, Or.inl (gw_at 410 (by decide +kernel) rfl)⟩
theorem fp_X6_15_m : FP RX6 15 6 3 (.int) false := ⟨RX6, TX6, 9, tyX6, rfl, by decide, gx_X6, tyX6_ok, nmX6, by decide +kernel, Or.inl ⟨gw_at 410 (by decide +kernel) rfl, rfl⟩⟩
theorem fp_X6_15_i : FP RX6 15 6 3 (.int) true := ⟨RX6, TX6, 9, tyX6, rfl, by decide, gx_X6, tyX6_ok, nmX6, by decide +kernel, Or.inl ⟨gw_at 410 (by decide +kernel) rfl, rfl⟩⟩
theorem fl_X6_18 : FL RX6 18 6 4 := ⟨RX6, TX6, 9, rfl, by decide, gx_X6, Or.inl (gw_at 411 (by decide +kernel) rfl)⟩
theorem fp_X6_18_m : FP RX6 18 6 4 (.int) false := ⟨RX6, TX6, 9, tyX6, rfl, by decide, gx_X6, tyX6_ok, nmX6, by decide +kernel, Or.inl ⟨gw_at 411 (by decide +kernel) rfl, rfl⟩⟩
theorem fp_X6_18_i : FP RX6 18 6 4 (.int) true := ⟨RX6, TX6, 9, tyX6, rfl, by decide, gx_X6, tyX6_ok, nmX6, by decide +kernel, Or.inl ⟨gw_at 411 (by decide +kernel) rfl, rfl⟩⟩
theorem fl_X6_21 : FL RX6 21 6 5 := ⟨RX6, TX6, 9, rfl, by decide, gx_X6, Or.inl (gw_at 412 (by decide +kernel) rfl)⟩
theorem fp_X6_21_m : FP RX6 21 6 5 (.int) false := ⟨RX6, TX6, 9, tyX6, rfl, by decide, gx_X6, tyX6_ok, nmX6, by decide +kernel, Or.inl ⟨gw_at 412 (by decide +kernel) rfl, rfl⟩⟩
theorem fp_X6_21_i : FP RX6 21 6 5 (.int) true := ⟨RX6, TX6, 9, tyX6, rfl, by decide, gx_X6, tyX6_ok, nmX6, by decide +kernel, Or.inl ⟨gw_at 412 (by decide +kernel) rfl, rfl⟩⟩
theorem fl_X6_24 : FL RX6 24 6 6 := ⟨RX6, TX6, 9, rfl, by decide, gx_X6, Or.inl (gw_at 413 (by decide +kernel) rfl)⟩
theorem fp_X6_24_m : FP RX6 24 6 6 (.int) false := ⟨RX6, TX6, 9, tyX6, rfl, by decide, gx_X6, tyX6_ok, nmX6, by decide +kernel, Or.inl ⟨gw_at 413 (by decide +kernel) rfl, rfl⟩⟩
theorem fp_X6_24_i : FP RX6 24 6 6 (.int) true := ⟨RX6, TX6, 9, tyX6, rfl, by decide, gx_X6, tyX6_ok, nmX6, by decide +kernel, Or.inl ⟨gw_at 413 (by decide +kernel) rfl, rfl⟩⟩
theorem fl_X6_27 : FL RX6 27 6 7 := ⟨RX6, TX6, 9, rfl, by decide, gx_X6, Or.inl (gw_at 414 (by decide +kernel) rfl)⟩
theorem fp_X6_27_m : FP RX6 27 6 7 (.int) false := ⟨RX6, TX6, 9, tyX6, rfl, by decide, gx_X6, tyX6_ok, nmX6, by decide +kernel, Or.inl ⟨gw_at 414 (by decide +kernel) rfl, rfl⟩⟩
theorem fp_X6_27_i : FP RX6 27 6 7 (.int) true := ⟨RX6, TX6, 9, tyX6, rfl, by decide, gx_X6, tyX6_ok, nmX6, by decide +kernel, Or.inl ⟨gw_at 414 (by decide +kernel) rfl, rfl⟩⟩
theorem fl_X6_30 : FL RX6 30 6 8 := ⟨RX6, TX6, 9, rfl, by decide, gx_X6, Or.inl (gw_at 416 (by decide +kernel) rfl)⟩
theorem fp_X6_30_m : FP RX6 30 6 8 (.int) false := ⟨RX6, TX6, 9, tyX6, rfl, by decide, gx_X6, tyX6_ok, nmX6, by decide +kernel, Or.inl ⟨gw_at 416 (by decide +kernel) rfl, rfl⟩⟩
theorem fp_X6_30_i : FP RX6 30 6 8 (.int) true := ⟨RX6, TX6, 9, tyX6, rfl, by decide, gx_X6, tyX6_ok, nmX6, by decide +kernel, Or.inl ⟨gw_at 416 (by decide +kernel) rfl, rfl⟩⟩
theorem fl_X6_33 : FL RX6 33 6 0 := ⟨RX6, TX6, 9, rfl, by decide, gx_X6, Or.inl (gw_at 407 (by decide +kernel) rfl)⟩
theorem fp_X6_33_i : FP RX6 33 6 0 (.array .byte) true := ⟨RX6, TX6, 9, tyX6, rfl, by decide, gx_X6, tyX6_ok, nmX6, by decide +kernel, Or.inr (Or.inr ⟨gw_at 407 (by decide +kernel) rfl, rfl, rfl, rfl⟩)⟩
theorem fl_X6_37 : FL RX6 37 6 1 := ⟨RX6, TX6, 9, rfl, by decide, gx_X6, Or.inl (gw_at 408 (by decide +kernel) rfl)⟩
theorem fp_X6_37_i : FP RX6 37 6 1 (.object "Campground$Camp") true := ⟨RX6, TX6, 9, tyX6, rfl, by decide, gx_X6, tyX6_ok, nmX6, by decide +kernel, Or.inr (Or.inr ⟨gw_at 408 (by decide +kernel) rfl, rfl, rfl, rfl⟩)⟩
theorem fl_X6_90 : FL RX6 90 1 0 := ⟨RX1, TX1, 6, rfl, by decide, gx_X1, Or.inr ⟨"Campground", gw_at 325 (by decide +kernel) rfl⟩⟩
theorem fl_X6_94 : FL RX6 94 2 3 := ⟨RX2, TX2, 4, rfl, by decide, gx_X2, Or.inr ⟨"Campground", gw_at 178 (by decide +kernel) rfl⟩⟩
theorem fl_X6_106 : FL RX6 106 1 1 := ⟨RX1, TX1, 6, rfl, by decide, gx_X1, Or.inr ⟨"Campground", gw_at 330 (by decide +kernel) rfl⟩⟩
theorem fl_X6_119 : FL RX6 119 1 2 := ⟨RX1, TX1, 6, rfl, by decide, gx_X1, Or.inr ⟨"Campground", gw_at 333 (by decide +kernel) rfl⟩⟩
theorem fl_X6_123 : FL RX6 123 5 5 := ⟨RX5, TX5, 6, rfl, by decide, gx_X5, Or.inr ⟨"Campground", gw_at 226 (by decide +kernel) rfl⟩⟩
theorem fl_X6_129 : FL RX6 129 1 5 := ⟨RX1, TX1, 6, rfl, by decide, gx_X1, Or.inr ⟨"Campground", gw_at 344 (by decide +kernel) rfl⟩⟩
theorem fp_X6_129_m : FP RX6 129 1 5 (.int) false := ⟨RX1, TX1, 6, tyX1, rfl, by decide, gx_X1, tyX1_ok, nmX1, by decide +kernel, Or.inr (Or.inl ⟨⟨"Campground", gw_at 344 (by decide +kernel) rfl⟩, rfl⟩)⟩
theorem fl_X7_9 : FL RX7 9 7 0 := ⟨RX7, TX7, 3, rfl, by decide, gx_X7, Or.inl (gw_at 195 (by decide +kernel) rfl)⟩
theorem fp_X7_9_i : FP RX7 9 7 0 (.array .int) true := ⟨RX7, TX7, 3, tyX7, rfl, by decide, gx_X7, tyX7_ok, nmX7, by decide +kernel, Or.inr (Or.inr ⟨gw_at 195 (by decide +kernel) rfl, rfl, rfl, rfl⟩)⟩
theorem fl_X7_15 : FL RX7 15 7 1 := ⟨RX7, TX7, 3, rfl, by decide, gx_X7, Or.inl (gw_at 199 (by decide +kernel) rfl)⟩
theorem fp_X7_15_i : FP RX7 15 7 1 (.array .int) true := ⟨RX7, TX7, 3, tyX7, rfl, by decide, gx_X7, tyX7_ok, nmX7, by decide +kernel, Or.inr (Or.inr ⟨gw_at 199 (by decide +kernel) rfl, rfl, rfl, rfl⟩)⟩
theorem fl_X7_18 : FL RX7 18 7 2 := ⟨RX7, TX7, 3, rfl, by decide, gx_X7, Or.inl (gw_at 201 (by decide +kernel) rfl)⟩
theorem fp_X7_18_m : FP RX7 18 7 2 (.int) false := ⟨RX7, TX7, 3, tyX7, rfl, by decide, gx_X7, tyX7_ok, nmX7, by decide +kernel, Or.inl ⟨gw_at 201 (by decide +kernel) rfl, rfl⟩⟩
theorem fp_X7_18_i : FP RX7 18 7 2 (.int) true := ⟨RX7, TX7, 3, tyX7, rfl, by decide, gx_X7, tyX7_ok, nmX7, by decide +kernel, Or.inl ⟨gw_at 201 (by decide +kernel) rfl, rfl⟩⟩
theorem fl_X8_9 : FL RX8 9 8 1 := ⟨RX8, TX8, 3, rfl, by decide, gx_X8, Or.inl (gw_at 367 (by decide +kernel) rfl)⟩
theorem fp_X8_9_i : FP RX8 9 8 1 (.array .int) true := ⟨RX8, TX8, 3, tyX8, rfl, by decide, gx_X8, tyX8_ok, nmX8, by decide +kernel, Or.inr (Or.inr ⟨gw_at 367 (by decide +kernel) rfl, rfl, rfl, rfl⟩)⟩
theorem fl_X8_15 : FL RX8 15 8 2 := ⟨RX8, TX8, 3, rfl, by decide, gx_X8, Or.inl (gw_at 368 (by decide +kernel) rfl)⟩
theorem fp_X8_15_m : FP RX8 15 8 2 (.int) false := ⟨RX8, TX8, 3, tyX8, rfl, by decide, gx_X8, tyX8_ok, nmX8, by decide +kernel, Or.inl ⟨gw_at 368 (by decide +kernel) rfl, rfl⟩⟩
theorem fp_X8_15_i : FP RX8 15 8 2 (.int) true := ⟨RX8, TX8, 3, tyX8, rfl, by decide, gx_X8, tyX8_ok, nmX8, by decide +kernel, Or.inl ⟨gw_at 368 (by decide +kernel) rfl, rfl⟩⟩
theorem fl_X8_19 : FL RX8 19 8 0 := ⟨RX8, TX8, 3, rfl, by decide, gx_X8, Or.inl (gw_at 366 (by decide +kernel) rfl)⟩
theorem fp_X8_19_i : FP RX8 19 8 0 (.object "Campground$Camp") true := ⟨RX8, TX8, 3, tyX8, rfl, by decide, gx_X8, tyX8_ok, nmX8, by decide +kernel, Or.inr (Or.inr ⟨gw_at 366 (by decide +kernel) rfl, rfl, rfl, rfl⟩)⟩
theorem fl_X8_35 : FL RX8 35 1 3 := ⟨RX1, TX1, 6, rfl, by decide, gx_X1, Or.inr ⟨"Campground", gw_at 338 (by decide +kernel) rfl⟩⟩
theorem fl_X8_44 : FL RX8 44 1 5 := ⟨RX1, TX1, 6, rfl, by decide, gx_X1, Or.inr ⟨"Campground", gw_at 343 (by decide +kernel) rfl⟩⟩
theorem fl_X8_47 : FL RX8 47 1 0 := ⟨RX1, TX1, 6, rfl, by decide, gx_X1, Or.inr ⟨"Campground", gw_at 326 (by decide +kernel) rfl⟩⟩
theorem fl_X8_68 : FL RX8 68 1 2 := ⟨RX1, TX1, 6, rfl, by decide, gx_X1, Or.inr ⟨"Campground", gw_at 334 (by decide +kernel) rfl⟩⟩
theorem fl_X10_7 : FL RX10 7 10 0 := ⟨RX10, TX10, 19, rfl, by decide, gx_X10, Or.inl (gw_at 1336 (by decide +kernel) rfl)⟩
theorem fp_X10_7_i : FP RX10 7 10 0 (.array .int) true := ⟨RX10, TX10, 19, tyX10, rfl, by decide, gx_X10, tyX10_ok, nmX10, by decide +kernel, Or.inr (Or.inr ⟨gw_at 1336 (by decide +kernel) rfl, rfl, rfl, rfl⟩)⟩
theorem fl_X10_13 : FL RX10 13 10 1 := ⟨RX10, TX10, 19, rfl, by decide, gx_X10, Or.inl (gw_at 1337 (by decide +kernel) rfl)⟩
theorem fp_X10_13_i : FP RX10 13 10 1 (.array .int) true := ⟨RX10, TX10, 19, tyX10, rfl, by decide, gx_X10, tyX10_ok, nmX10, by decide +kernel, Or.inr (Or.inr ⟨gw_at 1337 (by decide +kernel) rfl, rfl, rfl, rfl⟩)⟩
theorem fl_X10_16 : FL RX10 16 10 2 := ⟨RX10, TX10, 19, rfl, by decide, gx_X10, Or.inl (gw_at 1338 (by decide +kernel) rfl)⟩
theorem fp_X10_16_i : FP RX10 16 10 2 (.array .int) true := ⟨RX10, TX10, 19, tyX10, rfl, by decide, gx_X10, tyX10_ok, nmX10, by decide +kernel, Or.inr (Or.inr ⟨gw_at 1338 (by decide +kernel) rfl, rfl, rfl, rfl⟩)⟩
theorem fl_X10_19 : FL RX10 19 10 3 := ⟨RX10, TX10, 19, rfl, by decide, gx_X10, Or.inl (gw_at 1339 (by decide +kernel) rfl)⟩
theorem fp_X10_19_i : FP RX10 19 10 3 (.array .boolean) true := ⟨RX10, TX10, 19, tyX10, rfl, by decide, gx_X10, tyX10_ok, nmX10, by decide +kernel, Or.inr (Or.inr ⟨gw_at 1339 (by decide +kernel) rfl, rfl, rfl, rfl⟩)⟩
theorem fl_X10_23 : FL RX10 23 10 5 := ⟨RX10, TX10, 19, rfl, by decide, gx_X10, Or.inl (gw_at 1341 (by decide +kernel) rfl)⟩
theorem fp_X10_23_i : FP RX10 23 10 5 (.array .int) true := ⟨RX10, TX10, 19, tyX10, rfl, by decide, gx_X10, tyX10_ok, nmX10, by decide +kernel, Or.inr (Or.inr ⟨gw_at 1341 (by decide +kernel) rfl, rfl, rfl, rfl⟩)⟩
theorem fl_X10_26 : FL RX10 26 10 6 := ⟨RX10, TX10, 19, rfl, by decide, gx_X10, Or.inl (gw_at 1342 (by decide +kernel) rfl)⟩
theorem fp_X10_26_i : FP RX10 26 10 6 (.array .int) true := ⟨RX10, TX10, 19, tyX10, rfl, by decide, gx_X10, tyX10_ok, nmX10, by decide +kernel, Or.inr (Or.inr ⟨gw_at 1342 (by decide +kernel) rfl, rfl, rfl, rfl⟩)⟩
theorem fl_X10_29 : FL RX10 29 10 9 := ⟨RX10, TX10, 19, rfl, by decide, gx_X10, Or.inl (gw_at 1345 (by decide +kernel) rfl)⟩
theorem fp_X10_29_i : FP RX10 29 10 9 (.array .int) true := ⟨RX10, TX10, 19, tyX10, rfl, by decide, gx_X10, tyX10_ok, nmX10, by decide +kernel, Or.inr (Or.inr ⟨gw_at 1345 (by decide +kernel) rfl, rfl, rfl, rfl⟩)⟩
theorem fl_X10_32 : FL RX10 32 10 17 := ⟨RX10, TX10, 19, rfl, by decide, gx_X10, Or.inl (gw_at 1353 (by decide +kernel) rfl)⟩
theorem fp_X10_32_m : FP RX10 32 10 17 (.int) false := ⟨RX10, TX10, 19, tyX10, rfl, by decide, gx_X10, tyX10_ok, nmX10, by decide +kernel, Or.inl ⟨gw_at 1353 (by decide +kernel) rfl, rfl⟩⟩
theorem fp_X10_32_i : FP RX10 32 10 17 (.int) true := ⟨RX10, TX10, 19, tyX10, rfl, by decide, gx_X10, tyX10_ok, nmX10, by decide +kernel, Or.inl ⟨gw_at 1353 (by decide +kernel) rfl, rfl⟩⟩
theorem fl_X10_36 : FL RX10 36 10 4 := ⟨RX10, TX10, 19, rfl, by decide, gx_X10, Or.inl (gw_at 1340 (by decide +kernel) rfl)⟩
theorem fp_X10_36_m : FP RX10 36 10 4 (.int) false := ⟨RX10, TX10, 19, tyX10, rfl, by decide, gx_X10, tyX10_ok, nmX10, by decide +kernel, Or.inl ⟨gw_at 1340 (by decide +kernel) rfl, rfl⟩⟩
theorem fl_X10_180 : FL RX10 180 10 7 := ⟨RX10, TX10, 19, rfl, by decide, gx_X10, Or.inl (gw_at 1343 (by decide +kernel) rfl)⟩
theorem fp_X10_180_m : FP RX10 180 10 7 (.int) false := ⟨RX10, TX10, 19, tyX10, rfl, by decide, gx_X10, tyX10_ok, nmX10, by decide +kernel, Or.inl ⟨gw_at 1343 (by decide +kernel) rfl, rfl⟩⟩
theorem fl_X10_183 : FL RX10 183 10 8 := ⟨RX10, TX10, 19, rfl, by decide, gx_X10, Or.inl (gw_at 1344 (by decide +kernel) rfl)⟩
theorem fp_X10_183_m : FP RX10 183 10 8 (.int) false := ⟨RX10, TX10, 19, tyX10, rfl, by decide, gx_X10, tyX10_ok, nmX10, by decide +kernel, Or.inl ⟨gw_at 1344 (by decide +kernel) rfl, rfl⟩⟩
theorem fl_X10_213 : FL RX10 213 10 10 := ⟨RX10, TX10, 19, rfl, by decide, gx_X10, Or.inl (gw_at 1346 (by decide +kernel) rfl)⟩
theorem fp_X10_213_m : FP RX10 213 10 10 (.int) false := ⟨RX10, TX10, 19, tyX10, rfl, by decide, gx_X10, tyX10_ok, nmX10, by decide +kernel, Or.inl ⟨gw_at 1346 (by decide +kernel) rfl, rfl⟩⟩
theorem fl_X10_216 : FL RX10 216 10 11 := ⟨RX10, TX10, 19, rfl, by decide, gx_X10, Or.inl (gw_at 1347 (by decide +kernel) rfl)⟩
theorem fp_X10_216_m : FP RX10 216 10 11 (.int) false := ⟨RX10, TX10, 19, tyX10, rfl, by decide, gx_X10, tyX10_ok, nmX10, by decide +kernel, Or.inl ⟨gw_at 1347 (by decide +kernel) rfl, rfl⟩⟩
theorem fl_X10_222 : FL RX10 222 10 12 := ⟨RX10, TX10, 19, rfl, by decide, gx_X10, Or.inl (gw_at 1348 (by decide +kernel) rfl)⟩
theorem fp_X10_222_m : FP RX10 222 10 12 (.int) false := ⟨RX10, TX10, 19, tyX10, rfl, by decide, gx_X10, tyX10_ok, nmX10, by decide +kernel, Or.inl ⟨gw_at 1348 (by decide +kernel) rfl, rfl⟩⟩
theorem fl_X10_225 : FL RX10 225 10 14 := ⟨RX10, TX10, 19, rfl, by decide, gx_X10, Or.inl (gw_at 1350 (by decide +kernel) rfl)⟩
theorem fp_X10_225_m : FP RX10 225 10 14 (.int) false := ⟨RX10, TX10, 19, tyX10, rfl, by decide, gx_X10, tyX10_ok, nmX10, by decide +kernel, Or.inl ⟨gw_at 1350 (by decide +kernel) rfl, rfl⟩⟩
theorem fl_X10_228 : FL RX10 228 10 18 := ⟨RX10, TX10, 19, rfl, by decide, gx_X10, Or.inl (gw_at 1354 (by decide +kernel) rfl)⟩
theorem fp_X10_228_m : FP RX10 228 10 18 (.long) false := ⟨RX10, TX10, 19, tyX10, rfl, by decide, gx_X10, tyX10_ok, nmX10, by decide +kernel, Or.inl ⟨gw_at 1354 (by decide +kernel) rfl, rfl⟩⟩
theorem fl_X10_232 : FL RX10 232 10 15 := ⟨RX10, TX10, 19, rfl, by decide, gx_X10, Or.inl (gw_at 1351 (by decide +kernel) rfl)⟩
theorem fp_X10_232_m : FP RX10 232 10 15 (.int) false := ⟨RX10, TX10, 19, tyX10, rfl, by decide, gx_X10, tyX10_ok, nmX10, by decide +kernel, Or.inl ⟨gw_at 1351 (by decide +kernel) rfl, rfl⟩⟩
theorem fl_X10_235 : FL RX10 235 10 13 := ⟨RX10, TX10, 19, rfl, by decide, gx_X10, Or.inl (gw_at 1349 (by decide +kernel) rfl)⟩
theorem fp_X10_235_m : FP RX10 235 10 13 (.int) false := ⟨RX10, TX10, 19, tyX10, rfl, by decide, gx_X10, tyX10_ok, nmX10, by decide +kernel, Or.inl ⟨gw_at 1349 (by decide +kernel) rfl, rfl⟩⟩
theorem fl_X10_258 : FL RX10 258 10 16 := ⟨RX10, TX10, 19, rfl, by decide, gx_X10, Or.inl (gw_at 1352 (by decide +kernel) rfl)⟩
theorem fp_X10_258_m : FP RX10 258 10 16 (.int) false := ⟨RX10, TX10, 19, tyX10, rfl, by decide, gx_X10, tyX10_ok, nmX10, by decide +kernel, Or.inl ⟨gw_at 1352 (by decide +kernel) rfl, rfl⟩⟩
theorem ko_X9_init : KO yX9_init cX9_init 1 none 0 := ⟨gw_at 156 (by decide +kernel) rfl, gw_at 128 (by decide +kernel) rfl, by decide +kernel⟩
theorem ko_X9_addClass : KO yX9_addClass cX9_addClass 4 (some .int) 3 := ⟨gw_at 664 (by decide +kernel) rfl, gw_at 128 (by decide +kernel) rfl, by decide +kernel⟩
theorem ko_X9_addSeason : KO yX9_addSeason cX9_addSeason 6 (some .int) 5 := ⟨gw_at 788 (by decide +kernel) rfl, gw_at 128 (by decide +kernel) rfl, by decide +kernel⟩
theorem ko_X9_addSite : KO yX9_addSite cX9_addSite 2 (some .int) 1 := ⟨gw_at 759 (by decide +kernel) rfl, gw_at 128 (by decide +kernel) rfl, by decide +kernel⟩
theorem ko_X9_appendText : KO yX9_appendText cX9_appendText 3 (some .int) 1 := ⟨gw_at 1306 (by decide +kernel) rfl, gw_at 128 (by decide +kernel) rfl, by decide +kernel⟩
theorem ko_X9_arrival : KO yX9_arrival cX9_arrival 2 (some .int) 1 := ⟨gw_at 995 (by decide +kernel) rfl, gw_at 128 (by decide +kernel) rfl, by decide +kernel⟩
theorem ko_X9_available : KO yX9_available cX9_available 4 (some .int) 2 := ⟨gw_at 881 (by decide +kernel) rfl, gw_at 128 (by decide +kernel) rfl, by decide +kernel⟩
theorem ko_X9_bestRequest : KO yX9_bestRequest cX9_bestRequest 5 (some .int) 1 := ⟨gw_at 1184 (by decide +kernel) rfl, gw_at 128 (by decide +kernel) rfl, by decide +kernel⟩
theorem ko_X9_book : KO yX9_book cX9_book 4 (some .int) 3 := ⟨gw_at 955 (by decide +kernel) rfl, gw_at 128 (by decide +kernel) rfl, by decide +kernel⟩
theorem ko_X9_bookingClass : KO yX9_bookingClass cX9_bookingClass 2 (some .int) 1 := ⟨gw_at 988 (by decide +kernel) rfl, gw_at 128 (by decide +kernel) rfl, by decide +kernel⟩
theorem ko_X9_bookingCount : KO yX9_bookingCount cX9_bookingCount 1 (some .int) 0 := ⟨gw_at 474 (by decide +kernel) rfl, gw_at 128 (by decide +kernel) rfl, by decide +kernel⟩
theorem ko_X9_bookingOf : KO yX9_bookingOf cX9_bookingOf 2 (some .int) 1 := ⟨gw_at 1166 (by decide +kernel) rfl, gw_at 128 (by decide +kernel) rfl, by decide +kernel⟩
theorem ko_X9_bookingState : KO yX9_bookingState cX9_bookingState 2 (some .int) 1 := ⟨gw_at 976 (by decide +kernel) rfl, gw_at 128 (by decide +kernel) rfl, by decide +kernel⟩
theorem ko_X9_busiestNight : KO yX9_busiestNight cX9_busiestNight 8 (some .int) 3 := ⟨gw_at 1299 (by decide +kernel) rfl, gw_at 128 (by decide +kernel) rfl, by decide +kernel⟩
theorem ko_X9_cancel : KO yX9_cancel cX9_cancel 3 (some .int) 1 := ⟨gw_at 1023 (by decide +kernel) rfl, gw_at 128 (by decide +kernel) rfl, by decide +kernel⟩
theorem ko_X9_capacity : KO yX9_capacity cX9_capacity 3 (some .int) 2 := ⟨gw_at 835 (by decide +kernel) rfl, gw_at 128 (by decide +kernel) rfl, by decide +kernel⟩
theorem ko_X9_cheapestArrival : KO yX9_cheapestArrival cX9_cheapestArrival 9 (some .int) 4 := ⟨gw_at 935 (by decide +kernel) rfl, gw_at 128 (by decide +kernel) rfl, by decide +kernel⟩
theorem ko_X9_checkBooking : KO yX9_checkBooking cX9_checkBooking 2 none 1 := ⟨gw_at 980 (by decide +kernel) rfl, gw_at 128 (by decide +kernel) rfl, by decide +kernel⟩
theorem ko_X9_checkClass : KO yX9_checkClass cX9_checkClass 2 none 1 := ⟨gw_at 763 (by decide +kernel) rfl, gw_at 128 (by decide +kernel) rfl, by decide +kernel⟩
theorem ko_X9_checkIn : KO yX9_checkIn cX9_checkIn 5 (some .int) 2 := ⟨gw_at 1061 (by decide +kernel) rfl, gw_at 128 (by decide +kernel) rfl, by decide +kernel⟩
theorem ko_X9_checkNights : KO yX9_checkNights cX9_checkNights 3 none 2 := ⟨gw_at 1248 (by decide +kernel) rfl, gw_at 128 (by decide +kernel) rfl, by decide +kernel⟩
theorem ko_X9_checkRange : KO yX9_checkRange cX9_checkRange 3 none 3 := ⟨gw_at 667 (by decide +kernel) rfl, gw_at 128 (by decide +kernel) rfl, by decide +kernel⟩
theorem ko_X9_checkRequest : KO yX9_checkRequest cX9_checkRequest 2 none 1 := ⟨gw_at 1158 (by decide +kernel) rfl, gw_at 128 (by decide +kernel) rfl, by decide +kernel⟩
theorem ko_X9_checkSameClass : KO yX9_checkSameClass cX9_checkSameClass 3 none 2 := ⟨gw_at 1065 (by decide +kernel) rfl, gw_at 128 (by decide +kernel) rfl, by decide +kernel⟩
theorem ko_X9_checkSite : KO yX9_checkSite cX9_checkSite 2 none 1 := ⟨gw_at 801 (by decide +kernel) rfl, gw_at 128 (by decide +kernel) rfl, by decide +kernel⟩
theorem ko_X9_checkState : KO yX9_checkState cX9_checkState 1 none 1 := ⟨gw_at 1026 (by decide +kernel) rfl, gw_at 128 (by decide +kernel) rfl, by decide +kernel⟩
theorem ko_X9_classCount : KO yX9_classCount cX9_classCount 1 (some .int) 0 := ⟨gw_at 466 (by decide +kernel) rfl, gw_at 128 (by decide +kernel) rfl, by decide +kernel⟩
theorem ko_X9_classOf : KO yX9_classOf cX9_classOf 2 (some .int) 1 := ⟨gw_at 797 (by decide +kernel) rfl, gw_at 128 (by decide +kernel) rfl, by decide +kernel⟩
theorem ko_X9_close : KO yX9_close cX9_close 3 none 2 := ⟨gw_at 1121 (by decide +kernel) rfl, gw_at 128 (by decide +kernel) rfl, by decide +kernel⟩
theorem ko_X9_commonDivisor : KO yX9_commonDivisor cX9_commonDivisor 6 (some .int) 2 := ⟨gw_at 1259 (by decide +kernel) rfl, gw_at 128 (by decide +kernel) rfl, by decide +kernel⟩
theorem ko_X9_copyRow : KO yX9_copyRow cX9_copyRow 2 none 2 := ⟨gw_at 623 (by decide +kernel) rfl, gw_at 128 (by decide +kernel) rfl, by decide +kernel⟩
theorem ko_X9_cost : KO yX9_cost cX9_cost 2 (some .int) 1 := ⟨gw_at 1009 (by decide +kernel) rfl, gw_at 128 (by decide +kernel) rfl, by decide +kernel⟩
theorem ko_X9_dearestBooking : KO yX9_dearestBooking cX9_dearestBooking 4 (some .int) 1 := ⟨gw_at 1288 (by decide +kernel) rfl, gw_at 128 (by decide +kernel) rfl, by decide +kernel⟩
theorem ko_X9_departEarly : KO yX9_departEarly cX9_departEarly 3 (some .int) 1 := ⟨gw_at 1081 (by decide +kernel) rfl, gw_at 128 (by decide +kernel) rfl, by decide +kernel⟩
theorem ko_X9_departure : KO yX9_departure cX9_departure 2 (some .int) 1 := ⟨gw_at 1002 (by decide +kernel) rfl, gw_at 128 (by decide +kernel) rfl, by decide +kernel⟩
theorem ko_X9_endDays : KO yX9_endDays cX9_endDays 3 (some .int) 1 := ⟨gw_at 1101 (by decide +kernel) rfl, gw_at 128 (by decide +kernel) rfl, by decide +kernel⟩
theorem ko_X9_errorCode : KO yX9_errorCode cX9_errorCode 1 (some .int) 0 := ⟨gw_at 651 (by decide +kernel) rfl, gw_at 128 (by decide +kernel) rfl, by decide +kernel⟩
theorem ko_X9_errorPosition : KO yX9_errorPosition cX9_errorPosition 1 (some .int) 0 := ⟨gw_at 655 (by decide +kernel) rfl, gw_at 128 (by decide +kernel) rfl, by decide +kernel⟩
theorem ko_X9_expected : KO yX9_expected cX9_expected 7 (some .int) 3 := ⟨gw_at 1273 (by decide +kernel) rfl, gw_at 128 (by decide +kernel) rfl, by decide +kernel⟩
theorem ko_X9_extend : KO yX9_extend cX9_extend 6 (some .int) 2 := ⟨gw_at 1092 (by decide +kernel) rfl, gw_at 128 (by decide +kernel) rfl, by decide +kernel⟩
theorem ko_X9_fill : KO yX9_fill cX9_fill 4 (some .int) 1 := ⟨gw_at 1180 (by decide +kernel) rfl, gw_at 128 (by decide +kernel) rfl, by decide +kernel⟩
theorem ko_X9_gapNights : KO yX9_gapNights cX9_gapNights 3 (some .int) 2 := ⟨gw_at 1230 (by decide +kernel) rfl, gw_at 128 (by decide +kernel) rfl, by decide +kernel⟩
theorem ko_X9_load : KO yX9_load cX9_load 2 (some .int) 0 := ⟨gw_at 486 (by decide +kernel) rfl, gw_at 128 (by decide +kernel) rfl, by decide +kernel⟩
theorem ko_X9_longestStay : KO yX9_longestStay cX9_longestStay 4 (some .int) 2 := ⟨gw_at 928 (by decide +kernel) rfl, gw_at 128 (by decide +kernel) rfl, by decide +kernel⟩
theorem ko_X9_minimum : KO yX9_minimum cX9_minimum 3 (some .int) 2 := ⟨gw_at 809 (by decide +kernel) rfl, gw_at 128 (by decide +kernel) rfl, by decide +kernel⟩
theorem ko_X9_move : KO yX9_move cX9_move 4 (some .int) 2 := ⟨gw_at 1074 (by decide +kernel) rfl, gw_at 128 (by decide +kernel) rfl, by decide +kernel⟩
theorem ko_X9_nextGap : KO yX9_nextGap cX9_nextGap 4 (some .int) 2 := ⟨gw_at 947 (by decide +kernel) rfl, gw_at 128 (by decide +kernel) rfl, by decide +kernel⟩
theorem ko_X9_obstacle : KO yX9_obstacle cX9_obstacle 4 (some .int) 3 := ⟨gw_at 891 (by decide +kernel) rfl, gw_at 128 (by decide +kernel) rfl, by decide +kernel⟩
theorem ko_X9_occupancyDenominator : KO yX9_occupancyDenominator cX9_occupancyDenominator 7 (some .int) 3 := ⟨gw_at 1266 (by decide +kernel) rfl, gw_at 128 (by decide +kernel) rfl, by decide +kernel⟩
theorem ko_X9_occupancyNumerator : KO yX9_occupancyNumerator cX9_occupancyNumerator 6 (some .int) 3 := ⟨gw_at 1244 (by decide +kernel) rfl, gw_at 128 (by decide +kernel) rfl, by decide +kernel⟩
theorem ko_X9_open : KO yX9_open cX9_open 3 (some .int) 1 := ⟨gw_at 1134 (by decide +kernel) rfl, gw_at 128 (by decide +kernel) rfl, by decide +kernel⟩
theorem ko_X9_orphanNights : KO yX9_orphanNights cX9_orphanNights 3 (some .int) 2 := ⟨gw_at 1237 (by decide +kernel) rfl, gw_at 128 (by decide +kernel) rfl, by decide +kernel⟩
theorem ko_X9_planSite : KO yX9_planSite cX9_planSite 3 (some .int) 2 := ⟨gw_at 1200 (by decide +kernel) rfl, gw_at 128 (by decide +kernel) rfl, by decide +kernel⟩
theorem ko_X9_price : KO yX9_price cX9_price 3 (some .int) 2 := ⟨gw_at 824 (by decide +kernel) rfl, gw_at 128 (by decide +kernel) rfl, by decide +kernel⟩
theorem ko_X9_released : KO yX9_released cX9_released 3 (some .int) 2 := ⟨gw_at 850 (by decide +kernel) rfl, gw_at 128 (by decide +kernel) rfl, by decide +kernel⟩
theorem ko_X9_request : KO yX9_request cX9_request 4 (some .int) 3 := ⟨gw_at 1142 (by decide +kernel) rfl, gw_at 128 (by decide +kernel) rfl, by decide +kernel⟩
theorem ko_X9_requestState : KO yX9_requestState cX9_requestState 2 (some .int) 1 := ⟨gw_at 1154 (by decide +kernel) rfl, gw_at 128 (by decide +kernel) rfl, by decide +kernel⟩
theorem ko_X9_restore : KO yX9_restore cX9_restore 3 none 1 := ⟨gw_at 1328 (by decide +kernel) rfl, gw_at 128 (by decide +kernel) rfl, by decide +kernel⟩
theorem ko_X9_revenue : KO yX9_revenue cX9_revenue 3 (some .int) 0 := ⟨gw_at 482 (by decide +kernel) rfl, gw_at 128 (by decide +kernel) rfl, by decide +kernel⟩
theorem ko_X9_save : KO yX9_save cX9_save 3 none 1 := ⟨gw_at 1321 (by decide +kernel) rfl, gw_at 128 (by decide +kernel) rfl, by decide +kernel⟩
theorem ko_X9_siteCount : KO yX9_siteCount cX9_siteCount 1 (some .int) 0 := ⟨gw_at 470 (by decide +kernel) rfl, gw_at 128 (by decide +kernel) rfl, by decide +kernel⟩
theorem ko_X9_siteOf : KO yX9_siteOf cX9_siteOf 2 (some .int) 1 := ⟨gw_at 1016 (by decide +kernel) rfl, gw_at 128 (by decide +kernel) rfl, by decide +kernel⟩
theorem ko_X9_taken : KO yX9_taken cX9_taken 3 (some .int) 2 := ⟨gw_at 866 (by decide +kernel) rfl, gw_at 128 (by decide +kernel) rfl, by decide +kernel⟩
theorem ko_X9_today : KO yX9_today cX9_today 1 (some .int) 0 := ⟨gw_at 478 (by decide +kernel) rfl, gw_at 128 (by decide +kernel) rfl, by decide +kernel⟩
theorem ko_X9_truncateText : KO yX9_truncateText cX9_truncateText 2 (some .int) 1 := ⟨gw_at 1314 (by decide +kernel) rfl, gw_at 128 (by decide +kernel) rfl, by decide +kernel⟩
theorem ko_X9_vacantSite : KO yX9_vacantSite cX9_vacantSite 2 (some .int) 1 := ⟨gw_at 1038 (by decide +kernel) rfl, gw_at 128 (by decide +kernel) rfl, by decide +kernel⟩
theorem ko_X9_withdraw : KO yX9_withdraw cX9_withdraw 2 none 1 := ⟨gw_at 1173 (by decide +kernel) rfl, gw_at 128 (by decide +kernel) rfl, by decide +kernel⟩
theorem ko_X0_init : KO yX0_init cX0_init 1 none 0 := ⟨gw_at 244 (by decide +kernel) rfl, gw_at 133 (by decide +kernel) rfl, by decide +kernel⟩
theorem ko_X0_add : KO yX0_add cX0_add 5 (some .int) 4 := ⟨gw_at 969 (by decide +kernel) rfl, gw_at 133 (by decide +kernel) rfl, by decide +kernel⟩
theorem ko_X0_copyFrom : KO yX0_copyFrom cX0_copyFrom 2 none 1 := ⟨gw_at 641 (by decide +kernel) rfl, gw_at 133 (by decide +kernel) rfl, by decide +kernel⟩
theorem ko_X0_endNight : KO yX0_endNight cX0_endNight 3 none 1 := ⟨gw_at 1110 (by decide +kernel) rfl, gw_at 133 (by decide +kernel) rfl, by decide +kernel⟩
theorem ko_X0_isActive : KO yX0_isActive cX0_isActive 2 (some .boolean) 1 := ⟨gw_at 874 (by decide +kernel) rfl, gw_at 133 (by decide +kernel) rfl, by decide +kernel⟩
theorem ko_X0_isDearer : KO yX0_isDearer cX0_isDearer 7 (some .boolean) 2 := ⟨gw_at 1292 (by decide +kernel) rfl, gw_at 133 (by decide +kernel) rfl, by decide +kernel⟩
theorem ko_X0_isFull : KO yX0_isFull cX0_isFull 1 (some .boolean) 0 := ⟨gw_at 959 (by decide +kernel) rfl, gw_at 133 (by decide +kernel) rfl, by decide +kernel⟩
theorem ko_X0_isSomebodyAt : KO yX0_isSomebodyAt cX0_isSomebodyAt 3 (some .boolean) 1 := ⟨gw_at 1054 (by decide +kernel) rfl, gw_at 133 (by decide +kernel) rfl, by decide +kernel⟩
theorem ko_X0_isToArrive : KO yX0_isToArrive cX0_isToArrive 3 (some .boolean) 2 := ⟨gw_at 1281 (by decide +kernel) rfl, gw_at 133 (by decide +kernel) rfl, by decide +kernel⟩
theorem ko_X0_isToDepart : KO yX0_isToDepart cX0_isToDepart 3 (some .boolean) 2 := ⟨gw_at 1277 (by decide +kernel) rfl, gw_at 133 (by decide +kernel) rfl, by decide +kernel⟩
theorem ko_X0_takenOn : KO yX0_takenOn cX0_takenOn 5 (some .int) 2 := ⟨gw_at 870 (by decide +kernel) rfl, gw_at 133 (by decide +kernel) rfl, by decide +kernel⟩
theorem ko_X1_init : KO yX1_init cX1_init 1 none 0 := ⟨gw_at 164 (by decide +kernel) rfl, gw_at 129 (by decide +kernel) rfl, by decide +kernel⟩
theorem ko_X1_addBooking : KO yX1_addBooking cX1_addBooking 6 (some .int) 3 := ⟨gw_at 964 (by decide +kernel) rfl, gw_at 129 (by decide +kernel) rfl, by decide +kernel⟩
theorem ko_X1_bookRequest : KO yX1_bookRequest cX1_bookRequest 3 none 1 := ⟨gw_at 1192 (by decide +kernel) rfl, gw_at 129 (by decide +kernel) rfl, by decide +kernel⟩
theorem ko_X1_canSpare : KO yX1_canSpare cX1_canSpare 4 (some .boolean) 2 := ⟨gw_at 1125 (by decide +kernel) rfl, gw_at 129 (by decide +kernel) rfl, by decide +kernel⟩
theorem ko_X1_capacityInAll : KO yX1_capacityInAll cX1_capacityInAll 6 (some .int) 3 := ⟨gw_at 1256 (by decide +kernel) rfl, gw_at 129 (by decide +kernel) rfl, by decide +kernel⟩
theorem ko_X1_capacityOn : KO yX1_capacityOn cX1_capacityOn 3 (some .int) 2 := ⟨gw_at 839 (by decide +kernel) rfl, gw_at 129 (by decide +kernel) rfl, by decide +kernel⟩
theorem ko_X1_clear : KO yX1_clear cX1_clear 1 none 0 := ⟨gw_at 497 (by decide +kernel) rfl, gw_at 129 (by decide +kernel) rfl, by decide +kernel⟩
theorem ko_X1_copyFrom : KO yX1_copyFrom cX1_copyFrom 2 none 1 := ⟨gw_at 616 (by decide +kernel) rfl, gw_at 129 (by decide +kernel) rfl, by decide +kernel⟩
theorem ko_X1_endToday : KO yX1_endToday cX1_endToday 1 none 0 := ⟨gw_at 1106 (by decide +kernel) rfl, gw_at 129 (by decide +kernel) rfl, by decide +kernel⟩
theorem ko_X1_isVacant : KO yX1_isVacant cX1_isVacant 2 (some .boolean) 1 := ⟨gw_at 1046 (by decide +kernel) rfl, gw_at 129 (by decide +kernel) rfl, by decide +kernel⟩
theorem ko_X1_lowestVacantSite : KO yX1_lowestVacantSite cX1_lowestVacantSite 3 (some .int) 1 := ⟨gw_at 1042 (by decide +kernel) rfl, gw_at 129 (by decide +kernel) rfl, by decide +kernel⟩
theorem ko_X1_refundOfCancelling : KO yX1_refundOfCancelling cX1_refundOfCancelling 3 (some .int) 1 := ⟨gw_at 1031 (by decide +kernel) rfl, gw_at 129 (by decide +kernel) rfl, by decide +kernel⟩
theorem ko_X1_refundOfDeparting : KO yX1_refundOfDeparting cX1_refundOfDeparting 3 (some .int) 1 := ⟨gw_at 1085 (by decide +kernel) rfl, gw_at 129 (by decide +kernel) rfl, by decide +kernel⟩
theorem ko_X1_releasedOn : KO yX1_releasedOn cX1_releasedOn 3 (some .int) 2 := ⟨gw_at 854 (by decide +kernel) rfl, gw_at 129 (by decide +kernel) rfl, by decide +kernel⟩
theorem ko_X1_takenInAll : KO yX1_takenInAll cX1_takenInAll 6 (some .int) 3 := ⟨gw_at 1252 (by decide +kernel) rfl, gw_at 129 (by decide +kernel) rfl, by decide +kernel⟩
theorem ko_X2_init : KO yX2_init cX2_init 1 none 0 := ⟨gw_at 170 (by decide +kernel) rfl, gw_at 130 (by decide +kernel) rfl, by decide +kernel⟩
theorem ko_X2_add : KO yX2_add cX2_add 4 (some .int) 3 := ⟨gw_at 585 (by decide +kernel) rfl, gw_at 130 (by decide +kernel) rfl, by decide +kernel⟩
theorem ko_X2_copyFrom : KO yX2_copyFrom cX2_copyFrom 2 none 1 := ⟨gw_at 620 (by decide +kernel) rfl, gw_at 130 (by decide +kernel) rfl, by decide +kernel⟩
theorem ko_X2_limitAhead : KO yX2_limitAhead cX2_limitAhead 3 (some .int) 2 := ⟨gw_at 858 (by decide +kernel) rfl, gw_at 130 (by decide +kernel) rfl, by decide +kernel⟩
theorem ko_X2_windowOf : KO yX2_windowOf cX2_windowOf 2 (some .int) 1 := ⟨gw_at 914 (by decide +kernel) rfl, gw_at 130 (by decide +kernel) rfl, by decide +kernel⟩
theorem ko_X3_init : KO yX3_init cX3_init 2 none 1 := ⟨gw_at 380 (by decide +kernel) rfl, gw_at 136 (by decide +kernel) rfl, by decide +kernel⟩
theorem ko_X3_chooseSite : KO yX3_chooseSite cX3_chooseSite 7 (some .int) 3 := ⟨gw_at 1217 (by decide +kernel) rfl, gw_at 136 (by decide +kernel) rfl, by decide +kernel⟩
theorem ko_X3_countGap : KO yX3_countGap cX3_countGap 5 none 3 := ⟨gw_at 1222 (by decide +kernel) rfl, gw_at 136 (by decide +kernel) rfl, by decide +kernel⟩
theorem ko_X3_make : KO yX3_make cX3_make 6 none 2 := ⟨gw_at 1204 (by decide +kernel) rfl, gw_at 136 (by decide +kernel) rfl, by decide +kernel⟩
theorem ko_X3_nextToPlace : KO yX3_nextToPlace cX3_nextToPlace 5 (some .int) 1 := ⟨gw_at 1213 (by decide +kernel) rfl, gw_at 136 (by decide +kernel) rfl, by decide +kernel⟩
theorem ko_X3_placeStaying : KO yX3_placeStaying cX3_placeStaying 5 none 1 := ⟨gw_at 1209 (by decide +kernel) rfl, gw_at 136 (by decide +kernel) rfl, by decide +kernel⟩
theorem ko_X4_init : KO yX4_init cX4_init 1 none 0 := ⟨gw_at 290 (by decide +kernel) rfl, gw_at 134 (by decide +kernel) rfl, by decide +kernel⟩
theorem ko_X4_add : KO yX4_add cX4_add 4 (some .int) 3 := ⟨gw_at 1147 (by decide +kernel) rfl, gw_at 134 (by decide +kernel) rfl, by decide +kernel⟩
theorem ko_X4_copyFrom : KO yX4_copyFrom cX4_copyFrom 2 none 1 := ⟨gw_at 646 (by decide +kernel) rfl, gw_at 134 (by decide +kernel) rfl, by decide +kernel⟩
theorem ko_X4_expireBefore : KO yX4_expireBefore cX4_expireBefore 3 none 1 := ⟨gw_at 1114 (by decide +kernel) rfl, gw_at 134 (by decide +kernel) rfl, by decide +kernel⟩
theorem ko_X4_isBetter : KO yX4_isBetter cX4_isBetter 3 (some .boolean) 2 := ⟨gw_at 1188 (by decide +kernel) rfl, gw_at 134 (by decide +kernel) rfl, by decide +kernel⟩
theorem ko_X5_init : KO yX5_init cX5_init 1 none 0 := ⟨gw_at 216 (by decide +kernel) rfl, gw_at 132 (by decide +kernel) rfl, by decide +kernel⟩
theorem ko_X5_add : KO yX5_add cX5_add 6 (some .int) 5 := ⟨gw_at 607 (by decide +kernel) rfl, gw_at 132 (by decide +kernel) rfl, by decide +kernel⟩
theorem ko_X5_copyFrom : KO yX5_copyFrom cX5_copyFrom 2 none 1 := ⟨gw_at 636 (by decide +kernel) rfl, gw_at 132 (by decide +kernel) rfl, by decide +kernel⟩
theorem ko_X5_latestWith : KO yX5_latestWith cX5_latestWith 4 (some .int) 2 := ⟨gw_at 817 (by decide +kernel) rfl, gw_at 132 (by decide +kernel) rfl, by decide +kernel⟩
theorem ko_X5_minimumOn : KO yX5_minimumOn cX5_minimumOn 4 (some .int) 2 := ⟨gw_at 813 (by decide +kernel) rfl, gw_at 132 (by decide +kernel) rfl, by decide +kernel⟩
theorem ko_X5_priceOfNights : KO yX5_priceOfNights cX5_priceOfNights 6 (some .int) 3 := ⟨gw_at 939 (by decide +kernel) rfl, gw_at 132 (by decide +kernel) rfl, by decide +kernel⟩
theorem ko_X5_priceOn : KO yX5_priceOn cX5_priceOn 4 (some .int) 2 := ⟨gw_at 828 (by decide +kernel) rfl, gw_at 132 (by decide +kernel) rfl, by decide +kernel⟩
theorem ko_X6_init : KO yX6_init cX6_init 3 none 2 := ⟨gw_at 405 (by decide +kernel) rfl, gw_at 137 (by decide +kernel) rfl, by decide +kernel⟩
theorem ko_X6_fail : KO yX6_fail cX6_fail 2 (some .boolean) 1 := ⟨gw_at 573 (by decide +kernel) rfl, gw_at 137 (by decide +kernel) rfl, by decide +kernel⟩
theorem ko_X6_failAt : KO yX6_failAt cX6_failAt 3 (some .boolean) 2 := ⟨gw_at 577 (by decide +kernel) rfl, gw_at 137 (by decide +kernel) rfl, by decide +kernel⟩
theorem ko_X6_isDigit : KO yX6_isDigit cX6_isDigit 1 (some .boolean) 1 := ⟨gw_at 507 (by decide +kernel) rfl, gw_at 137 (by decide +kernel) rfl, by decide +kernel⟩
theorem ko_X6_isLetter : KO yX6_isLetter cX6_isLetter 1 (some .boolean) 1 := ⟨gw_at 504 (by decide +kernel) rfl, gw_at 137 (by decide +kernel) rfl, by decide +kernel⟩
theorem ko_X6_isWord : KO yX6_isWord cX6_isWord 3 (some .boolean) 1 := ⟨gw_at 517 (by decide +kernel) rfl, gw_at 137 (by decide +kernel) rfl, by decide +kernel⟩
theorem ko_X6_read : KO yX6_read cX6_read 3 (some .int) 1 := ⟨gw_at 490 (by decide +kernel) rfl, gw_at 137 (by decide +kernel) rfl, by decide +kernel⟩
theorem ko_X6_readClass : KO yX6_readClass cX6_readClass 4 (some .boolean) 0 := ⟨gw_at 569 (by decide +kernel) rfl, gw_at 137 (by decide +kernel) rfl, by decide +kernel⟩
theorem ko_X6_readDay : KO yX6_readDay cX6_readDay 2 (some .boolean) 0 := ⟨gw_at 612 (by decide +kernel) rfl, gw_at 137 (by decide +kernel) rfl, by decide +kernel⟩
theorem ko_X6_readNumber : KO yX6_readNumber cX6_readNumber 4 (some .int) 2 := ⟨gw_at 581 (by decide +kernel) rfl, gw_at 137 (by decide +kernel) rfl, by decide +kernel⟩
theorem ko_X6_readSeason : KO yX6_readSeason cX6_readSeason 6 (some .boolean) 0 := ⟨gw_at 603 (by decide +kernel) rfl, gw_at 137 (by decide +kernel) rfl, by decide +kernel⟩
theorem ko_X6_readSemicolon : KO yX6_readSemicolon cX6_readSemicolon 1 (some .boolean) 0 := ⟨gw_at 589 (by decide +kernel) rfl, gw_at 137 (by decide +kernel) rfl, by decide +kernel⟩
theorem ko_X6_readSites : KO yX6_readSites cX6_readSites 4 (some .boolean) 0 := ⟨gw_at 594 (by decide +kernel) rfl, gw_at 137 (by decide +kernel) rfl, by decide +kernel⟩
theorem ko_X6_readStatement : KO yX6_readStatement cX6_readStatement 1 (some .boolean) 0 := ⟨gw_at 512 (by decide +kernel) rfl, gw_at 137 (by decide +kernel) rfl, by decide +kernel⟩
theorem ko_X6_step : KO yX6_step cX6_step 1 none 0 := ⟨gw_at 501 (by decide +kernel) rfl, gw_at 137 (by decide +kernel) rfl, by decide +kernel⟩
theorem ko_X7_init : KO yX7_init cX7_init 1 none 0 := ⟨gw_at 193 (by decide +kernel) rfl, gw_at 131 (by decide +kernel) rfl, by decide +kernel⟩
theorem ko_X7_add : KO yX7_add cX7_add 2 (some .int) 1 := ⟨gw_at 598 (by decide +kernel) rfl, gw_at 131 (by decide +kernel) rfl, by decide +kernel⟩
theorem ko_X7_copyFrom : KO yX7_copyFrom cX7_copyFrom 2 none 1 := ⟨gw_at 631 (by decide +kernel) rfl, gw_at 131 (by decide +kernel) rfl, by decide +kernel⟩
theorem ko_X7_countOpen : KO yX7_countOpen cX7_countOpen 5 (some .int) 2 := ⟨gw_at 843 (by decide +kernel) rfl, gw_at 131 (by decide +kernel) rfl, by decide +kernel⟩
theorem ko_X7_isClosed : KO yX7_isClosed cX7_isClosed 3 (some .boolean) 2 := ⟨gw_at 1050 (by decide +kernel) rfl, gw_at 131 (by decide +kernel) rfl, by decide +kernel⟩
theorem ko_X8_init : KO yX8_init cX8_init 2 none 1 := ⟨gw_at 364 (by decide +kernel) rfl, gw_at 135 (by decide +kernel) rfl, by decide +kernel⟩
theorem ko_X8_isFree : KO yX8_isFree cX8_isFree 4 (some .boolean) 1 := ⟨gw_at 918 (by decide +kernel) rfl, gw_at 135 (by decide +kernel) rfl, by decide +kernel⟩
theorem ko_X8_leavesWindow : KO yX8_leavesWindow cX8_leavesWindow 4 (some .boolean) 2 := ⟨gw_at 910 (by decide +kernel) rfl, gw_at 135 (by decide +kernel) rfl, by decide +kernel⟩
theorem ko_X8_obstacleToNights : KO yX8_obstacleToNights cX8_obstacleToNights 4 (some .int) 2 := ⟨gw_at 906 (by decide +kernel) rfl, gw_at 135 (by decide +kernel) rfl, by decide +kernel⟩
theorem ko_X8_obstacleToStay : KO yX8_obstacleToStay cX8_obstacleToStay 5 (some .int) 2 := ⟨gw_at 902 (by decide +kernel) rfl, gw_at 135 (by decide +kernel) rfl, by decide +kernel⟩
theorem ko_X8_turnTo : KO yX8_turnTo cX8_turnTo 2 none 1 := ⟨gw_at 895 (by decide +kernel) rfl, gw_at 135 (by decide +kernel) rfl, by decide +kernel⟩
theorem ko_X10_init : KO yX10_init cX10_init 1 none 0 := ⟨gw_at 1334 (by decide +kernel) rfl, gw_at 138 (by decide +kernel) rfl, by decide +kernel⟩
theorem ko_X10_addClass : KO yX10_addClass cX10_addClass 4 (some .int) 3 := ⟨gw_at 1402 (by decide +kernel) rfl, gw_at 138 (by decide +kernel) rfl, by decide +kernel⟩
theorem ko_X10_addSeason : KO yX10_addSeason cX10_addSeason 6 (some .int) 5 := ⟨gw_at 1429 (by decide +kernel) rfl, gw_at 138 (by decide +kernel) rfl, by decide +kernel⟩
theorem ko_X10_addSite : KO yX10_addSite cX10_addSite 2 (some .int) 1 := ⟨gw_at 1417 (by decide +kernel) rfl, gw_at 138 (by decide +kernel) rfl, by decide +kernel⟩
theorem ko_X10_advanceToken : KO yX10_advanceToken cX10_advanceToken 1 none 0 := ⟨gw_at 1839 (by decide +kernel) rfl, gw_at 138 (by decide +kernel) rfl, by decide +kernel⟩
theorem ko_X10_appendBooking : KO yX10_appendBooking cX10_appendBooking 5 (some .int) 3 := ⟨gw_at 1574 (by decide +kernel) rfl, gw_at 138 (by decide +kernel) rfl, by decide +kernel⟩
theorem ko_X10_appendClass : KO yX10_appendClass cX10_appendClass 5 (some .int) 3 := ⟨gw_at 1413 (by decide +kernel) rfl, gw_at 138 (by decide +kernel) rfl, by decide +kernel⟩
theorem ko_X10_appendRequest : KO yX10_appendRequest cX10_appendRequest 5 (some .int) 3 := ⟨gw_at 1690 (by decide +kernel) rfl, gw_at 138 (by decide +kernel) rfl, by decide +kernel⟩
theorem ko_X10_appendSeason : KO yX10_appendSeason cX10_appendSeason 7 (some .int) 5 := ⟨gw_at 1436 (by decide +kernel) rfl, gw_at 138 (by decide +kernel) rfl, by decide +kernel⟩
theorem ko_X10_appendSite : KO yX10_appendSite cX10_appendSite 3 (some .int) 1 := ⟨gw_at 1425 (by decide +kernel) rfl, gw_at 138 (by decide +kernel) rfl, by decide +kernel⟩
theorem ko_X10_appendText : KO yX10_appendText cX10_appendText 3 (some .int) 1 := ⟨gw_at 1789 (by decide +kernel) rfl, gw_at 138 (by decide +kernel) rfl, by decide +kernel⟩
theorem ko_X10_arrival : KO yX10_arrival cX10_arrival 2 (some .int) 1 := ⟨gw_at 1602 (by decide +kernel) rfl, gw_at 138 (by decide +kernel) rfl, by decide +kernel⟩
theorem ko_X10_available : KO yX10_available cX10_available 3 (some .int) 2 := ⟨gw_at 1529 (by decide +kernel) rfl, gw_at 138 (by decide +kernel) rfl, by decide +kernel⟩
theorem ko_X10_availableOf : KO yX10_availableOf cX10_availableOf 3 (some .int) 2 := ⟨gw_at 1533 (by decide +kernel) rfl, gw_at 138 (by decide +kernel) rfl, by decide +kernel⟩
theorem ko_X10_book : KO yX10_book cX10_book 4 (some .int) 3 := ⟨gw_at 1570 (by decide +kernel) rfl, gw_at 138 (by decide +kernel) rfl, by decide +kernel⟩
theorem ko_X10_booking : KO yX10_booking cX10_booking 3 (some .int) 2 := ⟨gw_at 1521 (by decide +kernel) rfl, gw_at 138 (by decide +kernel) rfl, by decide +kernel⟩
theorem ko_X10_bookingClass : KO yX10_bookingClass cX10_bookingClass 2 (some .int) 1 := ⟨gw_at 1598 (by decide +kernel) rfl, gw_at 138 (by decide +kernel) rfl, by decide +kernel⟩
theorem ko_X10_bookingCount : KO yX10_bookingCount cX10_bookingCount 1 (some .int) 0 := ⟨gw_at 1582 (by decide +kernel) rfl, gw_at 138 (by decide +kernel) rfl, by decide +kernel⟩
theorem ko_X10_bookingField : KO yX10_bookingField cX10_bookingField 3 (some .int) 2 := ⟨gw_at 1590 (by decide +kernel) rfl, gw_at 138 (by decide +kernel) rfl, by decide +kernel⟩
theorem ko_X10_bookingOf : KO yX10_bookingOf cX10_bookingOf 2 (some .int) 1 := ⟨gw_at 1702 (by decide +kernel) rfl, gw_at 138 (by decide +kernel) rfl, by decide +kernel⟩
theorem ko_X10_bookingState : KO yX10_bookingState cX10_bookingState 2 (some .int) 1 := ⟨gw_at 1586 (by decide +kernel) rfl, gw_at 138 (by decide +kernel) rfl, by decide +kernel⟩
theorem ko_X10_busiestNight : KO yX10_busiestNight cX10_busiestNight 6 (some .int) 3 := ⟨gw_at 1781 (by decide +kernel) rfl, gw_at 138 (by decide +kernel) rfl, by decide +kernel⟩
theorem ko_X10_byteAt : KO yX10_byteAt cX10_byteAt 2 (some .int) 1 := ⟨gw_at 1808 (by decide +kernel) rfl, gw_at 138 (by decide +kernel) rfl, by decide +kernel⟩
theorem ko_X10_cancel : KO yX10_cancel cX10_cancel 5 (some .int) 1 := ⟨gw_at 1618 (by decide +kernel) rfl, gw_at 138 (by decide +kernel) rfl, by decide +kernel⟩
theorem ko_X10_capacity : KO yX10_capacity cX10_capacity 3 (some .int) 2 := ⟨gw_at 1484 (by decide +kernel) rfl, gw_at 138 (by decide +kernel) rfl, by decide +kernel⟩
theorem ko_X10_capacityOf : KO yX10_capacityOf cX10_capacityOf 5 (some .int) 2 := ⟨gw_at 1488 (by decide +kernel) rfl, gw_at 138 (by decide +kernel) rfl, by decide +kernel⟩
theorem ko_X10_cheapestArrival : KO yX10_cheapestArrival cX10_cheapestArrival 9 (some .int) 4 := ⟨gw_at 1558 (by decide +kernel) rfl, gw_at 138 (by decide +kernel) rfl, by decide +kernel⟩
theorem ko_X10_checkIn : KO yX10_checkIn cX10_checkIn 5 (some .int) 2 := ⟨gw_at 1638 (by decide +kernel) rfl, gw_at 138 (by decide +kernel) rfl, by decide +kernel⟩
theorem ko_X10_classCount : KO yX10_classCount cX10_classCount 1 (some .int) 0 := ⟨gw_at 1440 (by decide +kernel) rfl, gw_at 138 (by decide +kernel) rfl, by decide +kernel⟩
theorem ko_X10_classOf : KO yX10_classOf cX10_classOf 2 (some .int) 1 := ⟨gw_at 1448 (by decide +kernel) rfl, gw_at 138 (by decide +kernel) rfl, by decide +kernel⟩
theorem ko_X10_close : KO yX10_close cX10_close 3 none 2 := ⟨gw_at 1674 (by decide +kernel) rfl, gw_at 138 (by decide +kernel) rfl, by decide +kernel⟩
theorem ko_X10_commonDivisor : KO yX10_commonDivisor cX10_commonDivisor 5 (some .int) 2 := ⟨gw_at 1761 (by decide +kernel) rfl, gw_at 138 (by decide +kernel) rfl, by decide +kernel⟩
theorem ko_X10_copy : KO yX10_copy cX10_copy 5 none 4 := ⟨gw_at 1800 (by decide +kernel) rfl, gw_at 138 (by decide +kernel) rfl, by decide +kernel⟩
theorem ko_X10_cost : KO yX10_cost cX10_cost 2 (some .int) 1 := ⟨gw_at 1610 (by decide +kernel) rfl, gw_at 138 (by decide +kernel) rfl, by decide +kernel⟩
theorem ko_X10_dearestBooking : KO yX10_dearestBooking cX10_dearestBooking 5 (some .int) 1 := ⟨gw_at 1773 (by decide +kernel) rfl, gw_at 138 (by decide +kernel) rfl, by decide +kernel⟩
theorem ko_X10_departEarly : KO yX10_departEarly cX10_departEarly 5 (some .int) 1 := ⟨gw_at 1646 (by decide +kernel) rfl, gw_at 138 (by decide +kernel) rfl, by decide +kernel⟩
theorem ko_X10_departure : KO yX10_departure cX10_departure 2 (some .int) 1 := ⟨gw_at 1606 (by decide +kernel) rfl, gw_at 138 (by decide +kernel) rfl, by decide +kernel⟩
theorem ko_X10_endDay : KO yX10_endDay cX10_endDay 5 none 0 := ⟨gw_at 1658 (by decide +kernel) rfl, gw_at 138 (by decide +kernel) rfl, by decide +kernel⟩
theorem ko_X10_endDays : KO yX10_endDays cX10_endDays 3 (some .int) 1 := ⟨gw_at 1654 (by decide +kernel) rfl, gw_at 138 (by decide +kernel) rfl, by decide +kernel⟩
theorem ko_X10_errorCode : KO yX10_errorCode cX10_errorCode 1 (some .int) 0 := ⟨gw_at 1858 (by decide +kernel) rfl, gw_at 138 (by decide +kernel) rfl, by decide +kernel⟩
theorem ko_X10_errorPosition : KO yX10_errorPosition cX10_errorPosition 1 (some .int) 0 := ⟨gw_at 1862 (by decide +kernel) rfl, gw_at 138 (by decide +kernel) rfl, by decide +kernel⟩
theorem ko_X10_expected : KO yX10_expected cX10_expected 9 (some .int) 3 := ⟨gw_at 1769 (by decide +kernel) rfl, gw_at 138 (by decide +kernel) rfl, by decide +kernel⟩
theorem ko_X10_extend : KO yX10_extend cX10_extend 6 (some .int) 2 := ⟨gw_at 1650 (by decide +kernel) rfl, gw_at 138 (by decide +kernel) rfl, by decide +kernel⟩
theorem ko_X10_fail : KO yX10_fail cX10_fail 2 (some .int) 1 := ⟨gw_at 1409 (by decide +kernel) rfl, gw_at 138 (by decide +kernel) rfl, by decide +kernel⟩
theorem ko_X10_fill : KO yX10_fill cX10_fill 5 (some .int) 1 := ⟨gw_at 1710 (by decide +kernel) rfl, gw_at 138 (by decide +kernel) rfl, by decide +kernel⟩
theorem ko_X10_freeSite : KO yX10_freeSite cX10_freeSite 7 (some .int) 2 := ⟨gw_at 1738 (by decide +kernel) rfl, gw_at 138 (by decide +kernel) rfl, by decide +kernel⟩
theorem ko_X10_gapNights : KO yX10_gapNights cX10_gapNights 3 (some .int) 2 := ⟨gw_at 1742 (by decide +kernel) rfl, gw_at 138 (by decide +kernel) rfl, by decide +kernel⟩
theorem ko_X10_hasSpareSite : KO yX10_hasSpareSite cX10_hasSpareSite 5 (some .boolean) 2 := ⟨gw_at 1678 (by decide +kernel) rfl, gw_at 138 (by decide +kernel) rfl, by decide +kernel⟩
theorem ko_X10_isActive : KO yX10_isActive cX10_isActive 2 (some .boolean) 1 := ⟨gw_at 1525 (by decide +kernel) rfl, gw_at 138 (by decide +kernel) rfl, by decide +kernel⟩
theorem ko_X10_isAhead : KO yX10_isAhead cX10_isAhead 3 (some .boolean) 2 := ⟨gw_at 1718 (by decide +kernel) rfl, gw_at 138 (by decide +kernel) rfl, by decide +kernel⟩
theorem ko_X10_isBetween : KO yX10_isBetween cX10_isBetween 3 (some .boolean) 3 := ⟨gw_at 1405 (by decide +kernel) rfl, gw_at 138 (by decide +kernel) rfl, by decide +kernel⟩
theorem ko_X10_isBooking : KO yX10_isBooking cX10_isBooking 2 (some .boolean) 1 := ⟨gw_at 1594 (by decide +kernel) rfl, gw_at 138 (by decide +kernel) rfl, by decide +kernel⟩
theorem ko_X10_isClass : KO yX10_isClass cX10_isClass 2 (some .boolean) 1 := ⟨gw_at 1421 (by decide +kernel) rfl, gw_at 138 (by decide +kernel) rfl, by decide +kernel⟩
theorem ko_X10_isDay : KO yX10_isDay cX10_isDay 1 (some .boolean) 1 := ⟨gw_at 1432 (by decide +kernel) rfl, gw_at 138 (by decide +kernel) rfl, by decide +kernel⟩
theorem ko_X10_isDigit : KO yX10_isDigit cX10_isDigit 1 (some .boolean) 1 := ⟨gw_at 1816 (by decide +kernel) rfl, gw_at 138 (by decide +kernel) rfl, by decide +kernel⟩
theorem ko_X10_isLetter : KO yX10_isLetter cX10_isLetter 1 (some .boolean) 1 := ⟨gw_at 1811 (by decide +kernel) rfl, gw_at 138 (by decide +kernel) rfl, by decide +kernel⟩
theorem ko_X10_isNight : KO yX10_isNight cX10_isNight 2 (some .boolean) 1 := ⟨gw_at 1496 (by decide +kernel) rfl, gw_at 138 (by decide +kernel) rfl, by decide +kernel⟩
theorem ko_X10_isOccupied : KO yX10_isOccupied cX10_isOccupied 4 (some .boolean) 1 := ⟨gw_at 1634 (by decide +kernel) rfl, gw_at 138 (by decide +kernel) rfl, by decide +kernel⟩
theorem ko_X10_isOpenOn : KO yX10_isOpenOn cX10_isOpenOn 3 (some .boolean) 2 := ⟨gw_at 1492 (by decide +kernel) rfl, gw_at 138 (by decide +kernel) rfl, by decide +kernel⟩
theorem ko_X10_isRequest : KO yX10_isRequest cX10_isRequest 2 (some .boolean) 1 := ⟨gw_at 1698 (by decide +kernel) rfl, gw_at 138 (by decide +kernel) rfl, by decide +kernel⟩
theorem ko_X10_isSite : KO yX10_isSite cX10_isSite 2 (some .boolean) 1 := ⟨gw_at 1452 (by decide +kernel) rfl, gw_at 138 (by decide +kernel) rfl, by decide +kernel⟩
theorem ko_X10_isStay : KO yX10_isStay cX10_isStay 1 (some .boolean) 1 := ⟨gw_at 1541 (by decide +kernel) rfl, gw_at 138 (by decide +kernel) rfl, by decide +kernel⟩
theorem ko_X10_isVacant : KO yX10_isVacant cX10_isVacant 2 (some .boolean) 1 := ⟨gw_at 1630 (by decide +kernel) rfl, gw_at 138 (by decide +kernel) rfl, by decide +kernel⟩
theorem ko_X10_isWord : KO yX10_isWord cX10_isWord 5 (some .boolean) 1 := ⟨gw_at 1825 (by decide +kernel) rfl, gw_at 138 (by decide +kernel) rfl, by decide +kernel⟩
theorem ko_X10_load : KO yX10_load cX10_load 2 (some .int) 0 := ⟨gw_at 1797 (by decide +kernel) rfl, gw_at 138 (by decide +kernel) rfl, by decide +kernel⟩
theorem ko_X10_longestStay : KO yX10_longestStay cX10_longestStay 5 (some .int) 2 := ⟨gw_at 1554 (by decide +kernel) rfl, gw_at 138 (by decide +kernel) rfl, by decide +kernel⟩
theorem ko_X10_minimum : KO yX10_minimum cX10_minimum 3 (some .int) 2 := ⟨gw_at 1460 (by decide +kernel) rfl, gw_at 138 (by decide +kernel) rfl, by decide +kernel⟩
theorem ko_X10_minimumOf : KO yX10_minimumOf cX10_minimumOf 4 (some .int) 2 := ⟨gw_at 1464 (by decide +kernel) rfl, gw_at 138 (by decide +kernel) rfl, by decide +kernel⟩
theorem ko_X10_move : KO yX10_move cX10_move 4 (some .int) 2 := ⟨gw_at 1642 (by decide +kernel) rfl, gw_at 138 (by decide +kernel) rfl, by decide +kernel⟩
theorem ko_X10_nextBooking : KO yX10_nextBooking cX10_nextBooking 5 (some .int) 1 := ⟨gw_at 1734 (by decide +kernel) rfl, gw_at 138 (by decide +kernel) rfl, by decide +kernel⟩
theorem ko_X10_nextGap : KO yX10_nextGap cX10_nextGap 4 (some .int) 2 := ⟨gw_at 1566 (by decide +kernel) rfl, gw_at 138 (by decide +kernel) rfl, by decide +kernel⟩
theorem ko_X10_nextRequest : KO yX10_nextRequest cX10_nextRequest 5 (some .int) 1 := ⟨gw_at 1714 (by decide +kernel) rfl, gw_at 138 (by decide +kernel) rfl, by decide +kernel⟩
theorem ko_X10_nextToken : KO yX10_nextToken cX10_nextToken 2 none 0 := ⟨gw_at 1804 (by decide +kernel) rfl, gw_at 138 (by decide +kernel) rfl, by decide +kernel⟩
theorem ko_X10_nightsObstacle : KO yX10_nightsObstacle cX10_nightsObstacle 7 (some .int) 3 := ⟨gw_at 1549 (by decide +kernel) rfl, gw_at 138 (by decide +kernel) rfl, by decide +kernel⟩
theorem ko_X10_nightsOf : KO yX10_nightsOf cX10_nightsOf 2 (some .long) 1 := ⟨gw_at 1777 (by decide +kernel) rfl, gw_at 138 (by decide +kernel) rfl, by decide +kernel⟩
theorem ko_X10_obstacle : KO yX10_obstacle cX10_obstacle 4 (some .int) 3 := ⟨gw_at 1538 (by decide +kernel) rfl, gw_at 138 (by decide +kernel) rfl, by decide +kernel⟩
theorem ko_X10_obstacleOf : KO yX10_obstacleOf cX10_obstacleOf 6 (some .int) 3 := ⟨gw_at 1545 (by decide +kernel) rfl, gw_at 138 (by decide +kernel) rfl, by decide +kernel⟩
theorem ko_X10_occupancy : KO yX10_occupancy cX10_occupancy 8 (some .int) 4 := ⟨gw_at 1758 (by decide +kernel) rfl, gw_at 138 (by decide +kernel) rfl, by decide +kernel⟩
theorem ko_X10_occupancyDenominator : KO yX10_occupancyDenominator cX10_occupancyDenominator 4 (some .int) 3 := ⟨gw_at 1765 (by decide +kernel) rfl, gw_at 138 (by decide +kernel) rfl, by decide +kernel⟩
theorem ko_X10_occupancyNumerator : KO yX10_occupancyNumerator cX10_occupancyNumerator 4 (some .int) 3 := ⟨gw_at 1754 (by decide +kernel) rfl, gw_at 138 (by decide +kernel) rfl, by decide +kernel⟩
theorem ko_X10_open : KO yX10_open cX10_open 3 (some .int) 1 := ⟨gw_at 1682 (by decide +kernel) rfl, gw_at 138 (by decide +kernel) rfl, by decide +kernel⟩
theorem ko_X10_orphanNights : KO yX10_orphanNights cX10_orphanNights 3 (some .int) 2 := ⟨gw_at 1750 (by decide +kernel) rfl, gw_at 138 (by decide +kernel) rfl, by decide +kernel⟩
theorem ko_X10_parseClass : KO yX10_parseClass cX10_parseClass 5 none 0 := ⟨gw_at 1831 (by decide +kernel) rfl, gw_at 138 (by decide +kernel) rfl, by decide +kernel⟩
theorem ko_X10_parseNumber : KO yX10_parseNumber cX10_parseNumber 4 (some .int) 2 := ⟨gw_at 1843 (by decide +kernel) rfl, gw_at 138 (by decide +kernel) rfl, by decide +kernel⟩
theorem ko_X10_parseSeason : KO yX10_parseSeason cX10_parseSeason 7 none 0 := ⟨gw_at 1853 (by decide +kernel) rfl, gw_at 138 (by decide +kernel) rfl, by decide +kernel⟩
theorem ko_X10_parseSites : KO yX10_parseSites cX10_parseSites 4 none 0 := ⟨gw_at 1848 (by decide +kernel) rfl, gw_at 138 (by decide +kernel) rfl, by decide +kernel⟩
theorem ko_X10_parseStatement : KO yX10_parseStatement cX10_parseStatement 2 none 0 := ⟨gw_at 1820 (by decide +kernel) rfl, gw_at 138 (by decide +kernel) rfl, by decide +kernel⟩
theorem ko_X10_place : KO yX10_place cX10_place 5 none 2 := ⟨gw_at 1730 (by decide +kernel) rfl, gw_at 138 (by decide +kernel) rfl, by decide +kernel⟩
theorem ko_X10_plan : KO yX10_plan cX10_plan 4 none 2 := ⟨gw_at 1726 (by decide +kernel) rfl, gw_at 138 (by decide +kernel) rfl, by decide +kernel⟩
theorem ko_X10_planSite : KO yX10_planSite cX10_planSite 3 (some .int) 2 := ⟨gw_at 1722 (by decide +kernel) rfl, gw_at 138 (by decide +kernel) rfl, by decide +kernel⟩
theorem ko_X10_price : KO yX10_price cX10_price 3 (some .int) 2 := ⟨gw_at 1476 (by decide +kernel) rfl, gw_at 138 (by decide +kernel) rfl, by decide +kernel⟩
theorem ko_X10_priceOf : KO yX10_priceOf cX10_priceOf 4 (some .int) 2 := ⟨gw_at 1480 (by decide +kernel) rfl, gw_at 138 (by decide +kernel) rfl, by decide +kernel⟩
theorem ko_X10_pricesOf : KO yX10_pricesOf cX10_pricesOf 6 (some .int) 3 := ⟨gw_at 1562 (by decide +kernel) rfl, gw_at 138 (by decide +kernel) rfl, by decide +kernel⟩
theorem ko_X10_released : KO yX10_released cX10_released 3 (some .int) 2 := ⟨gw_at 1500 (by decide +kernel) rfl, gw_at 138 (by decide +kernel) rfl, by decide +kernel⟩
theorem ko_X10_releasedOf : KO yX10_releasedOf cX10_releasedOf 4 (some .int) 2 := ⟨gw_at 1504 (by decide +kernel) rfl, gw_at 138 (by decide +kernel) rfl, by decide +kernel⟩
theorem ko_X10_request : KO yX10_request cX10_request 4 (some .int) 3 := ⟨gw_at 1686 (by decide +kernel) rfl, gw_at 138 (by decide +kernel) rfl, by decide +kernel⟩
theorem ko_X10_requestField : KO yX10_requestField cX10_requestField 3 (some .int) 2 := ⟨gw_at 1662 (by decide +kernel) rfl, gw_at 138 (by decide +kernel) rfl, by decide +kernel⟩
theorem ko_X10_requestState : KO yX10_requestState cX10_requestState 2 (some .int) 1 := ⟨gw_at 1694 (by decide +kernel) rfl, gw_at 138 (by decide +kernel) rfl, by decide +kernel⟩
theorem ko_X10_require : KO yX10_require cX10_require 3 none 2 := ⟨gw_at 1835 (by decide +kernel) rfl, gw_at 138 (by decide +kernel) rfl, by decide +kernel⟩
theorem ko_X10_restore : KO yX10_restore cX10_restore 2 none 1 := ⟨gw_at 1870 (by decide +kernel) rfl, gw_at 138 (by decide +kernel) rfl, by decide +kernel⟩
theorem ko_X10_revenue : KO yX10_revenue cX10_revenue 3 (some .int) 0 := ⟨gw_at 1785 (by decide +kernel) rfl, gw_at 138 (by decide +kernel) rfl, by decide +kernel⟩
theorem ko_X10_save : KO yX10_save cX10_save 2 none 1 := ⟨gw_at 1866 (by decide +kernel) rfl, gw_at 138 (by decide +kernel) rfl, by decide +kernel⟩
theorem ko_X10_season : KO yX10_season cX10_season 3 (some .int) 2 := ⟨gw_at 1472 (by decide +kernel) rfl, gw_at 138 (by decide +kernel) rfl, by decide +kernel⟩
theorem ko_X10_seasonOf : KO yX10_seasonOf cX10_seasonOf 6 (some .int) 2 := ⟨gw_at 1468 (by decide +kernel) rfl, gw_at 138 (by decide +kernel) rfl, by decide +kernel⟩
theorem ko_X10_setBooking : KO yX10_setBooking cX10_setBooking 4 none 3 := ⟨gw_at 1578 (by decide +kernel) rfl, gw_at 138 (by decide +kernel) rfl, by decide +kernel⟩
theorem ko_X10_setRequest : KO yX10_setRequest cX10_setRequest 4 none 3 := ⟨gw_at 1666 (by decide +kernel) rfl, gw_at 138 (by decide +kernel) rfl, by decide +kernel⟩
theorem ko_X10_site : KO yX10_site cX10_site 3 (some .int) 2 := ⟨gw_at 1456 (by decide +kernel) rfl, gw_at 138 (by decide +kernel) rfl, by decide +kernel⟩
theorem ko_X10_siteClass : KO yX10_siteClass cX10_siteClass 3 (some .int) 2 := ⟨gw_at 1508 (by decide +kernel) rfl, gw_at 138 (by decide +kernel) rfl, by decide +kernel⟩
theorem ko_X10_siteCount : KO yX10_siteCount cX10_siteCount 1 (some .int) 0 := ⟨gw_at 1444 (by decide +kernel) rfl, gw_at 138 (by decide +kernel) rfl, by decide +kernel⟩
theorem ko_X10_siteOf : KO yX10_siteOf cX10_siteOf 2 (some .int) 1 := ⟨gw_at 1614 (by decide +kernel) rfl, gw_at 138 (by decide +kernel) rfl, by decide +kernel⟩
theorem ko_X10_taken : KO yX10_taken cX10_taken 3 (some .int) 2 := ⟨gw_at 1513 (by decide +kernel) rfl, gw_at 138 (by decide +kernel) rfl, by decide +kernel⟩
theorem ko_X10_takenOf : KO yX10_takenOf cX10_takenOf 6 (some .int) 2 := ⟨gw_at 1517 (by decide +kernel) rfl, gw_at 138 (by decide +kernel) rfl, by decide +kernel⟩
theorem ko_X10_thrown : KO yX10_thrown cX10_thrown 1 (some .int) 0 := ⟨gw_at 1398 (by decide +kernel) rfl, gw_at 138 (by decide +kernel) rfl, by decide +kernel⟩
theorem ko_X10_today : KO yX10_today cX10_today 1 (some .int) 0 := ⟨gw_at 1670 (by decide +kernel) rfl, gw_at 138 (by decide +kernel) rfl, by decide +kernel⟩
theorem ko_X10_truncateText : KO yX10_truncateText cX10_truncateText 2 (some .int) 1 := ⟨gw_at 1793 (by decide +kernel) rfl, gw_at 138 (by decide +kernel) rfl, by decide +kernel⟩
theorem ko_X10_vacantSite : KO yX10_vacantSite cX10_vacantSite 2 (some .int) 1 := ⟨gw_at 1622 (by decide +kernel) rfl, gw_at 138 (by decide +kernel) rfl, by decide +kernel⟩
theorem ko_X10_vacantSiteOf : KO yX10_vacantSiteOf cX10_vacantSiteOf 3 (some .int) 1 := ⟨gw_at 1626 (by decide +kernel) rfl, gw_at 138 (by decide +kernel) rfl, by decide +kernel⟩
theorem ko_X10_withdraw : KO yX10_withdraw cX10_withdraw 2 none 1 := ⟨gw_at 1706 (by decide +kernel) rfl, gw_at 138 (by decide +kernel) rfl, by decide +kernel⟩
theorem ko_X10_wrongPlan : KO yX10_wrongPlan cX10_wrongPlan 3 (some .int) 2 := ⟨gw_at 1746 (by decide +kernel) rfl, gw_at 138 (by decide +kernel) rfl, by decide +kernel⟩
theorem ko_J0_charAt_5068e : KO yJ0_charAt_5068e cJ0_charAt_5068e 2 (some .char) 1 := ⟨gw_at 531 (by decide +kernel) rfl, gw_at 147 (by decide +kernel) rfl, by decide +kernel⟩
theorem ko_J0_checkIndex_df160 : KO yJ0_checkIndex_df160 cJ0_checkIndex_df160 2 none 2 := ⟨gw_at 541 (by decide +kernel) rfl, gw_at 147 (by decide +kernel) rfl, by decide +kernel⟩
theorem ko_J0_coder_7d493 : KO yJ0_coder_7d493 cJ0_coder_7d493 1 (some .byte) 0 := ⟨gw_at 525 (by decide +kernel) rfl, gw_at 147 (by decide +kernel) rfl, by decide +kernel⟩
theorem ko_J0_isLatin1_aae02 : KO yJ0_isLatin1_aae02 cJ0_isLatin1_aae02 1 (some .boolean) 0 := ⟨gw_at 535 (by decide +kernel) rfl, gw_at 147 (by decide +kernel) rfl, by decide +kernel⟩
theorem ko_J0_length_8abf5 : KO yJ0_length_8abf5 cJ0_length_8abf5 1 (some .int) 0 := ⟨gw_at 521 (by decide +kernel) rfl, gw_at 147 (by decide +kernel) rfl, by decide +kernel⟩
theorem ko_J1_charAt_3b067 : KO yJ1_charAt_3b067 cJ1_charAt_3b067 2 (some .char) 2 := ⟨gw_at 538 (by decide +kernel) rfl, gw_at 148 (by decide +kernel) rfl, by decide +kernel⟩
theorem ko_J2_charAt_3b067 : KO yJ2_charAt_3b067 cJ2_charAt_3b067 2 (some .char) 2 := ⟨gw_at 549 (by decide +kernel) rfl, gw_at 150 (by decide +kernel) rfl, by decide +kernel⟩
theorem ko_J2_checkIndex_2214a : KO yJ2_checkIndex_2214a cJ2_checkIndex_2214a 2 none 2 := ⟨gw_at 552 (by decide +kernel) rfl, gw_at 150 (by decide +kernel) rfl, by decide +kernel⟩
theorem ko_J2_getChar_3b067 : KO yJ2_getChar_3b067 cJ2_getChar_3b067 2 (some .char) 2 := ⟨gw_at 559 (by decide +kernel) rfl, gw_at 150 (by decide +kernel) rfl, by decide +kernel⟩
theorem ko_J2_length_9d52b : KO yJ2_length_9d52b cJ2_length_9d52b 1 (some .int) 1 := ⟨gw_at 555 (by decide +kernel) rfl, gw_at 150 (by decide +kernel) rfl, by decide +kernel⟩
theorem ko_J7_fill_53178 : KO yJ7_fill_53178 cJ7_fill_53178 4 none 2 := ⟨gw_at 898 (by decide +kernel) rfl, gw_at 146 (by decide +kernel) rfl, by decide +kernel⟩
theorem ki_X9_9 : KI RX9 9 yX1_init := ⟨Or.inr ⟨"Campground", gw_at 162 (by decide +kernel) rfl⟩, rfl, gw_at 163 (by decide +kernel) rfl⟩
theorem ki_X9_25 : KI RX9 25 yX8_init := ⟨Or.inr ⟨"Campground", gw_at 362 (by decide +kernel) rfl⟩, rfl, gw_at 363 (by decide +kernel) rfl⟩
theorem ki_X9_34 : KI RX9 34 yX3_init := ⟨Or.inr ⟨"Campground", gw_at 378 (by decide +kernel) rfl⟩, rfl, gw_at 379 (by decide +kernel) rfl⟩
theorem ki_X9_45 : KI RX9 45 yX6_init := ⟨Or.inr ⟨"Campground", gw_at 403 (by decide +kernel) rfl⟩, rfl, gw_at 404 (by decide +kernel) rfl⟩
theorem ks_X9_56 : KS RX9 56 yX9_checkRange := ⟨Or.inl (gw_at 665 (by decide +kernel) rfl), gw_at 666 (by decide +kernel) rfl⟩
theorem kw_X9_56 : Cond.methodLink RX9 56 yX9_checkRange ∈ GW := gw_at 665 (by decide +kernel) rfl
theorem kv_X9_76 : KV RX9 76 yX2_add := ⟨Or.inr ⟨"Campground", gw_at 751 (by decide +kernel) rfl⟩, gw_at 584 (by decide +kernel) rfl, gw_at 9 (by decide +kernel) rfl⟩
theorem kv_X9_80 : KV RX9 80 yX9_checkClass := ⟨Or.inl (gw_at 760 (by decide +kernel) rfl), gw_at 762 (by decide +kernel) rfl, gw_at 23 (by decide +kernel) rfl⟩
theorem kw_X9_80 : Cond.methodLink RX9 80 yX9_checkClass ∈ GW := gw_at 760 (by decide +kernel) rfl
theorem kv_X9_93 : KV RX9 93 yX7_add := ⟨Or.inr ⟨"Campground", gw_at 781 (by decide +kernel) rfl⟩, gw_at 597 (by decide +kernel) rfl, gw_at 12 (by decide +kernel) rfl⟩
theorem kv_X9_105 : KV RX9 105 yX5_add := ⟨Or.inr ⟨"Campground", gw_at 790 (by decide +kernel) rfl⟩, gw_at 606 (by decide +kernel) rfl, gw_at 14 (by decide +kernel) rfl⟩
theorem kv_X9_108 : KV RX9 108 yX9_checkSite := ⟨Or.inl (gw_at 798 (by decide +kernel) rfl), gw_at 800 (by decide +kernel) rfl, gw_at 24 (by decide +kernel) rfl⟩
theorem kw_X9_108 : Cond.methodLink RX9 108 yX9_checkSite ∈ GW := gw_at 798 (by decide +kernel) rfl
theorem kv_X9_115 : KV RX9 115 yX5_minimumOn := ⟨Or.inr ⟨"Campground", gw_at 810 (by decide +kernel) rfl⟩, gw_at 812 (by decide +kernel) rfl, gw_at 25 (by decide +kernel) rfl⟩
theorem kv_X9_119 : KV RX9 119 yX5_priceOn := ⟨Or.inr ⟨"Campground", gw_at 825 (by decide +kernel) rfl⟩, gw_at 827 (by decide +kernel) rfl, gw_at 27 (by decide +kernel) rfl⟩
theorem kv_X9_122 : KV RX9 122 yX1_capacityOn := ⟨Or.inr ⟨"Campground", gw_at 836 (by decide +kernel) rfl⟩, gw_at 838 (by decide +kernel) rfl, gw_at 28 (by decide +kernel) rfl⟩
theorem kv_X9_125 : KV RX9 125 yX1_releasedOn := ⟨Or.inr ⟨"Campground", gw_at 851 (by decide +kernel) rfl⟩, gw_at 853 (by decide +kernel) rfl, gw_at 30 (by decide +kernel) rfl⟩
theorem kv_X9_132 : KV RX9 132 yX0_takenOn := ⟨Or.inr ⟨"Campground", gw_at 867 (by decide +kernel) rfl⟩, gw_at 869 (by decide +kernel) rfl, gw_at 32 (by decide +kernel) rfl⟩
theorem km_X9_137 : KMax RX9 137 := ⟨gw_at 882 (by decide +kernel) rfl, gw_at 883 (by decide +kernel) rfl, gw_at 145 (by decide +kernel) rfl, gw_at 884 (by decide +kernel) rfl⟩
theorem kv_X9_142 : KV RX9 142 yX8_turnTo := ⟨Or.inr ⟨"Campground", gw_at 892 (by decide +kernel) rfl⟩, gw_at 894 (by decide +kernel) rfl, gw_at 34 (by decide +kernel) rfl⟩
theorem kv_X9_145 : KV RX9 145 yX8_obstacleToStay := ⟨Or.inr ⟨"Campground", gw_at 899 (by decide +kernel) rfl⟩, gw_at 901 (by decide +kernel) rfl, gw_at 35 (by decide +kernel) rfl⟩
theorem kv_X9_148 : KV RX9 148 yX5_priceOfNights := ⟨Or.inr ⟨"Campground", gw_at 936 (by decide +kernel) rfl⟩, gw_at 938 (by decide +kernel) rfl, gw_at 40 (by decide +kernel) rfl⟩
theorem kv_X9_151 : KV RX9 151 yX8_isFree := ⟨Or.inr ⟨"Campground", gw_at 948 (by decide +kernel) rfl⟩, gw_at 917 (by decide +kernel) rfl, gw_at 39 (by decide +kernel) rfl⟩
theorem kv_X9_155 : KV RX9 155 yX0_isFull := ⟨Or.inr ⟨"Campground", gw_at 956 (by decide +kernel) rfl⟩, gw_at 958 (by decide +kernel) rfl, gw_at 41 (by decide +kernel) rfl⟩
theorem kv_X9_161 : KV RX9 161 yX1_addBooking := ⟨Or.inr ⟨"Campground", gw_at 961 (by decide +kernel) rfl⟩, gw_at 963 (by decide +kernel) rfl, gw_at 42 (by decide +kernel) rfl⟩
theorem kv_X9_165 : KV RX9 165 yX9_checkBooking := ⟨Or.inl (gw_at 977 (by decide +kernel) rfl), gw_at 979 (by decide +kernel) rfl, gw_at 44 (by decide +kernel) rfl⟩
theorem kw_X9_165 : Cond.methodLink RX9 165 yX9_checkBooking ∈ GW := gw_at 977 (by decide +kernel) rfl
theorem ks_X9_184 : KS RX9 184 yX9_checkState := ⟨Or.inl (gw_at 1024 (by decide +kernel) rfl), gw_at 1025 (by decide +kernel) rfl⟩
theorem kw_X9_184 : Cond.methodLink RX9 184 yX9_checkState ∈ GW := gw_at 1024 (by decide +kernel) rfl
theorem kv_X9_188 : KV RX9 188 yX1_refundOfCancelling := ⟨Or.inr ⟨"Campground", gw_at 1028 (by decide +kernel) rfl⟩, gw_at 1030 (by decide +kernel) rfl, gw_at 45 (by decide +kernel) rfl⟩
theorem kv_X9_191 : KV RX9 191 yX1_lowestVacantSite := ⟨Or.inr ⟨"Campground", gw_at 1039 (by decide +kernel) rfl⟩, gw_at 1041 (by decide +kernel) rfl, gw_at 46 (by decide +kernel) rfl⟩
theorem kv_X9_194 : KV RX9 194 yX9_checkSameClass := ⟨Or.inl (gw_at 1062 (by decide +kernel) rfl), gw_at 1064 (by decide +kernel) rfl, gw_at 50 (by decide +kernel) rfl⟩
theorem kw_X9_194 : Cond.methodLink RX9 194 yX9_checkSameClass ∈ GW := gw_at 1062 (by decide +kernel) rfl
theorem kv_X9_201 : KV RX9 201 yX1_isVacant := ⟨Or.inr ⟨"Campground", gw_at 1067 (by decide +kernel) rfl⟩, gw_at 1045 (by decide +kernel) rfl, gw_at 47 (by decide +kernel) rfl⟩
theorem kv_X9_204 : KV RX9 204 yX1_refundOfDeparting := ⟨Or.inr ⟨"Campground", gw_at 1082 (by decide +kernel) rfl⟩, gw_at 1084 (by decide +kernel) rfl, gw_at 51 (by decide +kernel) rfl⟩
theorem kv_X9_207 : KV RX9 207 yX0_isActive := ⟨Or.inr ⟨"Campground", gw_at 1093 (by decide +kernel) rfl⟩, gw_at 873 (by decide +kernel) rfl, gw_at 33 (by decide +kernel) rfl⟩
theorem kv_X9_210 : KV RX9 210 yX8_obstacleToNights := ⟨Or.inr ⟨"Campground", gw_at 1094 (by decide +kernel) rfl⟩, gw_at 905 (by decide +kernel) rfl, gw_at 36 (by decide +kernel) rfl⟩
theorem kv_X9_215 : KV RX9 215 yX1_endToday := ⟨Or.inr ⟨"Campground", gw_at 1103 (by decide +kernel) rfl⟩, gw_at 1105 (by decide +kernel) rfl, gw_at 52 (by decide +kernel) rfl⟩
theorem kv_X9_218 : KV RX9 218 yX1_canSpare := ⟨Or.inr ⟨"Campground", gw_at 1122 (by decide +kernel) rfl⟩, gw_at 1124 (by decide +kernel) rfl, gw_at 55 (by decide +kernel) rfl⟩
theorem kv_X9_225 : KV RX9 225 yX7_isClosed := ⟨Or.inr ⟨"Campground", gw_at 1135 (by decide +kernel) rfl⟩, gw_at 1049 (by decide +kernel) rfl, gw_at 48 (by decide +kernel) rfl⟩
theorem kv_X9_237 : KV RX9 237 yX4_add := ⟨Or.inr ⟨"Campground", gw_at 1144 (by decide +kernel) rfl⟩, gw_at 1146 (by decide +kernel) rfl, gw_at 56 (by decide +kernel) rfl⟩
theorem kv_X9_238 : KV RX9 238 yX9_checkRequest := ⟨Or.inl (gw_at 1155 (by decide +kernel) rfl), gw_at 1157 (by decide +kernel) rfl, gw_at 57 (by decide +kernel) rfl⟩
theorem kw_X9_238 : Cond.methodLink RX9 238 yX9_checkRequest ∈ GW := gw_at 1155 (by decide +kernel) rfl
theorem kv_X9_245 : KV RX9 245 yX9_bestRequest := ⟨Or.inl (gw_at 1181 (by decide +kernel) rfl), gw_at 1183 (by decide +kernel) rfl, gw_at 58 (by decide +kernel) rfl⟩
theorem kw_X9_245 : Cond.methodLink RX9 245 yX9_bestRequest ∈ GW := gw_at 1181 (by decide +kernel) rfl
theorem kv_X9_248 : KV RX9 248 yX1_bookRequest := ⟨Or.inr ⟨"Campground", gw_at 1189 (by decide +kernel) rfl⟩, gw_at 1191 (by decide +kernel) rfl, gw_at 60 (by decide +kernel) rfl⟩
theorem kv_X9_251 : KV RX9 251 yX3_make := ⟨Or.inr ⟨"Campground", gw_at 1201 (by decide +kernel) rfl⟩, gw_at 1203 (by decide +kernel) rfl, gw_at 61 (by decide +kernel) rfl⟩
theorem kv_X9_261 : KV RX9 261 yX9_checkNights := ⟨Or.inl (gw_at 1245 (by decide +kernel) rfl), gw_at 1247 (by decide +kernel) rfl, gw_at 66 (by decide +kernel) rfl⟩
theorem kw_X9_261 : Cond.methodLink RX9 261 yX9_checkNights ∈ GW := gw_at 1245 (by decide +kernel) rfl
theorem kv_X9_264 : KV RX9 264 yX1_takenInAll := ⟨Or.inr ⟨"Campground", gw_at 1249 (by decide +kernel) rfl⟩, gw_at 1251 (by decide +kernel) rfl, gw_at 67 (by decide +kernel) rfl⟩
theorem kv_X9_267 : KV RX9 267 yX1_capacityInAll := ⟨Or.inr ⟨"Campground", gw_at 1253 (by decide +kernel) rfl⟩, gw_at 1255 (by decide +kernel) rfl, gw_at 68 (by decide +kernel) rfl⟩
theorem ks_X9_270 : KS RX9 270 yX9_commonDivisor := ⟨Or.inl (gw_at 1257 (by decide +kernel) rfl), gw_at 1258 (by decide +kernel) rfl⟩
theorem kw_X9_270 : Cond.methodLink RX9 270 yX9_commonDivisor ∈ GW := gw_at 1257 (by decide +kernel) rfl
theorem kv_X9_273 : KV RX9 273 yX0_isToDepart := ⟨Or.inr ⟨"Campground", gw_at 1274 (by decide +kernel) rfl⟩, gw_at 1276 (by decide +kernel) rfl, gw_at 69 (by decide +kernel) rfl⟩
theorem kv_X9_276 : KV RX9 276 yX0_isToArrive := ⟨Or.inr ⟨"Campground", gw_at 1278 (by decide +kernel) rfl⟩, gw_at 1280 (by decide +kernel) rfl, gw_at 70 (by decide +kernel) rfl⟩
theorem kv_X9_279 : KV RX9 279 yX0_isDearer := ⟨Or.inr ⟨"Campground", gw_at 1289 (by decide +kernel) rfl⟩, gw_at 1291 (by decide +kernel) rfl, gw_at 71 (by decide +kernel) rfl⟩
theorem kv_X9_284 : KV RX9 284 yX6_read := ⟨Or.inr ⟨"Campground", gw_at 487 (by decide +kernel) rfl⟩, gw_at 489 (by decide +kernel) rfl, gw_at 0 (by decide +kernel) rfl⟩
theorem kv_X9_287 : KV RX9 287 yX1_copyFrom := ⟨Or.inr ⟨"Campground", gw_at 613 (by decide +kernel) rfl⟩, gw_at 615 (by decide +kernel) rfl, gw_at 16 (by decide +kernel) rfl⟩
theorem kv_X9_319 : KV RX9 319 yX4_isBetter := ⟨Or.inr ⟨"Campground", gw_at 1185 (by decide +kernel) rfl⟩, gw_at 1187 (by decide +kernel) rfl, gw_at 59 (by decide +kernel) rfl⟩
theorem km_X9_326 : KMin RX9 326 := ⟨gw_at 624 (by decide +kernel) rfl, gw_at 492 (by decide +kernel) rfl, gw_at 145 (by decide +kernel) rfl, gw_at 493 (by decide +kernel) rfl⟩
theorem kc_X9_329 : KCp RX9 329 := ⟨gw_at 625 (by decide +kernel) rfl, gw_at 627 (by decide +kernel) rfl, gw_at 626 (by decide +kernel) rfl, gw_at 151 (by decide +kernel) rfl⟩
theorem kv_X0_34 : KV RX0 34 yX0_isActive := ⟨Or.inl (gw_at 871 (by decide +kernel) rfl), gw_at 873 (by decide +kernel) rfl, gw_at 33 (by decide +kernel) rfl⟩
theorem kw_X0_34 : Cond.methodLink RX0 34 yX0_isActive ∈ GW := gw_at 871 (by decide +kernel) rfl
theorem ks_X0_38 : KS RX0 38 yX9_copyRow := ⟨Or.inr ⟨"Campground", gw_at 642 (by decide +kernel) rfl⟩, gw_at 622 (by decide +kernel) rfl⟩
theorem ki_X1_11 : KI RX1 11 yX2_init := ⟨Or.inr ⟨"Campground", gw_at 168 (by decide +kernel) rfl⟩, rfl, gw_at 169 (by decide +kernel) rfl⟩
theorem ki_X1_20 : KI RX1 20 yX7_init := ⟨Or.inr ⟨"Campground", gw_at 191 (by decide +kernel) rfl⟩, rfl, gw_at 192 (by decide +kernel) rfl⟩
theorem ki_X1_27 : KI RX1 27 yX5_init := ⟨Or.inr ⟨"Campground", gw_at 214 (by decide +kernel) rfl⟩, rfl, gw_at 215 (by decide +kernel) rfl⟩
theorem ki_X1_34 : KI RX1 34 yX0_init := ⟨Or.inr ⟨"Campground", gw_at 242 (by decide +kernel) rfl⟩, rfl, gw_at 243 (by decide +kernel) rfl⟩
theorem ki_X1_41 : KI RX1 41 yX4_init := ⟨Or.inr ⟨"Campground", gw_at 288 (by decide +kernel) rfl⟩, rfl, gw_at 289 (by decide +kernel) rfl⟩
theorem kv_X1_57 : KV RX1 57 yX2_copyFrom := ⟨Or.inr ⟨"Campground", gw_at 617 (by decide +kernel) rfl⟩, gw_at 619 (by decide +kernel) rfl, gw_at 17 (by decide +kernel) rfl⟩
theorem kv_X1_61 : KV RX1 61 yX7_copyFrom := ⟨Or.inr ⟨"Campground", gw_at 628 (by decide +kernel) rfl⟩, gw_at 630 (by decide +kernel) rfl, gw_at 18 (by decide +kernel) rfl⟩
theorem kv_X1_64 : KV RX1 64 yX5_copyFrom := ⟨Or.inr ⟨"Campground", gw_at 633 (by decide +kernel) rfl⟩, gw_at 635 (by decide +kernel) rfl, gw_at 19 (by decide +kernel) rfl⟩
theorem kv_X1_67 : KV RX1 67 yX0_copyFrom := ⟨Or.inr ⟨"Campground", gw_at 638 (by decide +kernel) rfl⟩, gw_at 640 (by decide +kernel) rfl, gw_at 20 (by decide +kernel) rfl⟩
theorem kv_X1_70 : KV RX1 70 yX4_copyFrom := ⟨Or.inr ⟨"Campground", gw_at 643 (by decide +kernel) rfl⟩, gw_at 645 (by decide +kernel) rfl, gw_at 21 (by decide +kernel) rfl⟩
theorem kv_X1_73 : KV RX1 73 yX7_countOpen := ⟨Or.inr ⟨"Campground", gw_at 840 (by decide +kernel) rfl⟩, gw_at 842 (by decide +kernel) rfl, gw_at 29 (by decide +kernel) rfl⟩
theorem kv_X1_77 : KV RX1 77 yX2_limitAhead := ⟨Or.inr ⟨"Campground", gw_at 855 (by decide +kernel) rfl⟩, gw_at 857 (by decide +kernel) rfl, gw_at 31 (by decide +kernel) rfl⟩
theorem km_X1_80 : KMin RX1 80 := ⟨gw_at 859 (by decide +kernel) rfl, gw_at 492 (by decide +kernel) rfl, gw_at 145 (by decide +kernel) rfl, gw_at 493 (by decide +kernel) rfl⟩
theorem kv_X1_85 : KV RX1 85 yX0_takenOn := ⟨Or.inr ⟨"Campground", gw_at 1127 (by decide +kernel) rfl⟩, gw_at 869 (by decide +kernel) rfl, gw_at 32 (by decide +kernel) rfl⟩
theorem kv_X1_88 : KV RX1 88 yX1_capacityOn := ⟨Or.inl (gw_at 1126 (by decide +kernel) rfl), gw_at 838 (by decide +kernel) rfl, gw_at 28 (by decide +kernel) rfl⟩
theorem kw_X1_88 : Cond.methodLink RX1 88 yX1_capacityOn ∈ GW := gw_at 1126 (by decide +kernel) rfl
theorem kv_X1_91 : KV RX1 91 yX7_isClosed := ⟨Or.inr ⟨"Campground", gw_at 1047 (by decide +kernel) rfl⟩, gw_at 1049 (by decide +kernel) rfl, gw_at 48 (by decide +kernel) rfl⟩
theorem kv_X1_95 : KV RX1 95 yX0_isSomebodyAt := ⟨Or.inr ⟨"Campground", gw_at 1051 (by decide +kernel) rfl⟩, gw_at 1053 (by decide +kernel) rfl, gw_at 49 (by decide +kernel) rfl⟩
theorem kv_X1_103 : KV RX1 103 yX1_isVacant := ⟨Or.inl (gw_at 1043 (by decide +kernel) rfl), gw_at 1045 (by decide +kernel) rfl, gw_at 47 (by decide +kernel) rfl⟩
theorem kw_X1_103 : Cond.methodLink RX1 103 yX1_isVacant ∈ GW := gw_at 1043 (by decide +kernel) rfl
theorem kv_X1_106 : KV RX1 106 yX5_priceOfNights := ⟨Or.inr ⟨"Campground", gw_at 965 (by decide +kernel) rfl⟩, gw_at 938 (by decide +kernel) rfl, gw_at 40 (by decide +kernel) rfl⟩
theorem kv_X1_110 : KV RX1 110 yX0_add := ⟨Or.inr ⟨"Campground", gw_at 966 (by decide +kernel) rfl⟩, gw_at 968 (by decide +kernel) rfl, gw_at 43 (by decide +kernel) rfl⟩
theorem kv_X1_121 : KV RX1 121 yX1_addBooking := ⟨Or.inl (gw_at 1193 (by decide +kernel) rfl), gw_at 963 (by decide +kernel) rfl, gw_at 42 (by decide +kernel) rfl⟩
theorem kw_X1_121 : Cond.methodLink RX1 121 yX1_addBooking ∈ GW := gw_at 1193 (by decide +kernel) rfl
theorem kv_X1_138 : KV RX1 138 yX0_endNight := ⟨Or.inr ⟨"Campground", gw_at 1107 (by decide +kernel) rfl⟩, gw_at 1109 (by decide +kernel) rfl, gw_at 53 (by decide +kernel) rfl⟩
theorem kv_X1_142 : KV RX1 142 yX4_expireBefore := ⟨Or.inr ⟨"Campground", gw_at 1111 (by decide +kernel) rfl⟩, gw_at 1113 (by decide +kernel) rfl, gw_at 54 (by decide +kernel) rfl⟩
theorem ks_X2_25 : KS RX2 25 yX9_copyRow := ⟨Or.inr ⟨"Campground", gw_at 621 (by decide +kernel) rfl⟩, gw_at 622 (by decide +kernel) rfl⟩
theorem ks_X3_29 : KS RX3 29 yJ7_fill_53178 := ⟨Or.inl (gw_at 1205 (by decide +kernel) rfl), gw_at 897 (by decide +kernel) rfl⟩
theorem kw_X3_29 : Cond.methodLink RX3 29 yJ7_fill_53178 ∈ GW := gw_at 1205 (by decide +kernel) rfl
theorem kv_X3_35 : KV RX3 35 yX3_placeStaying := ⟨Or.inl (gw_at 1206 (by decide +kernel) rfl), gw_at 1208 (by decide +kernel) rfl, gw_at 62 (by decide +kernel) rfl⟩
theorem kw_X3_35 : Cond.methodLink RX3 35 yX3_placeStaying ∈ GW := gw_at 1206 (by decide +kernel) rfl
theorem kv_X3_50 : KV RX3 50 yX3_nextToPlace := ⟨Or.inl (gw_at 1210 (by decide +kernel) rfl), gw_at 1212 (by decide +kernel) rfl, gw_at 63 (by decide +kernel) rfl⟩
theorem kw_X3_50 : Cond.methodLink RX3 50 yX3_nextToPlace ∈ GW := gw_at 1210 (by decide +kernel) rfl
theorem kv_X3_57 : KV RX3 57 yX3_chooseSite := ⟨Or.inl (gw_at 1214 (by decide +kernel) rfl), gw_at 1216 (by decide +kernel) rfl, gw_at 64 (by decide +kernel) rfl⟩
theorem kw_X3_57 : Cond.methodLink RX3 57 yX3_chooseSite ∈ GW := gw_at 1214 (by decide +kernel) rfl
theorem kv_X3_61 : KV RX3 61 yX3_countGap := ⟨Or.inl (gw_at 1219 (by decide +kernel) rfl), gw_at 1221 (by decide +kernel) rfl, gw_at 65 (by decide +kernel) rfl⟩
theorem kw_X3_61 : Cond.methodLink RX3 61 yX3_countGap ∈ GW := gw_at 1219 (by decide +kernel) rfl
theorem kv_X3_83 : KV RX3 83 yX7_isClosed := ⟨Or.inr ⟨"Campground", gw_at 1218 (by decide +kernel) rfl⟩, gw_at 1049 (by decide +kernel) rfl, gw_at 48 (by decide +kernel) rfl⟩
theorem kv_X3_91 : KV RX3 91 yX5_minimumOn := ⟨Or.inr ⟨"Campground", gw_at 1223 (by decide +kernel) rfl⟩, gw_at 812 (by decide +kernel) rfl, gw_at 25 (by decide +kernel) rfl⟩
theorem ks_X4_31 : KS RX4 31 yX9_copyRow := ⟨Or.inr ⟨"Campground", gw_at 647 (by decide +kernel) rfl⟩, gw_at 622 (by decide +kernel) rfl⟩
theorem kv_X5_31 : KV RX5 31 yX5_latestWith := ⟨Or.inl (gw_at 814 (by decide +kernel) rfl), gw_at 816 (by decide +kernel) rfl, gw_at 26 (by decide +kernel) rfl⟩
theorem kw_X5_31 : Cond.methodLink RX5 31 yX5_latestWith ∈ GW := gw_at 814 (by decide +kernel) rfl
theorem kv_X5_35 : KV RX5 35 yX5_priceOn := ⟨Or.inl (gw_at 940 (by decide +kernel) rfl), gw_at 827 (by decide +kernel) rfl, gw_at 27 (by decide +kernel) rfl⟩
theorem kw_X5_35 : Cond.methodLink RX5 35 yX5_priceOn ∈ GW := gw_at 940 (by decide +kernel) rfl
theorem ks_X5_38 : KS RX5 38 yX9_copyRow := ⟨Or.inr ⟨"Campground", gw_at 637 (by decide +kernel) rfl⟩, gw_at 622 (by decide +kernel) rfl⟩
theorem km_X6_41 : KMin RX6 41 := ⟨gw_at 491 (by decide +kernel) rfl, gw_at 492 (by decide +kernel) rfl, gw_at 145 (by decide +kernel) rfl, gw_at 493 (by decide +kernel) rfl⟩
theorem kv_X6_47 : KV RX6 47 yX1_clear := ⟨Or.inr ⟨"Campground", gw_at 494 (by decide +kernel) rfl⟩, gw_at 496 (by decide +kernel) rfl, gw_at 1 (by decide +kernel) rfl⟩
theorem kv_X6_52 : KV RX6 52 yX6_step := ⟨Or.inl (gw_at 498 (by decide +kernel) rfl), gw_at 500 (by decide +kernel) rfl, gw_at 2 (by decide +kernel) rfl⟩
theorem kw_X6_52 : Cond.methodLink RX6 52 yX6_step ∈ GW := gw_at 498 (by decide +kernel) rfl
theorem kv_X6_55 : KV RX6 55 yX6_readStatement := ⟨Or.inl (gw_at 509 (by decide +kernel) rfl), gw_at 511 (by decide +kernel) rfl, gw_at 3 (by decide +kernel) rfl⟩
theorem kw_X6_55 : Cond.methodLink RX6 55 yX6_readStatement ∈ GW := gw_at 509 (by decide +kernel) rfl
theorem kv_X6_61 : KV RX6 61 yX6_isWord := ⟨Or.inl (gw_at 514 (by decide +kernel) rfl), gw_at 516 (by decide +kernel) rfl, gw_at 4 (by decide +kernel) rfl⟩
theorem kw_X6_61 : Cond.methodLink RX6 61 yX6_isWord ∈ GW := gw_at 514 (by decide +kernel) rfl
theorem kv_X6_65 : KV RX6 65 yX6_readClass := ⟨Or.inl (gw_at 566 (by decide +kernel) rfl), gw_at 568 (by decide +kernel) rfl, gw_at 5 (by decide +kernel) rfl⟩
theorem kw_X6_65 : Cond.methodLink RX6 65 yX6_readClass ∈ GW := gw_at 566 (by decide +kernel) rfl
theorem kv_X6_68 : KV RX6 68 yX6_readSemicolon := ⟨Or.inl (gw_at 586 (by decide +kernel) rfl), gw_at 588 (by decide +kernel) rfl, gw_at 10 (by decide +kernel) rfl⟩
theorem kw_X6_68 : Cond.methodLink RX6 68 yX6_readSemicolon ∈ GW := gw_at 586 (by decide +kernel) rfl
theorem kv_X6_73 : KV RX6 73 yX6_readSites := ⟨Or.inl (gw_at 591 (by decide +kernel) rfl), gw_at 593 (by decide +kernel) rfl, gw_at 11 (by decide +kernel) rfl⟩
theorem kw_X6_73 : Cond.methodLink RX6 73 yX6_readSites ∈ GW := gw_at 591 (by decide +kernel) rfl
theorem kv_X6_78 : KV RX6 78 yX6_readSeason := ⟨Or.inl (gw_at 600 (by decide +kernel) rfl), gw_at 602 (by decide +kernel) rfl, gw_at 13 (by decide +kernel) rfl⟩
theorem kw_X6_78 : Cond.methodLink RX6 78 yX6_readSeason ∈ GW := gw_at 600 (by decide +kernel) rfl
theorem kv_X6_83 : KV RX6 83 yX6_readDay := ⟨Or.inl (gw_at 609 (by decide +kernel) rfl), gw_at 611 (by decide +kernel) rfl, gw_at 15 (by decide +kernel) rfl⟩
theorem kw_X6_83 : Cond.methodLink RX6 83 yX6_readDay ∈ GW := gw_at 609 (by decide +kernel) rfl
theorem kv_X6_86 : KV RX6 86 yX6_fail := ⟨Or.inl (gw_at 570 (by decide +kernel) rfl), gw_at 572 (by decide +kernel) rfl, gw_at 6 (by decide +kernel) rfl⟩
theorem kw_X6_86 : Cond.methodLink RX6 86 yX6_fail ∈ GW := gw_at 570 (by decide +kernel) rfl
theorem kv_X6_99 : KV RX6 99 yX6_readNumber := ⟨Or.inl (gw_at 578 (by decide +kernel) rfl), gw_at 580 (by decide +kernel) rfl, gw_at 8 (by decide +kernel) rfl⟩
theorem kw_X6_99 : Cond.methodLink RX6 99 yX6_readNumber ∈ GW := gw_at 578 (by decide +kernel) rfl
theorem kv_X6_102 : KV RX6 102 yX2_add := ⟨Or.inr ⟨"Campground", gw_at 582 (by decide +kernel) rfl⟩, gw_at 584 (by decide +kernel) rfl, gw_at 9 (by decide +kernel) rfl⟩
theorem kv_X6_110 : KV RX6 110 yX7_add := ⟨Or.inr ⟨"Campground", gw_at 595 (by decide +kernel) rfl⟩, gw_at 597 (by decide +kernel) rfl, gw_at 12 (by decide +kernel) rfl⟩
theorem kv_X6_115 : KV RX6 115 yX6_failAt := ⟨Or.inl (gw_at 574 (by decide +kernel) rfl), gw_at 576 (by decide +kernel) rfl, gw_at 7 (by decide +kernel) rfl⟩
theorem kw_X6_115 : Cond.methodLink RX6 115 yX6_failAt ∈ GW := gw_at 574 (by decide +kernel) rfl
theorem kv_X6_126 : KV RX6 126 yX5_add := ⟨Or.inr ⟨"Campground", gw_at 604 (by decide +kernel) rfl⟩, gw_at 606 (by decide +kernel) rfl, gw_at 14 (by decide +kernel) rfl⟩
theorem ks_X6_141 : KS RX6 141 yX6_isLetter := ⟨Or.inl (gw_at 502 (by decide +kernel) rfl), gw_at 503 (by decide +kernel) rfl⟩
theorem kw_X6_141 : Cond.methodLink RX6 141 yX6_isLetter ∈ GW := gw_at 502 (by decide +kernel) rfl
theorem ks_X6_145 : KS RX6 145 yX6_isDigit := ⟨Or.inl (gw_at 505 (by decide +kernel) rfl), gw_at 506 (by decide +kernel) rfl⟩
theorem kw_X6_145 : Cond.methodLink RX6 145 yX6_isDigit ∈ GW := gw_at 505 (by decide +kernel) rfl
theorem ks_X7_22 : KS RX7 22 yX9_copyRow := ⟨Or.inr ⟨"Campground", gw_at 632 (by decide +kernel) rfl⟩, gw_at 622 (by decide +kernel) rfl⟩
theorem ks_X8_23 : KS RX8 23 yJ7_fill_53178 := ⟨Or.inl (gw_at 896 (by decide +kernel) rfl), gw_at 897 (by decide +kernel) rfl⟩
theorem kw_X8_23 : Cond.methodLink RX8 23 yJ7_fill_53178 ∈ GW := gw_at 896 (by decide +kernel) rfl
theorem kv_X8_29 : KV RX8 29 yX1_releasedOn := ⟨Or.inr ⟨"Campground", gw_at 919 (by decide +kernel) rfl⟩, gw_at 853 (by decide +kernel) rfl, gw_at 30 (by decide +kernel) rfl⟩
theorem kv_X8_39 : KV RX8 39 yX0_takenOn := ⟨Or.inr ⟨"Campground", gw_at 920 (by decide +kernel) rfl⟩, gw_at 869 (by decide +kernel) rfl, gw_at 32 (by decide +kernel) rfl⟩
theorem kv_X8_51 : KV RX8 51 yX2_windowOf := ⟨Or.inr ⟨"Campground", gw_at 911 (by decide +kernel) rfl⟩, gw_at 913 (by decide +kernel) rfl, gw_at 38 (by decide +kernel) rfl⟩
theorem kv_X8_57 : KV RX8 57 yX8_leavesWindow := ⟨Or.inl (gw_at 907 (by decide +kernel) rfl), gw_at 909 (by decide +kernel) rfl, gw_at 37 (by decide +kernel) rfl⟩
theorem kw_X8_57 : Cond.methodLink RX8 57 yX8_leavesWindow ∈ GW := gw_at 907 (by decide +kernel) rfl
theorem kv_X8_61 : KV RX8 61 yX8_isFree := ⟨Or.inl (gw_at 915 (by decide +kernel) rfl), gw_at 917 (by decide +kernel) rfl, gw_at 39 (by decide +kernel) rfl⟩
theorem kw_X8_61 : Cond.methodLink RX8 61 yX8_isFree ∈ GW := gw_at 915 (by decide +kernel) rfl
theorem kv_X8_65 : KV RX8 65 yX8_obstacleToNights := ⟨Or.inl (gw_at 903 (by decide +kernel) rfl), gw_at 905 (by decide +kernel) rfl, gw_at 36 (by decide +kernel) rfl⟩
theorem kw_X8_65 : Cond.methodLink RX8 65 yX8_obstacleToNights ∈ GW := gw_at 903 (by decide +kernel) rfl
theorem kv_X8_72 : KV RX8 72 yX5_minimumOn := ⟨Or.inr ⟨"Campground", gw_at 921 (by decide +kernel) rfl⟩, gw_at 812 (by decide +kernel) rfl, gw_at 25 (by decide +kernel) rfl⟩
theorem kv_L_7 : KV RL 7 yX9_addClass := ⟨Or.inl (gw_at 661 (by decide +kernel) rfl), gw_at 662 (by decide +kernel) rfl, gw_at 663 (by decide +kernel) rfl⟩
theorem kw_L_7 : Cond.methodLink RL 7 yX9_addClass ∈ GW := gw_at 661 (by decide +kernel) rfl
theorem kv_L_17 : KV RL 17 yX9_addSite := ⟨Or.inl (gw_at 756 (by decide +kernel) rfl), gw_at 757 (by decide +kernel) rfl, gw_at 758 (by decide +kernel) rfl⟩
theorem kw_L_17 : Cond.methodLink RL 17 yX9_addSite ∈ GW := gw_at 756 (by decide +kernel) rfl
theorem kv_L_23 : KV RL 23 yX9_addSeason := ⟨Or.inl (gw_at 785 (by decide +kernel) rfl), gw_at 786 (by decide +kernel) rfl, gw_at 787 (by decide +kernel) rfl⟩
theorem kw_L_23 : Cond.methodLink RL 23 yX9_addSeason ∈ GW := gw_at 785 (by decide +kernel) rfl
theorem kv_L_27 : KV RL 27 yX9_classOf := ⟨Or.inl (gw_at 794 (by decide +kernel) rfl), gw_at 795 (by decide +kernel) rfl, gw_at 796 (by decide +kernel) rfl⟩
theorem kw_L_27 : Cond.methodLink RL 27 yX9_classOf ∈ GW := gw_at 794 (by decide +kernel) rfl
theorem kv_L_30 : KV RL 30 yX9_minimum := ⟨Or.inl (gw_at 806 (by decide +kernel) rfl), gw_at 807 (by decide +kernel) rfl, gw_at 808 (by decide +kernel) rfl⟩
theorem kw_L_30 : Cond.methodLink RL 30 yX9_minimum ∈ GW := gw_at 806 (by decide +kernel) rfl
theorem kv_L_34 : KV RL 34 yX9_price := ⟨Or.inl (gw_at 821 (by decide +kernel) rfl), gw_at 822 (by decide +kernel) rfl, gw_at 823 (by decide +kernel) rfl⟩
theorem kw_L_34 : Cond.methodLink RL 34 yX9_price ∈ GW := gw_at 821 (by decide +kernel) rfl
theorem kv_L_37 : KV RL 37 yX9_capacity := ⟨Or.inl (gw_at 832 (by decide +kernel) rfl), gw_at 833 (by decide +kernel) rfl, gw_at 834 (by decide +kernel) rfl⟩
theorem kw_L_37 : Cond.methodLink RL 37 yX9_capacity ∈ GW := gw_at 832 (by decide +kernel) rfl
theorem kv_L_40 : KV RL 40 yX9_released := ⟨Or.inl (gw_at 847 (by decide +kernel) rfl), gw_at 848 (by decide +kernel) rfl, gw_at 849 (by decide +kernel) rfl⟩
theorem kw_L_40 : Cond.methodLink RL 40 yX9_released ∈ GW := gw_at 847 (by decide +kernel) rfl
theorem kv_L_43 : KV RL 43 yX9_taken := ⟨Or.inl (gw_at 863 (by decide +kernel) rfl), gw_at 864 (by decide +kernel) rfl, gw_at 865 (by decide +kernel) rfl⟩
theorem kw_L_43 : Cond.methodLink RL 43 yX9_taken ∈ GW := gw_at 863 (by decide +kernel) rfl
theorem kv_L_46 : KV RL 46 yX9_available := ⟨Or.inl (gw_at 878 (by decide +kernel) rfl), gw_at 879 (by decide +kernel) rfl, gw_at 880 (by decide +kernel) rfl⟩
theorem kw_L_46 : Cond.methodLink RL 46 yX9_available ∈ GW := gw_at 878 (by decide +kernel) rfl
theorem kv_L_49 : KV RL 49 yX9_obstacle := ⟨Or.inl (gw_at 888 (by decide +kernel) rfl), gw_at 889 (by decide +kernel) rfl, gw_at 890 (by decide +kernel) rfl⟩
theorem kw_L_49 : Cond.methodLink RL 49 yX9_obstacle ∈ GW := gw_at 888 (by decide +kernel) rfl
theorem kv_L_52 : KV RL 52 yX9_longestStay := ⟨Or.inl (gw_at 925 (by decide +kernel) rfl), gw_at 926 (by decide +kernel) rfl, gw_at 927 (by decide +kernel) rfl⟩
theorem kw_L_52 : Cond.methodLink RL 52 yX9_longestStay ∈ GW := gw_at 925 (by decide +kernel) rfl
theorem kv_L_55 : KV RL 55 yX9_cheapestArrival := ⟨Or.inl (gw_at 932 (by decide +kernel) rfl), gw_at 933 (by decide +kernel) rfl, gw_at 934 (by decide +kernel) rfl⟩
theorem kw_L_55 : Cond.methodLink RL 55 yX9_cheapestArrival ∈ GW := gw_at 932 (by decide +kernel) rfl
theorem kv_L_59 : KV RL 59 yX9_nextGap := ⟨Or.inl (gw_at 944 (by decide +kernel) rfl), gw_at 945 (by decide +kernel) rfl, gw_at 946 (by decide +kernel) rfl⟩
theorem kw_L_59 : Cond.methodLink RL 59 yX9_nextGap ∈ GW := gw_at 944 (by decide +kernel) rfl
theorem kv_L_62 : KV RL 62 yX9_book := ⟨Or.inl (gw_at 952 (by decide +kernel) rfl), gw_at 953 (by decide +kernel) rfl, gw_at 954 (by decide +kernel) rfl⟩
theorem kw_L_62 : Cond.methodLink RL 62 yX9_book ∈ GW := gw_at 952 (by decide +kernel) rfl
theorem kv_L_65 : KV RL 65 yX9_bookingState := ⟨Or.inl (gw_at 973 (by decide +kernel) rfl), gw_at 974 (by decide +kernel) rfl, gw_at 975 (by decide +kernel) rfl⟩
theorem kw_L_65 : Cond.methodLink RL 65 yX9_bookingState ∈ GW := gw_at 973 (by decide +kernel) rfl
theorem kv_L_68 : KV RL 68 yX9_bookingClass := ⟨Or.inl (gw_at 985 (by decide +kernel) rfl), gw_at 986 (by decide +kernel) rfl, gw_at 987 (by decide +kernel) rfl⟩
theorem kw_L_68 : Cond.methodLink RL 68 yX9_bookingClass ∈ GW := gw_at 985 (by decide +kernel) rfl
theorem kv_L_71 : KV RL 71 yX9_arrival := ⟨Or.inl (gw_at 992 (by decide +kernel) rfl), gw_at 993 (by decide +kernel) rfl, gw_at 994 (by decide +kernel) rfl⟩
theorem kw_L_71 : Cond.methodLink RL 71 yX9_arrival ∈ GW := gw_at 992 (by decide +kernel) rfl
theorem kv_L_74 : KV RL 74 yX9_departure := ⟨Or.inl (gw_at 999 (by decide +kernel) rfl), gw_at 1000 (by decide +kernel) rfl, gw_at 1001 (by decide +kernel) rfl⟩
theorem kw_L_74 : Cond.methodLink RL 74 yX9_departure ∈ GW := gw_at 999 (by decide +kernel) rfl
theorem kv_L_77 : KV RL 77 yX9_cost := ⟨Or.inl (gw_at 1006 (by decide +kernel) rfl), gw_at 1007 (by decide +kernel) rfl, gw_at 1008 (by decide +kernel) rfl⟩
theorem kw_L_77 : Cond.methodLink RL 77 yX9_cost ∈ GW := gw_at 1006 (by decide +kernel) rfl
theorem kv_L_80 : KV RL 80 yX9_siteOf := ⟨Or.inl (gw_at 1013 (by decide +kernel) rfl), gw_at 1014 (by decide +kernel) rfl, gw_at 1015 (by decide +kernel) rfl⟩
theorem kw_L_80 : Cond.methodLink RL 80 yX9_siteOf ∈ GW := gw_at 1013 (by decide +kernel) rfl
theorem kv_L_83 : KV RL 83 yX9_cancel := ⟨Or.inl (gw_at 1020 (by decide +kernel) rfl), gw_at 1021 (by decide +kernel) rfl, gw_at 1022 (by decide +kernel) rfl⟩
theorem kw_L_83 : Cond.methodLink RL 83 yX9_cancel ∈ GW := gw_at 1020 (by decide +kernel) rfl
theorem kv_L_86 : KV RL 86 yX9_vacantSite := ⟨Or.inl (gw_at 1035 (by decide +kernel) rfl), gw_at 1036 (by decide +kernel) rfl, gw_at 1037 (by decide +kernel) rfl⟩
theorem kw_L_86 : Cond.methodLink RL 86 yX9_vacantSite ∈ GW := gw_at 1035 (by decide +kernel) rfl
theorem kv_L_89 : KV RL 89 yX9_checkIn := ⟨Or.inl (gw_at 1058 (by decide +kernel) rfl), gw_at 1059 (by decide +kernel) rfl, gw_at 1060 (by decide +kernel) rfl⟩
theorem kw_L_89 : Cond.methodLink RL 89 yX9_checkIn ∈ GW := gw_at 1058 (by decide +kernel) rfl
theorem kv_L_92 : KV RL 92 yX9_move := ⟨Or.inl (gw_at 1071 (by decide +kernel) rfl), gw_at 1072 (by decide +kernel) rfl, gw_at 1073 (by decide +kernel) rfl⟩
theorem kw_L_92 : Cond.methodLink RL 92 yX9_move ∈ GW := gw_at 1071 (by decide +kernel) rfl
theorem kv_L_95 : KV RL 95 yX9_departEarly := ⟨Or.inl (gw_at 1078 (by decide +kernel) rfl), gw_at 1079 (by decide +kernel) rfl, gw_at 1080 (by decide +kernel) rfl⟩
theorem kw_L_95 : Cond.methodLink RL 95 yX9_departEarly ∈ GW := gw_at 1078 (by decide +kernel) rfl
theorem kv_L_98 : KV RL 98 yX9_extend := ⟨Or.inl (gw_at 1089 (by decide +kernel) rfl), gw_at 1090 (by decide +kernel) rfl, gw_at 1091 (by decide +kernel) rfl⟩
theorem kw_L_98 : Cond.methodLink RL 98 yX9_extend ∈ GW := gw_at 1089 (by decide +kernel) rfl
theorem kv_L_101 : KV RL 101 yX9_endDays := ⟨Or.inl (gw_at 1098 (by decide +kernel) rfl), gw_at 1099 (by decide +kernel) rfl, gw_at 1100 (by decide +kernel) rfl⟩
theorem kw_L_101 : Cond.methodLink RL 101 yX9_endDays ∈ GW := gw_at 1098 (by decide +kernel) rfl
theorem kv_L_104 : KV RL 104 yX9_close := ⟨Or.inl (gw_at 1118 (by decide +kernel) rfl), gw_at 1119 (by decide +kernel) rfl, gw_at 1120 (by decide +kernel) rfl⟩
theorem kw_L_104 : Cond.methodLink RL 104 yX9_close ∈ GW := gw_at 1118 (by decide +kernel) rfl
theorem kv_L_108 : KV RL 108 yX9_open := ⟨Or.inl (gw_at 1131 (by decide +kernel) rfl), gw_at 1132 (by decide +kernel) rfl, gw_at 1133 (by decide +kernel) rfl⟩
theorem kw_L_108 : Cond.methodLink RL 108 yX9_open ∈ GW := gw_at 1131 (by decide +kernel) rfl
theorem kv_L_111 : KV RL 111 yX9_request := ⟨Or.inl (gw_at 1139 (by decide +kernel) rfl), gw_at 1140 (by decide +kernel) rfl, gw_at 1141 (by decide +kernel) rfl⟩
theorem kw_L_111 : Cond.methodLink RL 111 yX9_request ∈ GW := gw_at 1139 (by decide +kernel) rfl
theorem kv_L_114 : KV RL 114 yX9_requestState := ⟨Or.inl (gw_at 1151 (by decide +kernel) rfl), gw_at 1152 (by decide +kernel) rfl, gw_at 1153 (by decide +kernel) rfl⟩
theorem kw_L_114 : Cond.methodLink RL 114 yX9_requestState ∈ GW := gw_at 1151 (by decide +kernel) rfl
theorem kv_L_117 : KV RL 117 yX9_bookingOf := ⟨Or.inl (gw_at 1163 (by decide +kernel) rfl), gw_at 1164 (by decide +kernel) rfl, gw_at 1165 (by decide +kernel) rfl⟩
theorem kw_L_117 : Cond.methodLink RL 117 yX9_bookingOf ∈ GW := gw_at 1163 (by decide +kernel) rfl
theorem kv_L_120 : KV RL 120 yX9_withdraw := ⟨Or.inl (gw_at 1170 (by decide +kernel) rfl), gw_at 1171 (by decide +kernel) rfl, gw_at 1172 (by decide +kernel) rfl⟩
theorem kw_L_120 : Cond.methodLink RL 120 yX9_withdraw ∈ GW := gw_at 1170 (by decide +kernel) rfl
theorem kv_L_124 : KV RL 124 yX9_fill := ⟨Or.inl (gw_at 1177 (by decide +kernel) rfl), gw_at 1178 (by decide +kernel) rfl, gw_at 1179 (by decide +kernel) rfl⟩
theorem kw_L_124 : Cond.methodLink RL 124 yX9_fill ∈ GW := gw_at 1177 (by decide +kernel) rfl
theorem kv_L_127 : KV RL 127 yX9_planSite := ⟨Or.inl (gw_at 1197 (by decide +kernel) rfl), gw_at 1198 (by decide +kernel) rfl, gw_at 1199 (by decide +kernel) rfl⟩
theorem kw_L_127 : Cond.methodLink RL 127 yX9_planSite ∈ GW := gw_at 1197 (by decide +kernel) rfl
theorem kv_L_130 : KV RL 130 yX9_gapNights := ⟨Or.inl (gw_at 1227 (by decide +kernel) rfl), gw_at 1228 (by decide +kernel) rfl, gw_at 1229 (by decide +kernel) rfl⟩
theorem kw_L_130 : Cond.methodLink RL 130 yX9_gapNights ∈ GW := gw_at 1227 (by decide +kernel) rfl
theorem kv_L_133 : KV RL 133 yX9_orphanNights := ⟨Or.inl (gw_at 1234 (by decide +kernel) rfl), gw_at 1235 (by decide +kernel) rfl, gw_at 1236 (by decide +kernel) rfl⟩
theorem kw_L_133 : Cond.methodLink RL 133 yX9_orphanNights ∈ GW := gw_at 1234 (by decide +kernel) rfl
theorem kv_L_136 : KV RL 136 yX9_occupancyNumerator := ⟨Or.inl (gw_at 1241 (by decide +kernel) rfl), gw_at 1242 (by decide +kernel) rfl, gw_at 1243 (by decide +kernel) rfl⟩
theorem kw_L_136 : Cond.methodLink RL 136 yX9_occupancyNumerator ∈ GW := gw_at 1241 (by decide +kernel) rfl
theorem kv_L_139 : KV RL 139 yX9_occupancyDenominator := ⟨Or.inl (gw_at 1263 (by decide +kernel) rfl), gw_at 1264 (by decide +kernel) rfl, gw_at 1265 (by decide +kernel) rfl⟩
theorem kw_L_139 : Cond.methodLink RL 139 yX9_occupancyDenominator ∈ GW := gw_at 1263 (by decide +kernel) rfl
theorem kv_L_142 : KV RL 142 yX9_expected := ⟨Or.inl (gw_at 1270 (by decide +kernel) rfl), gw_at 1271 (by decide +kernel) rfl, gw_at 1272 (by decide +kernel) rfl⟩
theorem kw_L_142 : Cond.methodLink RL 142 yX9_expected ∈ GW := gw_at 1270 (by decide +kernel) rfl
theorem kv_L_146 : KV RL 146 yX9_dearestBooking := ⟨Or.inl (gw_at 1285 (by decide +kernel) rfl), gw_at 1286 (by decide +kernel) rfl, gw_at 1287 (by decide +kernel) rfl⟩
theorem kw_L_146 : Cond.methodLink RL 146 yX9_dearestBooking ∈ GW := gw_at 1285 (by decide +kernel) rfl
theorem kv_L_149 : KV RL 149 yX9_busiestNight := ⟨Or.inl (gw_at 1296 (by decide +kernel) rfl), gw_at 1297 (by decide +kernel) rfl, gw_at 1298 (by decide +kernel) rfl⟩
theorem kw_L_149 : Cond.methodLink RL 149 yX9_busiestNight ∈ GW := gw_at 1296 (by decide +kernel) rfl
theorem kv_L_152 : KV RL 152 yX9_appendText := ⟨Or.inl (gw_at 1303 (by decide +kernel) rfl), gw_at 1304 (by decide +kernel) rfl, gw_at 1305 (by decide +kernel) rfl⟩
theorem kw_L_152 : Cond.methodLink RL 152 yX9_appendText ∈ GW := gw_at 1303 (by decide +kernel) rfl
theorem kv_L_155 : KV RL 155 yX9_truncateText := ⟨Or.inl (gw_at 1311 (by decide +kernel) rfl), gw_at 1312 (by decide +kernel) rfl, gw_at 1313 (by decide +kernel) rfl⟩
theorem kw_L_155 : Cond.methodLink RL 155 yX9_truncateText ∈ GW := gw_at 1311 (by decide +kernel) rfl
theorem kv_L_158 : KV RL 158 yX9_save := ⟨Or.inl (gw_at 1318 (by decide +kernel) rfl), gw_at 1319 (by decide +kernel) rfl, gw_at 1320 (by decide +kernel) rfl⟩
theorem kw_L_158 : Cond.methodLink RL 158 yX9_save ∈ GW := gw_at 1318 (by decide +kernel) rfl
theorem kv_L_161 : KV RL 161 yX9_restore := ⟨Or.inl (gw_at 1325 (by decide +kernel) rfl), gw_at 1326 (by decide +kernel) rfl, gw_at 1327 (by decide +kernel) rfl⟩
theorem kw_L_161 : Cond.methodLink RL 161 yX9_restore ∈ GW := gw_at 1325 (by decide +kernel) rfl
theorem ki_L_164 : KI RL 164 yX9_init := ⟨Or.inl (gw_at 154 (by decide +kernel) rfl), rfl, gw_at 155 (by decide +kernel) rfl⟩
theorem ki_L_167 : KI RL 167 yX10_init := ⟨Or.inl (gw_at 1332 (by decide +kernel) rfl), rfl, gw_at 1333 (by decide +kernel) rfl⟩
theorem kv_L_173 : KV RL 173 yX10_addClass := ⟨Or.inl (gw_at 1399 (by decide +kernel) rfl), gw_at 1400 (by decide +kernel) rfl, gw_at 1401 (by decide +kernel) rfl⟩
theorem kw_L_173 : Cond.methodLink RL 173 yX10_addClass ∈ GW := gw_at 1399 (by decide +kernel) rfl
theorem kv_L_174 : KV RL 174 yX10_thrown := ⟨Or.inl (gw_at 1395 (by decide +kernel) rfl), gw_at 1396 (by decide +kernel) rfl, gw_at 1397 (by decide +kernel) rfl⟩
theorem kw_L_174 : Cond.methodLink RL 174 yX10_thrown ∈ GW := gw_at 1395 (by decide +kernel) rfl
theorem kv_L_181 : KV RL 181 yX10_addSite := ⟨Or.inl (gw_at 1414 (by decide +kernel) rfl), gw_at 1415 (by decide +kernel) rfl, gw_at 1416 (by decide +kernel) rfl⟩
theorem kw_L_181 : Cond.methodLink RL 181 yX10_addSite ∈ GW := gw_at 1414 (by decide +kernel) rfl
theorem kv_L_185 : KV RL 185 yX10_addSeason := ⟨Or.inl (gw_at 1426 (by decide +kernel) rfl), gw_at 1427 (by decide +kernel) rfl, gw_at 1428 (by decide +kernel) rfl⟩
theorem kw_L_185 : Cond.methodLink RL 185 yX10_addSeason ∈ GW := gw_at 1426 (by decide +kernel) rfl
theorem kv_L_186 : KV RL 186 yX9_classCount := ⟨Or.inl (gw_at 463 (by decide +kernel) rfl), gw_at 464 (by decide +kernel) rfl, gw_at 465 (by decide +kernel) rfl⟩
theorem kw_L_186 : Cond.methodLink RL 186 yX9_classCount ∈ GW := gw_at 463 (by decide +kernel) rfl
theorem kv_L_189 : KV RL 189 yX10_classCount := ⟨Or.inl (gw_at 1437 (by decide +kernel) rfl), gw_at 1438 (by decide +kernel) rfl, gw_at 1439 (by decide +kernel) rfl⟩
theorem kw_L_189 : Cond.methodLink RL 189 yX10_classCount ∈ GW := gw_at 1437 (by decide +kernel) rfl
theorem kv_L_190 : KV RL 190 yX9_siteCount := ⟨Or.inl (gw_at 467 (by decide +kernel) rfl), gw_at 468 (by decide +kernel) rfl, gw_at 469 (by decide +kernel) rfl⟩
theorem kw_L_190 : Cond.methodLink RL 190 yX9_siteCount ∈ GW := gw_at 467 (by decide +kernel) rfl
theorem kv_L_193 : KV RL 193 yX10_siteCount := ⟨Or.inl (gw_at 1441 (by decide +kernel) rfl), gw_at 1442 (by decide +kernel) rfl, gw_at 1443 (by decide +kernel) rfl⟩
theorem kw_L_193 : Cond.methodLink RL 193 yX10_siteCount ∈ GW := gw_at 1441 (by decide +kernel) rfl
theorem kv_L_196 : KV RL 196 yX10_classOf := ⟨Or.inl (gw_at 1445 (by decide +kernel) rfl), gw_at 1446 (by decide +kernel) rfl, gw_at 1447 (by decide +kernel) rfl⟩
theorem kw_L_196 : Cond.methodLink RL 196 yX10_classOf ∈ GW := gw_at 1445 (by decide +kernel) rfl
theorem kv_L_200 : KV RL 200 yX10_minimum := ⟨Or.inl (gw_at 1457 (by decide +kernel) rfl), gw_at 1458 (by decide +kernel) rfl, gw_at 1459 (by decide +kernel) rfl⟩
theorem kw_L_200 : Cond.methodLink RL 200 yX10_minimum ∈ GW := gw_at 1457 (by decide +kernel) rfl
theorem kv_L_203 : KV RL 203 yX10_price := ⟨Or.inl (gw_at 1473 (by decide +kernel) rfl), gw_at 1474 (by decide +kernel) rfl, gw_at 1475 (by decide +kernel) rfl⟩
theorem kw_L_203 : Cond.methodLink RL 203 yX10_price ∈ GW := gw_at 1473 (by decide +kernel) rfl
theorem kv_L_206 : KV RL 206 yX10_capacity := ⟨Or.inl (gw_at 1481 (by decide +kernel) rfl), gw_at 1482 (by decide +kernel) rfl, gw_at 1483 (by decide +kernel) rfl⟩
theorem kw_L_206 : Cond.methodLink RL 206 yX10_capacity ∈ GW := gw_at 1481 (by decide +kernel) rfl
theorem kv_L_209 : KV RL 209 yX10_released := ⟨Or.inl (gw_at 1497 (by decide +kernel) rfl), gw_at 1498 (by decide +kernel) rfl, gw_at 1499 (by decide +kernel) rfl⟩
theorem kw_L_209 : Cond.methodLink RL 209 yX10_released ∈ GW := gw_at 1497 (by decide +kernel) rfl
theorem kv_L_212 : KV RL 212 yX10_taken := ⟨Or.inl (gw_at 1510 (by decide +kernel) rfl), gw_at 1511 (by decide +kernel) rfl, gw_at 1512 (by decide +kernel) rfl⟩
theorem kw_L_212 : Cond.methodLink RL 212 yX10_taken ∈ GW := gw_at 1510 (by decide +kernel) rfl
theorem kv_L_215 : KV RL 215 yX10_available := ⟨Or.inl (gw_at 1526 (by decide +kernel) rfl), gw_at 1527 (by decide +kernel) rfl, gw_at 1528 (by decide +kernel) rfl⟩
theorem kw_L_215 : Cond.methodLink RL 215 yX10_available ∈ GW := gw_at 1526 (by decide +kernel) rfl
theorem kv_L_218 : KV RL 218 yX10_obstacle := ⟨Or.inl (gw_at 1535 (by decide +kernel) rfl), gw_at 1536 (by decide +kernel) rfl, gw_at 1537 (by decide +kernel) rfl⟩
theorem kw_L_218 : Cond.methodLink RL 218 yX10_obstacle ∈ GW := gw_at 1535 (by decide +kernel) rfl
theorem kv_L_221 : KV RL 221 yX10_longestStay := ⟨Or.inl (gw_at 1551 (by decide +kernel) rfl), gw_at 1552 (by decide +kernel) rfl, gw_at 1553 (by decide +kernel) rfl⟩
theorem kw_L_221 : Cond.methodLink RL 221 yX10_longestStay ∈ GW := gw_at 1551 (by decide +kernel) rfl
theorem kv_L_225 : KV RL 225 yX10_cheapestArrival := ⟨Or.inl (gw_at 1555 (by decide +kernel) rfl), gw_at 1556 (by decide +kernel) rfl, gw_at 1557 (by decide +kernel) rfl⟩
theorem kw_L_225 : Cond.methodLink RL 225 yX10_cheapestArrival ∈ GW := gw_at 1555 (by decide +kernel) rfl
theorem kv_L_228 : KV RL 228 yX10_nextGap := ⟨Or.inl (gw_at 1563 (by decide +kernel) rfl), gw_at 1564 (by decide +kernel) rfl, gw_at 1565 (by decide +kernel) rfl⟩
theorem kw_L_228 : Cond.methodLink RL 228 yX10_nextGap ∈ GW := gw_at 1563 (by decide +kernel) rfl
theorem kv_L_231 : KV RL 231 yX10_book := ⟨Or.inl (gw_at 1567 (by decide +kernel) rfl), gw_at 1568 (by decide +kernel) rfl, gw_at 1569 (by decide +kernel) rfl⟩
theorem kw_L_231 : Cond.methodLink RL 231 yX10_book ∈ GW := gw_at 1567 (by decide +kernel) rfl
theorem kv_L_232 : KV RL 232 yX9_bookingCount := ⟨Or.inl (gw_at 471 (by decide +kernel) rfl), gw_at 472 (by decide +kernel) rfl, gw_at 473 (by decide +kernel) rfl⟩
theorem kw_L_232 : Cond.methodLink RL 232 yX9_bookingCount ∈ GW := gw_at 471 (by decide +kernel) rfl
theorem kv_L_235 : KV RL 235 yX10_bookingCount := ⟨Or.inl (gw_at 1579 (by decide +kernel) rfl), gw_at 1580 (by decide +kernel) rfl, gw_at 1581 (by decide +kernel) rfl⟩
theorem kw_L_235 : Cond.methodLink RL 235 yX10_bookingCount ∈ GW := gw_at 1579 (by decide +kernel) rfl
theorem kv_L_238 : KV RL 238 yX10_bookingState := ⟨Or.inl (gw_at 1583 (by decide +kernel) rfl), gw_at 1584 (by decide +kernel) rfl, gw_at 1585 (by decide +kernel) rfl⟩
theorem kw_L_238 : Cond.methodLink RL 238 yX10_bookingState ∈ GW := gw_at 1583 (by decide +kernel) rfl
theorem kv_L_241 : KV RL 241 yX10_bookingClass := ⟨Or.inl (gw_at 1595 (by decide +kernel) rfl), gw_at 1596 (by decide +kernel) rfl, gw_at 1597 (by decide +kernel) rfl⟩
theorem kw_L_241 : Cond.methodLink RL 241 yX10_bookingClass ∈ GW := gw_at 1595 (by decide +kernel) rfl
theorem kv_L_244 : KV RL 244 yX10_arrival := ⟨Or.inl (gw_at 1599 (by decide +kernel) rfl), gw_at 1600 (by decide +kernel) rfl, gw_at 1601 (by decide +kernel) rfl⟩
theorem kw_L_244 : Cond.methodLink RL 244 yX10_arrival ∈ GW := gw_at 1599 (by decide +kernel) rfl
theorem kv_L_247 : KV RL 247 yX10_departure := ⟨Or.inl (gw_at 1603 (by decide +kernel) rfl), gw_at 1604 (by decide +kernel) rfl, gw_at 1605 (by decide +kernel) rfl⟩
theorem kw_L_247 : Cond.methodLink RL 247 yX10_departure ∈ GW := gw_at 1603 (by decide +kernel) rfl
theorem kv_L_250 : KV RL 250 yX10_cost := ⟨Or.inl (gw_at 1607 (by decide +kernel) rfl), gw_at 1608 (by decide +kernel) rfl, gw_at 1609 (by decide +kernel) rfl⟩
theorem kw_L_250 : Cond.methodLink RL 250 yX10_cost ∈ GW := gw_at 1607 (by decide +kernel) rfl
theorem kv_L_253 : KV RL 253 yX10_siteOf := ⟨Or.inl (gw_at 1611 (by decide +kernel) rfl), gw_at 1612 (by decide +kernel) rfl, gw_at 1613 (by decide +kernel) rfl⟩
theorem kw_L_253 : Cond.methodLink RL 253 yX10_siteOf ∈ GW := gw_at 1611 (by decide +kernel) rfl
theorem kv_L_256 : KV RL 256 yX10_cancel := ⟨Or.inl (gw_at 1615 (by decide +kernel) rfl), gw_at 1616 (by decide +kernel) rfl, gw_at 1617 (by decide +kernel) rfl⟩
theorem kw_L_256 : Cond.methodLink RL 256 yX10_cancel ∈ GW := gw_at 1615 (by decide +kernel) rfl
theorem kv_L_259 : KV RL 259 yX10_vacantSite := ⟨Or.inl (gw_at 1619 (by decide +kernel) rfl), gw_at 1620 (by decide +kernel) rfl, gw_at 1621 (by decide +kernel) rfl⟩
theorem kw_L_259 : Cond.methodLink RL 259 yX10_vacantSite ∈ GW := gw_at 1619 (by decide +kernel) rfl
theorem kv_L_262 : KV RL 262 yX10_checkIn := ⟨Or.inl (gw_at 1635 (by decide +kernel) rfl), gw_at 1636 (by decide +kernel) rfl, gw_at 1637 (by decide +kernel) rfl⟩
theorem kw_L_262 : Cond.methodLink RL 262 yX10_checkIn ∈ GW := gw_at 1635 (by decide +kernel) rfl
theorem kv_L_265 : KV RL 265 yX10_move := ⟨Or.inl (gw_at 1639 (by decide +kernel) rfl), gw_at 1640 (by decide +kernel) rfl, gw_at 1641 (by decide +kernel) rfl⟩
theorem kw_L_265 : Cond.methodLink RL 265 yX10_move ∈ GW := gw_at 1639 (by decide +kernel) rfl
theorem kv_L_268 : KV RL 268 yX10_departEarly := ⟨Or.inl (gw_at 1643 (by decide +kernel) rfl), gw_at 1644 (by decide +kernel) rfl, gw_at 1645 (by decide +kernel) rfl⟩
theorem kw_L_268 : Cond.methodLink RL 268 yX10_departEarly ∈ GW := gw_at 1643 (by decide +kernel) rfl
theorem kv_L_271 : KV RL 271 yX10_extend := ⟨Or.inl (gw_at 1647 (by decide +kernel) rfl), gw_at 1648 (by decide +kernel) rfl, gw_at 1649 (by decide +kernel) rfl⟩
theorem kw_L_271 : Cond.methodLink RL 271 yX10_extend ∈ GW := gw_at 1647 (by decide +kernel) rfl
theorem kv_L_274 : KV RL 274 yX10_endDays := ⟨Or.inl (gw_at 1651 (by decide +kernel) rfl), gw_at 1652 (by decide +kernel) rfl, gw_at 1653 (by decide +kernel) rfl⟩
theorem kw_L_274 : Cond.methodLink RL 274 yX10_endDays ∈ GW := gw_at 1651 (by decide +kernel) rfl
theorem kv_L_275 : KV RL 275 yX9_today := ⟨Or.inl (gw_at 475 (by decide +kernel) rfl), gw_at 476 (by decide +kernel) rfl, gw_at 477 (by decide +kernel) rfl⟩
theorem kw_L_275 : Cond.methodLink RL 275 yX9_today ∈ GW := gw_at 475 (by decide +kernel) rfl
theorem kv_L_278 : KV RL 278 yX10_today := ⟨Or.inl (gw_at 1667 (by decide +kernel) rfl), gw_at 1668 (by decide +kernel) rfl, gw_at 1669 (by decide +kernel) rfl⟩
theorem kw_L_278 : Cond.methodLink RL 278 yX10_today ∈ GW := gw_at 1667 (by decide +kernel) rfl
theorem kv_L_282 : KV RL 282 yX10_close := ⟨Or.inl (gw_at 1671 (by decide +kernel) rfl), gw_at 1672 (by decide +kernel) rfl, gw_at 1673 (by decide +kernel) rfl⟩
theorem kw_L_282 : Cond.methodLink RL 282 yX10_close ∈ GW := gw_at 1671 (by decide +kernel) rfl
theorem kv_L_285 : KV RL 285 yX10_open := ⟨Or.inl (gw_at 1679 (by decide +kernel) rfl), gw_at 1680 (by decide +kernel) rfl, gw_at 1681 (by decide +kernel) rfl⟩
theorem kw_L_285 : Cond.methodLink RL 285 yX10_open ∈ GW := gw_at 1679 (by decide +kernel) rfl
theorem kv_L_288 : KV RL 288 yX10_request := ⟨Or.inl (gw_at 1683 (by decide +kernel) rfl), gw_at 1684 (by decide +kernel) rfl, gw_at 1685 (by decide +kernel) rfl⟩
theorem kw_L_288 : Cond.methodLink RL 288 yX10_request ∈ GW := gw_at 1683 (by decide +kernel) rfl
theorem kv_L_291 : KV RL 291 yX10_requestState := ⟨Or.inl (gw_at 1691 (by decide +kernel) rfl), gw_at 1692 (by decide +kernel) rfl, gw_at 1693 (by decide +kernel) rfl⟩
theorem kw_L_291 : Cond.methodLink RL 291 yX10_requestState ∈ GW := gw_at 1691 (by decide +kernel) rfl
theorem kv_L_294 : KV RL 294 yX10_bookingOf := ⟨Or.inl (gw_at 1699 (by decide +kernel) rfl), gw_at 1700 (by decide +kernel) rfl, gw_at 1701 (by decide +kernel) rfl⟩
theorem kw_L_294 : Cond.methodLink RL 294 yX10_bookingOf ∈ GW := gw_at 1699 (by decide +kernel) rfl
theorem kv_L_298 : KV RL 298 yX10_withdraw := ⟨Or.inl (gw_at 1703 (by decide +kernel) rfl), gw_at 1704 (by decide +kernel) rfl, gw_at 1705 (by decide +kernel) rfl⟩
theorem kw_L_298 : Cond.methodLink RL 298 yX10_withdraw ∈ GW := gw_at 1703 (by decide +kernel) rfl
theorem kv_L_301 : KV RL 301 yX10_fill := ⟨Or.inl (gw_at 1707 (by decide +kernel) rfl), gw_at 1708 (by decide +kernel) rfl, gw_at 1709 (by decide +kernel) rfl⟩
theorem kw_L_301 : Cond.methodLink RL 301 yX10_fill ∈ GW := gw_at 1707 (by decide +kernel) rfl
theorem kv_L_304 : KV RL 304 yX10_planSite := ⟨Or.inl (gw_at 1719 (by decide +kernel) rfl), gw_at 1720 (by decide +kernel) rfl, gw_at 1721 (by decide +kernel) rfl⟩
theorem kw_L_304 : Cond.methodLink RL 304 yX10_planSite ∈ GW := gw_at 1719 (by decide +kernel) rfl
theorem kv_L_307 : KV RL 307 yX10_gapNights := ⟨Or.inl (gw_at 1739 (by decide +kernel) rfl), gw_at 1740 (by decide +kernel) rfl, gw_at 1741 (by decide +kernel) rfl⟩
theorem kw_L_307 : Cond.methodLink RL 307 yX10_gapNights ∈ GW := gw_at 1739 (by decide +kernel) rfl
theorem kv_L_310 : KV RL 310 yX10_orphanNights := ⟨Or.inl (gw_at 1747 (by decide +kernel) rfl), gw_at 1748 (by decide +kernel) rfl, gw_at 1749 (by decide +kernel) rfl⟩
theorem kw_L_310 : Cond.methodLink RL 310 yX10_orphanNights ∈ GW := gw_at 1747 (by decide +kernel) rfl
theorem kv_L_313 : KV RL 313 yX10_occupancyNumerator := ⟨Or.inl (gw_at 1751 (by decide +kernel) rfl), gw_at 1752 (by decide +kernel) rfl, gw_at 1753 (by decide +kernel) rfl⟩
theorem kw_L_313 : Cond.methodLink RL 313 yX10_occupancyNumerator ∈ GW := gw_at 1751 (by decide +kernel) rfl
theorem kv_L_316 : KV RL 316 yX10_occupancyDenominator := ⟨Or.inl (gw_at 1762 (by decide +kernel) rfl), gw_at 1763 (by decide +kernel) rfl, gw_at 1764 (by decide +kernel) rfl⟩
theorem kw_L_316 : Cond.methodLink RL 316 yX10_occupancyDenominator ∈ GW := gw_at 1762 (by decide +kernel) rfl
theorem kv_L_320 : KV RL 320 yX10_expected := ⟨Or.inl (gw_at 1766 (by decide +kernel) rfl), gw_at 1767 (by decide +kernel) rfl, gw_at 1768 (by decide +kernel) rfl⟩
theorem kw_L_320 : Cond.methodLink RL 320 yX10_expected ∈ GW := gw_at 1766 (by decide +kernel) rfl
theorem kv_L_323 : KV RL 323 yX10_dearestBooking := ⟨Or.inl (gw_at 1770 (by decide +kernel) rfl), gw_at 1771 (by decide +kernel) rfl, gw_at 1772 (by decide +kernel) rfl⟩
theorem kw_L_323 : Cond.methodLink RL 323 yX10_dearestBooking ∈ GW := gw_at 1770 (by decide +kernel) rfl
theorem kv_L_326 : KV RL 326 yX10_busiestNight := ⟨Or.inl (gw_at 1778 (by decide +kernel) rfl), gw_at 1779 (by decide +kernel) rfl, gw_at 1780 (by decide +kernel) rfl⟩
theorem kw_L_326 : Cond.methodLink RL 326 yX10_busiestNight ∈ GW := gw_at 1778 (by decide +kernel) rfl
theorem kv_L_327 : KV RL 327 yX9_revenue := ⟨Or.inl (gw_at 479 (by decide +kernel) rfl), gw_at 480 (by decide +kernel) rfl, gw_at 481 (by decide +kernel) rfl⟩
theorem kw_L_327 : Cond.methodLink RL 327 yX9_revenue ∈ GW := gw_at 479 (by decide +kernel) rfl
theorem kv_L_330 : KV RL 330 yX10_revenue := ⟨Or.inl (gw_at 1782 (by decide +kernel) rfl), gw_at 1783 (by decide +kernel) rfl, gw_at 1784 (by decide +kernel) rfl⟩
theorem kw_L_330 : Cond.methodLink RL 330 yX10_revenue ∈ GW := gw_at 1782 (by decide +kernel) rfl
theorem kv_L_333 : KV RL 333 yX10_appendText := ⟨Or.inl (gw_at 1786 (by decide +kernel) rfl), gw_at 1787 (by decide +kernel) rfl, gw_at 1788 (by decide +kernel) rfl⟩
theorem kw_L_333 : Cond.methodLink RL 333 yX10_appendText ∈ GW := gw_at 1786 (by decide +kernel) rfl
theorem kv_L_336 : KV RL 336 yX10_truncateText := ⟨Or.inl (gw_at 1790 (by decide +kernel) rfl), gw_at 1791 (by decide +kernel) rfl, gw_at 1792 (by decide +kernel) rfl⟩
theorem kw_L_336 : Cond.methodLink RL 336 yX10_truncateText ∈ GW := gw_at 1790 (by decide +kernel) rfl
theorem kv_L_337 : KV RL 337 yX9_load := ⟨Or.inl (gw_at 483 (by decide +kernel) rfl), gw_at 484 (by decide +kernel) rfl, gw_at 485 (by decide +kernel) rfl⟩
theorem kw_L_337 : Cond.methodLink RL 337 yX9_load ∈ GW := gw_at 483 (by decide +kernel) rfl
theorem kv_L_340 : KV RL 340 yX10_load := ⟨Or.inl (gw_at 1794 (by decide +kernel) rfl), gw_at 1795 (by decide +kernel) rfl, gw_at 1796 (by decide +kernel) rfl⟩
theorem kw_L_340 : Cond.methodLink RL 340 yX10_load ∈ GW := gw_at 1794 (by decide +kernel) rfl
theorem kv_L_341 : KV RL 341 yX9_errorCode := ⟨Or.inl (gw_at 648 (by decide +kernel) rfl), gw_at 649 (by decide +kernel) rfl, gw_at 650 (by decide +kernel) rfl⟩
theorem kw_L_341 : Cond.methodLink RL 341 yX9_errorCode ∈ GW := gw_at 648 (by decide +kernel) rfl
theorem kv_L_344 : KV RL 344 yX10_errorCode := ⟨Or.inl (gw_at 1855 (by decide +kernel) rfl), gw_at 1856 (by decide +kernel) rfl, gw_at 1857 (by decide +kernel) rfl⟩
theorem kw_L_344 : Cond.methodLink RL 344 yX10_errorCode ∈ GW := gw_at 1855 (by decide +kernel) rfl
theorem kv_L_345 : KV RL 345 yX9_errorPosition := ⟨Or.inl (gw_at 652 (by decide +kernel) rfl), gw_at 653 (by decide +kernel) rfl, gw_at 654 (by decide +kernel) rfl⟩
theorem kw_L_345 : Cond.methodLink RL 345 yX9_errorPosition ∈ GW := gw_at 652 (by decide +kernel) rfl
theorem kv_L_348 : KV RL 348 yX10_errorPosition := ⟨Or.inl (gw_at 1859 (by decide +kernel) rfl), gw_at 1860 (by decide +kernel) rfl, gw_at 1861 (by decide +kernel) rfl⟩
theorem kw_L_348 : Cond.methodLink RL 348 yX10_errorPosition ∈ GW := gw_at 1859 (by decide +kernel) rfl
theorem kv_L_351 : KV RL 351 yX10_save := ⟨Or.inl (gw_at 1863 (by decide +kernel) rfl), gw_at 1864 (by decide +kernel) rfl, gw_at 1865 (by decide +kernel) rfl⟩
theorem kw_L_351 : Cond.methodLink RL 351 yX10_save ∈ GW := gw_at 1863 (by decide +kernel) rfl
theorem kv_L_354 : KV RL 354 yX10_restore := ⟨Or.inl (gw_at 1867 (by decide +kernel) rfl), gw_at 1868 (by decide +kernel) rfl, gw_at 1869 (by decide +kernel) rfl⟩
theorem kw_L_354 : Cond.methodLink RL 354 yX10_restore ∈ GW := gw_at 1867 (by decide +kernel) rfl
theorem ks_X10_39 : KS RX10 39 yX10_isBetween := ⟨Or.inl (gw_at 1403 (by decide +kernel) rfl), gw_at 1404 (by decide +kernel) rfl⟩
theorem kw_X10_39 : Cond.methodLink RX10 39 yX10_isBetween ∈ GW := gw_at 1403 (by decide +kernel) rfl
theorem kv_X10_43 : KV RX10 43 yX10_fail := ⟨Or.inl (gw_at 1406 (by decide +kernel) rfl), gw_at 1408 (by decide +kernel) rfl, gw_at 72 (by decide +kernel) rfl⟩
theorem kw_X10_43 : Cond.methodLink RX10 43 yX10_fail ∈ GW := gw_at 1406 (by decide +kernel) rfl
theorem kv_X10_47 : KV RX10 47 yX10_appendClass := ⟨Or.inl (gw_at 1410 (by decide +kernel) rfl), gw_at 1412 (by decide +kernel) rfl, gw_at 73 (by decide +kernel) rfl⟩
theorem kw_X10_47 : Cond.methodLink RX10 47 yX10_appendClass ∈ GW := gw_at 1410 (by decide +kernel) rfl
theorem kv_X10_51 : KV RX10 51 yX10_isClass := ⟨Or.inl (gw_at 1418 (by decide +kernel) rfl), gw_at 1420 (by decide +kernel) rfl, gw_at 74 (by decide +kernel) rfl⟩
theorem kw_X10_51 : Cond.methodLink RX10 51 yX10_isClass ∈ GW := gw_at 1418 (by decide +kernel) rfl
theorem kv_X10_55 : KV RX10 55 yX10_appendSite := ⟨Or.inl (gw_at 1422 (by decide +kernel) rfl), gw_at 1424 (by decide +kernel) rfl, gw_at 75 (by decide +kernel) rfl⟩
theorem kw_X10_55 : Cond.methodLink RX10 55 yX10_appendSite ∈ GW := gw_at 1422 (by decide +kernel) rfl
theorem ks_X10_58 : KS RX10 58 yX10_isDay := ⟨Or.inl (gw_at 1430 (by decide +kernel) rfl), gw_at 1431 (by decide +kernel) rfl⟩
theorem kw_X10_58 : Cond.methodLink RX10 58 yX10_isDay ∈ GW := gw_at 1430 (by decide +kernel) rfl
theorem kv_X10_61 : KV RX10 61 yX10_appendSeason := ⟨Or.inl (gw_at 1433 (by decide +kernel) rfl), gw_at 1435 (by decide +kernel) rfl, gw_at 76 (by decide +kernel) rfl⟩
theorem kw_X10_61 : Cond.methodLink RX10 61 yX10_appendSeason ∈ GW := gw_at 1433 (by decide +kernel) rfl
theorem kv_X10_65 : KV RX10 65 yX10_isSite := ⟨Or.inl (gw_at 1449 (by decide +kernel) rfl), gw_at 1451 (by decide +kernel) rfl, gw_at 77 (by decide +kernel) rfl⟩
theorem kw_X10_65 : Cond.methodLink RX10 65 yX10_isSite ∈ GW := gw_at 1449 (by decide +kernel) rfl
theorem kv_X10_68 : KV RX10 68 yX10_site := ⟨Or.inl (gw_at 1453 (by decide +kernel) rfl), gw_at 1455 (by decide +kernel) rfl, gw_at 78 (by decide +kernel) rfl⟩
theorem kw_X10_68 : Cond.methodLink RX10 68 yX10_site ∈ GW := gw_at 1453 (by decide +kernel) rfl
theorem kv_X10_72 : KV RX10 72 yX10_season := ⟨Or.inl (gw_at 1469 (by decide +kernel) rfl), gw_at 1471 (by decide +kernel) rfl, gw_at 81 (by decide +kernel) rfl⟩
theorem kw_X10_72 : Cond.methodLink RX10 72 yX10_season ∈ GW := gw_at 1469 (by decide +kernel) rfl
theorem kv_X10_75 : KV RX10 75 yX10_seasonOf := ⟨Or.inl (gw_at 1465 (by decide +kernel) rfl), gw_at 1467 (by decide +kernel) rfl, gw_at 80 (by decide +kernel) rfl⟩
theorem kw_X10_75 : Cond.methodLink RX10 75 yX10_seasonOf ∈ GW := gw_at 1465 (by decide +kernel) rfl
theorem kv_X10_78 : KV RX10 78 yX10_priceOf := ⟨Or.inl (gw_at 1477 (by decide +kernel) rfl), gw_at 1479 (by decide +kernel) rfl, gw_at 82 (by decide +kernel) rfl⟩
theorem kw_X10_78 : Cond.methodLink RX10 78 yX10_priceOf ∈ GW := gw_at 1477 (by decide +kernel) rfl
theorem kv_X10_81 : KV RX10 81 yX10_minimumOf := ⟨Or.inl (gw_at 1461 (by decide +kernel) rfl), gw_at 1463 (by decide +kernel) rfl, gw_at 79 (by decide +kernel) rfl⟩
theorem kw_X10_81 : Cond.methodLink RX10 81 yX10_minimumOf ∈ GW := gw_at 1461 (by decide +kernel) rfl
theorem kv_X10_84 : KV RX10 84 yX10_isOpenOn := ⟨Or.inl (gw_at 1489 (by decide +kernel) rfl), gw_at 1491 (by decide +kernel) rfl, gw_at 84 (by decide +kernel) rfl⟩
theorem kw_X10_84 : Cond.methodLink RX10 84 yX10_isOpenOn ∈ GW := gw_at 1489 (by decide +kernel) rfl
theorem kv_X10_88 : KV RX10 88 yX10_isNight := ⟨Or.inl (gw_at 1493 (by decide +kernel) rfl), gw_at 1495 (by decide +kernel) rfl, gw_at 85 (by decide +kernel) rfl⟩
theorem kw_X10_88 : Cond.methodLink RX10 88 yX10_isNight ∈ GW := gw_at 1493 (by decide +kernel) rfl
theorem kv_X10_91 : KV RX10 91 yX10_siteClass := ⟨Or.inl (gw_at 1505 (by decide +kernel) rfl), gw_at 1507 (by decide +kernel) rfl, gw_at 87 (by decide +kernel) rfl⟩
theorem kw_X10_91 : Cond.methodLink RX10 91 yX10_siteClass ∈ GW := gw_at 1505 (by decide +kernel) rfl
theorem kv_X10_94 : KV RX10 94 yX10_capacityOf := ⟨Or.inl (gw_at 1485 (by decide +kernel) rfl), gw_at 1487 (by decide +kernel) rfl, gw_at 83 (by decide +kernel) rfl⟩
theorem kw_X10_94 : Cond.methodLink RX10 94 yX10_capacityOf ∈ GW := gw_at 1485 (by decide +kernel) rfl
theorem km_X10_97 : KMin RX10 97 := ⟨gw_at 1509 (by decide +kernel) rfl, gw_at 492 (by decide +kernel) rfl, gw_at 145 (by decide +kernel) rfl, gw_at 493 (by decide +kernel) rfl⟩
theorem kv_X10_102 : KV RX10 102 yX10_booking := ⟨Or.inl (gw_at 1518 (by decide +kernel) rfl), gw_at 1520 (by decide +kernel) rfl, gw_at 89 (by decide +kernel) rfl⟩
theorem kw_X10_102 : Cond.methodLink RX10 102 yX10_booking ∈ GW := gw_at 1518 (by decide +kernel) rfl
theorem kv_X10_105 : KV RX10 105 yX10_isActive := ⟨Or.inl (gw_at 1522 (by decide +kernel) rfl), gw_at 1524 (by decide +kernel) rfl, gw_at 90 (by decide +kernel) rfl⟩
theorem kw_X10_105 : Cond.methodLink RX10 105 yX10_isActive ∈ GW := gw_at 1522 (by decide +kernel) rfl
theorem kv_X10_108 : KV RX10 108 yX10_releasedOf := ⟨Or.inl (gw_at 1501 (by decide +kernel) rfl), gw_at 1503 (by decide +kernel) rfl, gw_at 86 (by decide +kernel) rfl⟩
theorem kw_X10_108 : Cond.methodLink RX10 108 yX10_releasedOf ∈ GW := gw_at 1501 (by decide +kernel) rfl
theorem kv_X10_111 : KV RX10 111 yX10_takenOf := ⟨Or.inl (gw_at 1514 (by decide +kernel) rfl), gw_at 1516 (by decide +kernel) rfl, gw_at 88 (by decide +kernel) rfl⟩
theorem kw_X10_111 : Cond.methodLink RX10 111 yX10_takenOf ∈ GW := gw_at 1514 (by decide +kernel) rfl
theorem km_X10_114 : KMax RX10 114 := ⟨gw_at 1534 (by decide +kernel) rfl, gw_at 883 (by decide +kernel) rfl, gw_at 145 (by decide +kernel) rfl, gw_at 884 (by decide +kernel) rfl⟩
theorem kv_X10_117 : KV RX10 117 yX10_availableOf := ⟨Or.inl (gw_at 1530 (by decide +kernel) rfl), gw_at 1532 (by decide +kernel) rfl, gw_at 91 (by decide +kernel) rfl⟩
theorem kw_X10_117 : Cond.methodLink RX10 117 yX10_availableOf ∈ GW := gw_at 1530 (by decide +kernel) rfl
theorem kv_X10_122 : KV RX10 122 yX10_nightsObstacle := ⟨Or.inl (gw_at 1546 (by decide +kernel) rfl), gw_at 1548 (by decide +kernel) rfl, gw_at 93 (by decide +kernel) rfl⟩
theorem kw_X10_122 : Cond.methodLink RX10 122 yX10_nightsObstacle ∈ GW := gw_at 1546 (by decide +kernel) rfl
theorem ks_X10_125 : KS RX10 125 yX10_isStay := ⟨Or.inl (gw_at 1539 (by decide +kernel) rfl), gw_at 1540 (by decide +kernel) rfl⟩
theorem kw_X10_125 : Cond.methodLink RX10 125 yX10_isStay ∈ GW := gw_at 1539 (by decide +kernel) rfl
theorem kv_X10_128 : KV RX10 128 yX10_obstacleOf := ⟨Or.inl (gw_at 1542 (by decide +kernel) rfl), gw_at 1544 (by decide +kernel) rfl, gw_at 92 (by decide +kernel) rfl⟩
theorem kw_X10_128 : Cond.methodLink RX10 128 yX10_obstacleOf ∈ GW := gw_at 1542 (by decide +kernel) rfl
theorem kv_X10_131 : KV RX10 131 yX10_pricesOf := ⟨Or.inl (gw_at 1559 (by decide +kernel) rfl), gw_at 1561 (by decide +kernel) rfl, gw_at 94 (by decide +kernel) rfl⟩
theorem kw_X10_131 : Cond.methodLink RX10 131 yX10_pricesOf ∈ GW := gw_at 1559 (by decide +kernel) rfl
theorem kv_X10_134 : KV RX10 134 yX10_setBooking := ⟨Or.inl (gw_at 1575 (by decide +kernel) rfl), gw_at 1577 (by decide +kernel) rfl, gw_at 96 (by decide +kernel) rfl⟩
theorem kw_X10_134 : Cond.methodLink RX10 134 yX10_setBooking ∈ GW := gw_at 1575 (by decide +kernel) rfl
theorem kv_X10_138 : KV RX10 138 yX10_appendBooking := ⟨Or.inl (gw_at 1571 (by decide +kernel) rfl), gw_at 1573 (by decide +kernel) rfl, gw_at 95 (by decide +kernel) rfl⟩
theorem kw_X10_138 : Cond.methodLink RX10 138 yX10_appendBooking ∈ GW := gw_at 1571 (by decide +kernel) rfl
theorem kv_X10_141 : KV RX10 141 yX10_isBooking := ⟨Or.inl (gw_at 1591 (by decide +kernel) rfl), gw_at 1593 (by decide +kernel) rfl, gw_at 98 (by decide +kernel) rfl⟩
theorem kw_X10_141 : Cond.methodLink RX10 141 yX10_isBooking ∈ GW := gw_at 1591 (by decide +kernel) rfl
theorem kv_X10_144 : KV RX10 144 yX10_bookingField := ⟨Or.inl (gw_at 1587 (by decide +kernel) rfl), gw_at 1589 (by decide +kernel) rfl, gw_at 97 (by decide +kernel) rfl⟩
theorem kw_X10_144 : Cond.methodLink RX10 144 yX10_bookingField ∈ GW := gw_at 1587 (by decide +kernel) rfl
theorem kv_X10_147 : KV RX10 147 yX10_isOccupied := ⟨Or.inl (gw_at 1631 (by decide +kernel) rfl), gw_at 1633 (by decide +kernel) rfl, gw_at 101 (by decide +kernel) rfl⟩
theorem kw_X10_147 : Cond.methodLink RX10 147 yX10_isOccupied ∈ GW := gw_at 1631 (by decide +kernel) rfl
theorem kv_X10_150 : KV RX10 150 yX10_isVacant := ⟨Or.inl (gw_at 1627 (by decide +kernel) rfl), gw_at 1629 (by decide +kernel) rfl, gw_at 100 (by decide +kernel) rfl⟩
theorem kw_X10_150 : Cond.methodLink RX10 150 yX10_isVacant ∈ GW := gw_at 1627 (by decide +kernel) rfl
theorem kv_X10_153 : KV RX10 153 yX10_vacantSiteOf := ⟨Or.inl (gw_at 1623 (by decide +kernel) rfl), gw_at 1625 (by decide +kernel) rfl, gw_at 99 (by decide +kernel) rfl⟩
theorem kw_X10_153 : Cond.methodLink RX10 153 yX10_vacantSiteOf ∈ GW := gw_at 1623 (by decide +kernel) rfl
theorem kv_X10_156 : KV RX10 156 yX10_requestField := ⟨Or.inl (gw_at 1659 (by decide +kernel) rfl), gw_at 1661 (by decide +kernel) rfl, gw_at 103 (by decide +kernel) rfl⟩
theorem kw_X10_156 : Cond.methodLink RX10 156 yX10_requestField ∈ GW := gw_at 1659 (by decide +kernel) rfl
theorem kv_X10_159 : KV RX10 159 yX10_setRequest := ⟨Or.inl (gw_at 1663 (by decide +kernel) rfl), gw_at 1665 (by decide +kernel) rfl, gw_at 104 (by decide +kernel) rfl⟩
theorem kw_X10_159 : Cond.methodLink RX10 159 yX10_setRequest ∈ GW := gw_at 1663 (by decide +kernel) rfl
theorem kv_X10_162 : KV RX10 162 yX10_endDay := ⟨Or.inl (gw_at 1655 (by decide +kernel) rfl), gw_at 1657 (by decide +kernel) rfl, gw_at 102 (by decide +kernel) rfl⟩
theorem kw_X10_162 : Cond.methodLink RX10 162 yX10_endDay ∈ GW := gw_at 1655 (by decide +kernel) rfl
theorem kv_X10_165 : KV RX10 165 yX10_hasSpareSite := ⟨Or.inl (gw_at 1675 (by decide +kernel) rfl), gw_at 1677 (by decide +kernel) rfl, gw_at 105 (by decide +kernel) rfl⟩
theorem kw_X10_165 : Cond.methodLink RX10 165 yX10_hasSpareSite ∈ GW := gw_at 1675 (by decide +kernel) rfl
theorem kv_X10_168 : KV RX10 168 yX10_appendRequest := ⟨Or.inl (gw_at 1687 (by decide +kernel) rfl), gw_at 1689 (by decide +kernel) rfl, gw_at 106 (by decide +kernel) rfl⟩
theorem kw_X10_168 : Cond.methodLink RX10 168 yX10_appendRequest ∈ GW := gw_at 1687 (by decide +kernel) rfl
theorem kv_X10_171 : KV RX10 171 yX10_isRequest := ⟨Or.inl (gw_at 1695 (by decide +kernel) rfl), gw_at 1697 (by decide +kernel) rfl, gw_at 107 (by decide +kernel) rfl⟩
theorem kw_X10_171 : Cond.methodLink RX10 171 yX10_isRequest ∈ GW := gw_at 1695 (by decide +kernel) rfl
theorem kv_X10_174 : KV RX10 174 yX10_isAhead := ⟨Or.inl (gw_at 1715 (by decide +kernel) rfl), gw_at 1717 (by decide +kernel) rfl, gw_at 109 (by decide +kernel) rfl⟩
theorem kw_X10_174 : Cond.methodLink RX10 174 yX10_isAhead ∈ GW := gw_at 1715 (by decide +kernel) rfl
theorem kv_X10_177 : KV RX10 177 yX10_nextRequest := ⟨Or.inl (gw_at 1711 (by decide +kernel) rfl), gw_at 1713 (by decide +kernel) rfl, gw_at 108 (by decide +kernel) rfl⟩
theorem kw_X10_177 : Cond.methodLink RX10 177 yX10_nextRequest ∈ GW := gw_at 1711 (by decide +kernel) rfl
theorem kv_X10_186 : KV RX10 186 yX10_place := ⟨Or.inl (gw_at 1727 (by decide +kernel) rfl), gw_at 1729 (by decide +kernel) rfl, gw_at 111 (by decide +kernel) rfl⟩
theorem kw_X10_186 : Cond.methodLink RX10 186 yX10_place ∈ GW := gw_at 1727 (by decide +kernel) rfl
theorem kv_X10_190 : KV RX10 190 yX10_nextBooking := ⟨Or.inl (gw_at 1731 (by decide +kernel) rfl), gw_at 1733 (by decide +kernel) rfl, gw_at 112 (by decide +kernel) rfl⟩
theorem kw_X10_190 : Cond.methodLink RX10 190 yX10_nextBooking ∈ GW := gw_at 1731 (by decide +kernel) rfl
theorem kv_X10_193 : KV RX10 193 yX10_freeSite := ⟨Or.inl (gw_at 1735 (by decide +kernel) rfl), gw_at 1737 (by decide +kernel) rfl, gw_at 113 (by decide +kernel) rfl⟩
theorem kw_X10_193 : Cond.methodLink RX10 193 yX10_freeSite ∈ GW := gw_at 1735 (by decide +kernel) rfl
theorem kv_X10_196 : KV RX10 196 yX10_plan := ⟨Or.inl (gw_at 1723 (by decide +kernel) rfl), gw_at 1725 (by decide +kernel) rfl, gw_at 110 (by decide +kernel) rfl⟩
theorem kw_X10_196 : Cond.methodLink RX10 196 yX10_plan ∈ GW := gw_at 1723 (by decide +kernel) rfl
theorem kv_X10_199 : KV RX10 199 yX10_wrongPlan := ⟨Or.inl (gw_at 1743 (by decide +kernel) rfl), gw_at 1745 (by decide +kernel) rfl, gw_at 114 (by decide +kernel) rfl⟩
theorem kw_X10_199 : Cond.methodLink RX10 199 yX10_wrongPlan ∈ GW := gw_at 1743 (by decide +kernel) rfl
theorem ks_X10_202 : KS RX10 202 yX10_commonDivisor := ⟨Or.inl (gw_at 1759 (by decide +kernel) rfl), gw_at 1760 (by decide +kernel) rfl⟩
theorem kw_X10_202 : Cond.methodLink RX10 202 yX10_commonDivisor ∈ GW := gw_at 1759 (by decide +kernel) rfl
theorem kv_X10_205 : KV RX10 205 yX10_occupancy := ⟨Or.inl (gw_at 1755 (by decide +kernel) rfl), gw_at 1757 (by decide +kernel) rfl, gw_at 115 (by decide +kernel) rfl⟩
theorem kw_X10_205 : Cond.methodLink RX10 205 yX10_occupancy ∈ GW := gw_at 1755 (by decide +kernel) rfl
theorem kv_X10_209 : KV RX10 209 yX10_nightsOf := ⟨Or.inl (gw_at 1774 (by decide +kernel) rfl), gw_at 1776 (by decide +kernel) rfl, gw_at 116 (by decide +kernel) rfl⟩
theorem kw_X10_209 : Cond.methodLink RX10 209 yX10_nightsOf ∈ GW := gw_at 1774 (by decide +kernel) rfl
theorem kv_X10_219 : KV RX10 219 yX10_byteAt := ⟨Or.inl (gw_at 1805 (by decide +kernel) rfl), gw_at 1807 (by decide +kernel) rfl, gw_at 118 (by decide +kernel) rfl⟩
theorem kw_X10_219 : Cond.methodLink RX10 219 yX10_byteAt ∈ GW := gw_at 1805 (by decide +kernel) rfl
theorem ks_X10_238 : KS RX10 238 yX10_isLetter := ⟨Or.inl (gw_at 1809 (by decide +kernel) rfl), gw_at 1810 (by decide +kernel) rfl⟩
theorem kw_X10_238 : Cond.methodLink RX10 238 yX10_isLetter ∈ GW := gw_at 1809 (by decide +kernel) rfl
theorem ks_X10_245 : KS RX10 245 yX10_isDigit := ⟨Or.inl (gw_at 1814 (by decide +kernel) rfl), gw_at 1815 (by decide +kernel) rfl⟩
theorem kw_X10_245 : Cond.methodLink RX10 245 yX10_isDigit ∈ GW := gw_at 1814 (by decide +kernel) rfl
theorem kv_X10_261 : KV RX10 261 yX10_nextToken := ⟨Or.inl (gw_at 1801 (by decide +kernel) rfl), gw_at 1803 (by decide +kernel) rfl, gw_at 117 (by decide +kernel) rfl⟩
theorem kw_X10_261 : Cond.methodLink RX10 261 yX10_nextToken ∈ GW := gw_at 1801 (by decide +kernel) rfl
theorem kv_X10_264 : KV RX10 264 yX10_require := ⟨Or.inl (gw_at 1832 (by decide +kernel) rfl), gw_at 1834 (by decide +kernel) rfl, gw_at 122 (by decide +kernel) rfl⟩
theorem kw_X10_264 : Cond.methodLink RX10 264 yX10_require ∈ GW := gw_at 1832 (by decide +kernel) rfl
theorem kv_X10_268 : KV RX10 268 yX10_advanceToken := ⟨Or.inl (gw_at 1836 (by decide +kernel) rfl), gw_at 1838 (by decide +kernel) rfl, gw_at 123 (by decide +kernel) rfl⟩
theorem kw_X10_268 : Cond.methodLink RX10 268 yX10_advanceToken ∈ GW := gw_at 1836 (by decide +kernel) rfl
theorem kv_X10_271 : KV RX10 271 yX10_parseNumber := ⟨Or.inl (gw_at 1840 (by decide +kernel) rfl), gw_at 1842 (by decide +kernel) rfl, gw_at 124 (by decide +kernel) rfl⟩
theorem kw_X10_271 : Cond.methodLink RX10 271 yX10_parseNumber ∈ GW := gw_at 1840 (by decide +kernel) rfl
theorem kv_X10_276 : KV RX10 276 yX10_isWord := ⟨Or.inl (gw_at 1822 (by decide +kernel) rfl), gw_at 1824 (by decide +kernel) rfl, gw_at 120 (by decide +kernel) rfl⟩
theorem kw_X10_276 : Cond.methodLink RX10 276 yX10_isWord ∈ GW := gw_at 1822 (by decide +kernel) rfl
theorem kv_X10_280 : KV RX10 280 yX10_parseClass := ⟨Or.inl (gw_at 1828 (by decide +kernel) rfl), gw_at 1830 (by decide +kernel) rfl, gw_at 121 (by decide +kernel) rfl⟩
theorem kw_X10_280 : Cond.methodLink RX10 280 yX10_parseClass ∈ GW := gw_at 1828 (by decide +kernel) rfl
theorem kv_X10_284 : KV RX10 284 yX10_parseSites := ⟨Or.inl (gw_at 1845 (by decide +kernel) rfl), gw_at 1847 (by decide +kernel) rfl, gw_at 125 (by decide +kernel) rfl⟩
theorem kw_X10_284 : Cond.methodLink RX10 284 yX10_parseSites ∈ GW := gw_at 1845 (by decide +kernel) rfl
theorem kv_X10_288 : KV RX10 288 yX10_parseSeason := ⟨Or.inl (gw_at 1850 (by decide +kernel) rfl), gw_at 1852 (by decide +kernel) rfl, gw_at 126 (by decide +kernel) rfl⟩
theorem kw_X10_288 : Cond.methodLink RX10 288 yX10_parseSeason ∈ GW := gw_at 1850 (by decide +kernel) rfl
theorem ks_X10_293 : KS RX10 293 yX10_copy := ⟨Or.inl (gw_at 1798 (by decide +kernel) rfl), gw_at 1799 (by decide +kernel) rfl⟩
theorem kw_X10_293 : Cond.methodLink RX10 293 yX10_copy ∈ GW := gw_at 1798 (by decide +kernel) rfl
theorem kv_X10_297 : KV RX10 297 yX10_parseStatement := ⟨Or.inl (gw_at 1817 (by decide +kernel) rfl), gw_at 1819 (by decide +kernel) rfl, gw_at 119 (by decide +kernel) rfl⟩
theorem kw_X10_297 : Cond.methodLink RX10 297 yX10_parseStatement ∈ GW := gw_at 1817 (by decide +kernel) rfl
abbrev tX9_init : ATy := (RX9, cX9_init, 1, none, { frames := 3, cells := 62, slots := 2786, locals := 66 }, true)
abbrev tX9_addClass : ATy := (RX9, cX9_addClass, 4, (some .int), { frames := 7, cells := 4, slots := 24, locals := 112 }, false)
abbrev tX9_addSite : ATy := (RX9, cX9_addSite, 2, (some .int), { frames := 7, cells := 2, slots := 12, locals := 111 }, false)
abbrev tX9_addSeason : ATy := (RX9, cX9_addSeason, 6, (some .int), { frames := 7, cells := 6, slots := 36, locals := 112 }, false)
abbrev tX9_classCount : ATy := (RX9, cX9_classCount, 1, (some .int), { frames := 0, cells := 0, slots := 0, locals := 0 }, false)
abbrev tX9_siteCount : ATy := (RX9, cX9_siteCount, 1, (some .int), { frames := 0, cells := 0, slots := 0, locals := 0 }, false)
abbrev tX9_classOf : ATy := (RX9, cX9_classOf, 2, (some .int), { frames := 7, cells := 1, slots := 6, locals := 111 }, false)
abbrev tX9_minimum : ATy := (RX9, cX9_minimum, 3, (some .int), { frames := 7, cells := 2, slots := 12, locals := 112 }, false)
abbrev tX9_price : ATy := (RX9, cX9_price, 3, (some .int), { frames := 7, cells := 2, slots := 12, locals := 112 }, false)
abbrev tX9_capacity : ATy := (RX9, cX9_capacity, 3, (some .int), { frames := 7, cells := 1, slots := 6, locals := 111 }, false)
abbrev tX9_released : ATy := (RX9, cX9_released, 3, (some .int), { frames := 7, cells := 1, slots := 6, locals := 111 }, false)
abbrev tX9_taken : ATy := (RX9, cX9_taken, 3, (some .int), { frames := 7, cells := 1, slots := 6, locals := 111 }, false)
abbrev tX9_available : ATy := (RX9, cX9_available, 4, (some .int), { frames := 7, cells := 1, slots := 6, locals := 111 }, false)
abbrev tX9_obstacle : ATy := (RX9, cX9_obstacle, 4, (some .int), { frames := 7, cells := 2, slots := 12, locals := 116 }, false)
abbrev tX9_longestStay : ATy := (RX9, cX9_longestStay, 4, (some .int), { frames := 7, cells := 1, slots := 6, locals := 116 }, false)
abbrev tX9_cheapestArrival : ATy := (RX9, cX9_cheapestArrival, 9, (some .int), { frames := 7, cells := 4, slots := 24, locals := 116 }, false)
abbrev tX9_nextGap : ATy := (RX9, cX9_nextGap, 4, (some .int), { frames := 7, cells := 2, slots := 12, locals := 112 }, false)
abbrev tX9_book : ATy := (RX9, cX9_book, 4, (some .int), { frames := 7, cells := 3, slots := 18, locals := 116 }, false)
abbrev tX9_bookingCount : ATy := (RX9, cX9_bookingCount, 1, (some .int), { frames := 0, cells := 0, slots := 0, locals := 0 }, false)
abbrev tX9_bookingState : ATy := (RX9, cX9_bookingState, 2, (some .int), { frames := 7, cells := 1, slots := 6, locals := 111 }, false)
abbrev tX9_bookingClass : ATy := (RX9, cX9_bookingClass, 2, (some .int), { frames := 7, cells := 1, slots := 6, locals := 111 }, false)
abbrev tX9_arrival : ATy := (RX9, cX9_arrival, 2, (some .int), { frames := 7, cells := 1, slots := 6, locals := 111 }, false)
abbrev tX9_departure : ATy := (RX9, cX9_departure, 2, (some .int), { frames := 7, cells := 1, slots := 6, locals := 111 }, false)
abbrev tX9_cost : ATy := (RX9, cX9_cost, 2, (some .int), { frames := 7, cells := 1, slots := 6, locals := 111 }, false)
abbrev tX9_siteOf : ATy := (RX9, cX9_siteOf, 2, (some .int), { frames := 7, cells := 1, slots := 6, locals := 111 }, false)
abbrev tX9_cancel : ATy := (RX9, cX9_cancel, 3, (some .int), { frames := 7, cells := 2, slots := 12, locals := 111 }, false)
abbrev tX9_vacantSite : ATy := (RX9, cX9_vacantSite, 2, (some .int), { frames := 7, cells := 1, slots := 6, locals := 111 }, false)
abbrev tX9_checkIn : ATy := (RX9, cX9_checkIn, 5, (some .int), { frames := 7, cells := 6, slots := 36, locals := 112 }, false)
abbrev tX9_move : ATy := (RX9, cX9_move, 4, (some .int), { frames := 7, cells := 5, slots := 30, locals := 112 }, false)
abbrev tX9_departEarly : ATy := (RX9, cX9_departEarly, 3, (some .int), { frames := 7, cells := 2, slots := 12, locals := 111 }, false)
abbrev tX9_extend : ATy := (RX9, cX9_extend, 6, (some .int), { frames := 7, cells := 4, slots := 24, locals := 112 }, false)
abbrev tX9_endDays : ATy := (RX9, cX9_endDays, 3, (some .int), { frames := 7, cells := 2, slots := 12, locals := 112 }, false)
abbrev tX9_today : ATy := (RX9, cX9_today, 1, (some .int), { frames := 0, cells := 0, slots := 0, locals := 0 }, false)
abbrev tX9_close : ATy := (RX9, cX9_close, 3, none, { frames := 7, cells := 4, slots := 24, locals := 112 }, false)
abbrev tX9_open : ATy := (RX9, cX9_open, 3, (some .int), { frames := 7, cells := 2, slots := 12, locals := 111 }, false)
abbrev tX9_request : ATy := (RX9, cX9_request, 4, (some .int), { frames := 7, cells := 4, slots := 24, locals := 112 }, false)
abbrev tX9_requestState : ATy := (RX9, cX9_requestState, 2, (some .int), { frames := 7, cells := 1, slots := 6, locals := 111 }, false)
abbrev tX9_bookingOf : ATy := (RX9, cX9_bookingOf, 2, (some .int), { frames := 7, cells := 1, slots := 6, locals := 111 }, false)
abbrev tX9_withdraw : ATy := (RX9, cX9_withdraw, 2, none, { frames := 7, cells := 2, slots := 12, locals := 111 }, false)
abbrev tX9_fill : ATy := (RX9, cX9_fill, 4, (some .int), { frames := 7, cells := 1, slots := 6, locals := 140 }, false)
abbrev tX9_planSite : ATy := (RX9, cX9_planSite, 3, (some .int), { frames := 7, cells := 3, slots := 18, locals := 112 }, false)
abbrev tX9_gapNights : ATy := (RX9, cX9_gapNights, 3, (some .int), { frames := 7, cells := 2, slots := 12, locals := 112 }, false)
abbrev tX9_orphanNights : ATy := (RX9, cX9_orphanNights, 3, (some .int), { frames := 7, cells := 2, slots := 12, locals := 112 }, false)
abbrev tX9_occupancyNumerator : ATy := (RX9, cX9_occupancyNumerator, 6, (some .int), { frames := 8, cells := 3, slots := 18, locals := 134 }, false)
abbrev tX9_occupancyDenominator : ATy := (RX9, cX9_occupancyDenominator, 7, (some .int), { frames := 8, cells := 3, slots := 18, locals := 134 }, false)
abbrev tX9_expected : ATy := (RX9, cX9_expected, 7, (some .int), { frames := 7, cells := 2, slots := 12, locals := 112 }, false)
abbrev tX9_dearestBooking : ATy := (RX9, cX9_dearestBooking, 4, (some .int), { frames := 7, cells := 1, slots := 6, locals := 111 }, false)
abbrev tX9_busiestNight : ATy := (RX9, cX9_busiestNight, 8, (some .int), { frames := 8, cells := 3, slots := 18, locals := 134 }, false)
abbrev tX9_revenue : ATy := (RX9, cX9_revenue, 3, (some .int), { frames := 0, cells := 0, slots := 0, locals := 0 }, false)
abbrev tX9_appendText : ATy := (RX9, cX9_appendText, 3, (some .int), { frames := 6, cells := 1, slots := 6, locals := 90 }, false)
abbrev tX9_truncateText : ATy := (RX9, cX9_truncateText, 2, (some .int), { frames := 7, cells := 1, slots := 6, locals := 112 }, false)
abbrev tX9_load : ATy := (RX9, cX9_load, 2, (some .int), { frames := 8, cells := 0, slots := 0, locals := 205 }, false)
abbrev tX9_errorCode : ATy := (RX9, cX9_errorCode, 1, (some .int), { frames := 0, cells := 0, slots := 0, locals := 0 }, false)
abbrev tX9_errorPosition : ATy := (RX9, cX9_errorPosition, 1, (some .int), { frames := 0, cells := 0, slots := 0, locals := 0 }, false)
abbrev tX9_save : ATy := (RX9, cX9_save, 3, none, { frames := 7, cells := 28, slots := 602, locals := 112 }, false)
abbrev tX9_restore : ATy := (RX9, cX9_restore, 3, none, { frames := 7, cells := 2, slots := 12, locals := 112 }, false)
abbrev tX9_checkClass : ATy := (RX9, cX9_checkClass, 2, none, { frames := 6, cells := 1, slots := 6, locals := 90 }, false)
abbrev tX9_checkSite : ATy := (RX9, cX9_checkSite, 2, none, { frames := 6, cells := 1, slots := 6, locals := 90 }, false)
abbrev tX9_checkBooking : ATy := (RX9, cX9_checkBooking, 2, none, { frames := 6, cells := 1, slots := 6, locals := 90 }, false)
abbrev tX9_checkRequest : ATy := (RX9, cX9_checkRequest, 2, none, { frames := 6, cells := 1, slots := 6, locals := 90 }, false)
abbrev tX9_checkSameClass : ATy := (RX9, cX9_checkSameClass, 3, none, { frames := 6, cells := 1, slots := 6, locals := 90 }, false)
abbrev tX9_checkNights : ATy := (RX9, cX9_checkNights, 3, none, { frames := 7, cells := 2, slots := 12, locals := 112 }, false)
abbrev tX9_checkRange : ATy := (RX9, cX9_checkRange, 3, none, { frames := 6, cells := 1, slots := 6, locals := 90 }, false)
abbrev tX9_checkState : ATy := (RX9, cX9_checkState, 1, none, { frames := 6, cells := 1, slots := 6, locals := 90 }, false)
abbrev tX9_bestRequest : ATy := (RX9, cX9_bestRequest, 5, (some .int), { frames := 5, cells := 0, slots := 0, locals := 116 }, false)
abbrev tX9_commonDivisor : ATy := (RX9, cX9_commonDivisor, 6, (some .int), { frames := 0, cells := 0, slots := 0, locals := 0 }, false)
abbrev tX9_copyRow : ATy := (RX9, cX9_copyRow, 2, none, { frames := 1, cells := 0, slots := 0, locals := 45 }, false)
abbrev tX10_init : ATy := (RX10, cX10_init, 1, none, { frames := 1, cells := 7, slots := 2866, locals := 26 }, true)
abbrev tX10_thrown : ATy := (RX10, cX10_thrown, 1, (some .int), { frames := 0, cells := 0, slots := 0, locals := 0 }, false)
abbrev tX10_fail : ATy := (RX10, cX10_fail, 2, (some .int), { frames := 0, cells := 0, slots := 0, locals := 0 }, false)
abbrev tX10_isBetween : ATy := (RX10, cX10_isBetween, 3, (some .boolean), { frames := 0, cells := 0, slots := 0, locals := 0 }, false)
abbrev tX10_isClass : ATy := (RX10, cX10_isClass, 2, (some .boolean), { frames := 1, cells := 0, slots := 0, locals := 22 }, false)
abbrev tX10_isSite : ATy := (RX10, cX10_isSite, 2, (some .boolean), { frames := 1, cells := 0, slots := 0, locals := 22 }, false)
abbrev tX10_isBooking : ATy := (RX10, cX10_isBooking, 2, (some .boolean), { frames := 1, cells := 0, slots := 0, locals := 22 }, false)
abbrev tX10_isRequest : ATy := (RX10, cX10_isRequest, 2, (some .boolean), { frames := 1, cells := 0, slots := 0, locals := 22 }, false)
abbrev tX10_isDay : ATy := (RX10, cX10_isDay, 1, (some .boolean), { frames := 1, cells := 0, slots := 0, locals := 22 }, false)
abbrev tX10_isStay : ATy := (RX10, cX10_isStay, 1, (some .boolean), { frames := 1, cells := 0, slots := 0, locals := 22 }, false)
abbrev tX10_siteClass : ATy := (RX10, cX10_siteClass, 3, (some .int), { frames := 0, cells := 0, slots := 0, locals := 0 }, false)
abbrev tX10_site : ATy := (RX10, cX10_site, 3, (some .int), { frames := 0, cells := 0, slots := 0, locals := 0 }, false)
abbrev tX10_season : ATy := (RX10, cX10_season, 3, (some .int), { frames := 0, cells := 0, slots := 0, locals := 0 }, false)
abbrev tX10_booking : ATy := (RX10, cX10_booking, 3, (some .int), { frames := 0, cells := 0, slots := 0, locals := 0 }, false)
abbrev tX10_setBooking : ATy := (RX10, cX10_setBooking, 4, none, { frames := 0, cells := 0, slots := 0, locals := 0 }, false)
abbrev tX10_requestField : ATy := (RX10, cX10_requestField, 3, (some .int), { frames := 0, cells := 0, slots := 0, locals := 0 }, false)
abbrev tX10_setRequest : ATy := (RX10, cX10_setRequest, 4, none, { frames := 0, cells := 0, slots := 0, locals := 0 }, false)
abbrev tX10_copy : ATy := (RX10, cX10_copy, 5, none, { frames := 0, cells := 0, slots := 0, locals := 0 }, false)
abbrev tX10_appendClass : ATy := (RX10, cX10_appendClass, 5, (some .int), { frames := 0, cells := 0, slots := 0, locals := 0 }, false)
abbrev tX10_addClass : ATy := (RX10, cX10_addClass, 4, (some .int), { frames := 1, cells := 0, slots := 0, locals := 24 }, false)
abbrev tX10_appendSite : ATy := (RX10, cX10_appendSite, 3, (some .int), { frames := 0, cells := 0, slots := 0, locals := 0 }, false)
abbrev tX10_addSite : ATy := (RX10, cX10_addSite, 2, (some .int), { frames := 2, cells := 0, slots := 0, locals := 43 }, false)
abbrev tX10_appendSeason : ATy := (RX10, cX10_appendSeason, 7, (some .int), { frames := 0, cells := 0, slots := 0, locals := 0 }, false)
abbrev tX10_addSeason : ATy := (RX10, cX10_addSeason, 6, (some .int), { frames := 2, cells := 0, slots := 0, locals := 43 }, false)
abbrev tX10_classCount : ATy := (RX10, cX10_classCount, 1, (some .int), { frames := 0, cells := 0, slots := 0, locals := 0 }, false)
abbrev tX10_siteCount : ATy := (RX10, cX10_siteCount, 1, (some .int), { frames := 0, cells := 0, slots := 0, locals := 0 }, false)
abbrev tX10_classOf : ATy := (RX10, cX10_classOf, 2, (some .int), { frames := 2, cells := 0, slots := 0, locals := 43 }, false)
abbrev tX10_seasonOf : ATy := (RX10, cX10_seasonOf, 6, (some .int), { frames := 1, cells := 0, slots := 0, locals := 22 }, false)
abbrev tX10_minimumOf : ATy := (RX10, cX10_minimumOf, 4, (some .int), { frames := 2, cells := 0, slots := 0, locals := 47 }, false)
abbrev tX10_priceOf : ATy := (RX10, cX10_priceOf, 4, (some .int), { frames := 2, cells := 0, slots := 0, locals := 47 }, false)
abbrev tX10_pricesOf : ATy := (RX10, cX10_pricesOf, 6, (some .int), { frames := 3, cells := 0, slots := 0, locals := 70 }, false)
abbrev tX10_minimum : ATy := (RX10, cX10_minimum, 3, (some .int), { frames := 3, cells := 0, slots := 0, locals := 70 }, false)
abbrev tX10_price : ATy := (RX10, cX10_price, 3, (some .int), { frames := 3, cells := 0, slots := 0, locals := 70 }, false)
abbrev tX10_isNight : ATy := (RX10, cX10_isNight, 2, (some .boolean), { frames := 1, cells := 0, slots := 0, locals := 22 }, false)
abbrev tX10_isOpenOn : ATy := (RX10, cX10_isOpenOn, 3, (some .boolean), { frames := 1, cells := 0, slots := 0, locals := 22 }, false)
abbrev tX10_capacityOf : ATy := (RX10, cX10_capacityOf, 5, (some .int), { frames := 2, cells := 0, slots := 0, locals := 44 }, false)
abbrev tX10_releasedOf : ATy := (RX10, cX10_releasedOf, 4, (some .int), { frames := 3, cells := 0, slots := 0, locals := 68 }, false)
abbrev tX10_isActive : ATy := (RX10, cX10_isActive, 2, (some .boolean), { frames := 1, cells := 0, slots := 0, locals := 22 }, false)
abbrev tX10_takenOf : ATy := (RX10, cX10_takenOf, 6, (some .int), { frames := 2, cells := 0, slots := 0, locals := 43 }, false)
abbrev tX10_availableOf : ATy := (RX10, cX10_availableOf, 3, (some .int), { frames := 4, cells := 0, slots := 0, locals := 91 }, false)
abbrev tX10_capacity : ATy := (RX10, cX10_capacity, 3, (some .int), { frames := 3, cells := 0, slots := 0, locals := 68 }, false)
abbrev tX10_released : ATy := (RX10, cX10_released, 3, (some .int), { frames := 4, cells := 0, slots := 0, locals := 91 }, false)
abbrev tX10_taken : ATy := (RX10, cX10_taken, 3, (some .int), { frames := 3, cells := 0, slots := 0, locals := 68 }, false)
abbrev tX10_available : ATy := (RX10, cX10_available, 3, (some .int), { frames := 5, cells := 0, slots := 0, locals := 113 }, false)
abbrev tX10_nightsObstacle : ATy := (RX10, cX10_nightsObstacle, 7, (some .int), { frames := 5, cells := 0, slots := 0, locals := 113 }, false)
abbrev tX10_obstacleOf : ATy := (RX10, cX10_obstacleOf, 6, (some .int), { frames := 6, cells := 0, slots := 0, locals := 139 }, false)
abbrev tX10_obstacle : ATy := (RX10, cX10_obstacle, 4, (some .int), { frames := 7, cells := 0, slots := 0, locals := 164 }, false)
abbrev tX10_longestStay : ATy := (RX10, cX10_longestStay, 5, (some .int), { frames := 7, cells := 0, slots := 0, locals := 164 }, false)
abbrev tX10_cheapestArrival : ATy := (RX10, cX10_cheapestArrival, 9, (some .int), { frames := 7, cells := 0, slots := 0, locals := 164 }, false)
abbrev tX10_nextGap : ATy := (RX10, cX10_nextGap, 4, (some .int), { frames := 5, cells := 0, slots := 0, locals := 113 }, false)
abbrev tX10_appendBooking : ATy := (RX10, cX10_appendBooking, 5, (some .int), { frames := 4, cells := 0, slots := 0, locals := 95 }, false)
abbrev tX10_book : ATy := (RX10, cX10_book, 4, (some .int), { frames := 7, cells := 0, slots := 0, locals := 164 }, false)
abbrev tX10_bookingCount : ATy := (RX10, cX10_bookingCount, 1, (some .int), { frames := 0, cells := 0, slots := 0, locals := 0 }, false)
abbrev tX10_bookingField : ATy := (RX10, cX10_bookingField, 3, (some .int), { frames := 2, cells := 0, slots := 0, locals := 43 }, false)
abbrev tX10_bookingState : ATy := (RX10, cX10_bookingState, 2, (some .int), { frames := 3, cells := 0, slots := 0, locals := 65 }, false)
abbrev tX10_bookingClass : ATy := (RX10, cX10_bookingClass, 2, (some .int), { frames := 3, cells := 0, slots := 0, locals := 65 }, false)
abbrev tX10_arrival : ATy := (RX10, cX10_arrival, 2, (some .int), { frames := 3, cells := 0, slots := 0, locals := 65 }, false)
abbrev tX10_departure : ATy := (RX10, cX10_departure, 2, (some .int), { frames := 3, cells := 0, slots := 0, locals := 65 }, false)
abbrev tX10_cost : ATy := (RX10, cX10_cost, 2, (some .int), { frames := 3, cells := 0, slots := 0, locals := 65 }, false)
abbrev tX10_siteOf : ATy := (RX10, cX10_siteOf, 2, (some .int), { frames := 3, cells := 0, slots := 0, locals := 65 }, false)
abbrev tX10_cancel : ATy := (RX10, cX10_cancel, 5, (some .int), { frames := 2, cells := 0, slots := 0, locals := 43 }, false)
abbrev tX10_isOccupied : ATy := (RX10, cX10_isOccupied, 4, (some .boolean), { frames := 1, cells := 0, slots := 0, locals := 22 }, false)
abbrev tX10_isVacant : ATy := (RX10, cX10_isVacant, 2, (some .boolean), { frames := 2, cells := 0, slots := 0, locals := 45 }, false)
abbrev tX10_vacantSiteOf : ATy := (RX10, cX10_vacantSiteOf, 3, (some .int), { frames := 3, cells := 0, slots := 0, locals := 66 }, false)
abbrev tX10_vacantSite : ATy := (RX10, cX10_vacantSite, 2, (some .int), { frames := 4, cells := 0, slots := 0, locals := 88 }, false)
abbrev tX10_checkIn : ATy := (RX10, cX10_checkIn, 5, (some .int), { frames := 4, cells := 0, slots := 0, locals := 88 }, false)
abbrev tX10_move : ATy := (RX10, cX10_move, 4, (some .int), { frames := 3, cells := 0, slots := 0, locals := 66 }, false)
abbrev tX10_departEarly : ATy := (RX10, cX10_departEarly, 5, (some .int), { frames := 4, cells := 0, slots := 0, locals := 95 }, false)
abbrev tX10_extend : ATy := (RX10, cX10_extend, 6, (some .int), { frames := 6, cells := 0, slots := 0, locals := 139 }, false)
abbrev tX10_endDay : ATy := (RX10, cX10_endDay, 5, none, { frames := 1, cells := 0, slots := 0, locals := 23 }, false)
abbrev tX10_endDays : ATy := (RX10, cX10_endDays, 3, (some .int), { frames := 2, cells := 0, slots := 0, locals := 47 }, false)
abbrev tX10_today : ATy := (RX10, cX10_today, 1, (some .int), { frames := 0, cells := 0, slots := 0, locals := 0 }, false)
abbrev tX10_hasSpareSite : ATy := (RX10, cX10_hasSpareSite, 5, (some .boolean), { frames := 3, cells := 0, slots := 0, locals := 68 }, false)
abbrev tX10_close : ATy := (RX10, cX10_close, 3, none, { frames := 4, cells := 0, slots := 0, locals := 92 }, false)
abbrev tX10_open : ATy := (RX10, cX10_open, 3, (some .int), { frames := 2, cells := 0, slots := 0, locals := 44 }, false)
abbrev tX10_appendRequest : ATy := (RX10, cX10_appendRequest, 5, (some .int), { frames := 1, cells := 0, slots := 0, locals := 23 }, false)
abbrev tX10_request : ATy := (RX10, cX10_request, 4, (some .int), { frames := 2, cells := 0, slots := 0, locals := 47 }, false)
abbrev tX10_requestState : ATy := (RX10, cX10_requestState, 2, (some .int), { frames := 2, cells := 0, slots := 0, locals := 43 }, false)
abbrev tX10_bookingOf : ATy := (RX10, cX10_bookingOf, 2, (some .int), { frames := 2, cells := 0, slots := 0, locals := 43 }, false)
abbrev tX10_withdraw : ATy := (RX10, cX10_withdraw, 2, none, { frames := 2, cells := 0, slots := 0, locals := 43 }, false)
abbrev tX10_isAhead : ATy := (RX10, cX10_isAhead, 3, (some .boolean), { frames := 1, cells := 0, slots := 0, locals := 22 }, false)
abbrev tX10_nextRequest : ATy := (RX10, cX10_nextRequest, 5, (some .int), { frames := 7, cells := 0, slots := 0, locals := 164 }, false)
abbrev tX10_fill : ATy := (RX10, cX10_fill, 5, (some .int), { frames := 8, cells := 0, slots := 0, locals := 188 }, false)
abbrev tX10_place : ATy := (RX10, cX10_place, 5, none, { frames := 3, cells := 0, slots := 0, locals := 70 }, false)
abbrev tX10_freeSite : ATy := (RX10, cX10_freeSite, 7, (some .int), { frames := 2, cells := 0, slots := 0, locals := 44 }, false)
abbrev tX10_nextBooking : ATy := (RX10, cX10_nextBooking, 5, (some .int), { frames := 1, cells := 0, slots := 0, locals := 22 }, false)
abbrev tX10_plan : ATy := (RX10, cX10_plan, 4, none, { frames := 4, cells := 0, slots := 0, locals := 94 }, false)
abbrev tX10_planSite : ATy := (RX10, cX10_planSite, 3, (some .int), { frames := 5, cells := 0, slots := 0, locals := 117 }, false)
abbrev tX10_wrongPlan : ATy := (RX10, cX10_wrongPlan, 3, (some .int), { frames := 2, cells := 0, slots := 0, locals := 43 }, false)
abbrev tX10_gapNights : ATy := (RX10, cX10_gapNights, 3, (some .int), { frames := 5, cells := 0, slots := 0, locals := 117 }, false)
abbrev tX10_orphanNights : ATy := (RX10, cX10_orphanNights, 3, (some .int), { frames := 5, cells := 0, slots := 0, locals := 117 }, false)
abbrev tX10_commonDivisor : ATy := (RX10, cX10_commonDivisor, 5, (some .int), { frames := 0, cells := 0, slots := 0, locals := 0 }, false)
abbrev tX10_occupancy : ATy := (RX10, cX10_occupancy, 8, (some .int), { frames := 3, cells := 0, slots := 0, locals := 68 }, false)
abbrev tX10_occupancyNumerator : ATy := (RX10, cX10_occupancyNumerator, 4, (some .int), { frames := 4, cells := 0, slots := 0, locals := 95 }, false)
abbrev tX10_occupancyDenominator : ATy := (RX10, cX10_occupancyDenominator, 4, (some .int), { frames := 4, cells := 0, slots := 0, locals := 95 }, false)
abbrev tX10_expected : ATy := (RX10, cX10_expected, 9, (some .int), { frames := 2, cells := 0, slots := 0, locals := 43 }, false)
abbrev tX10_nightsOf : ATy := (RX10, cX10_nightsOf, 2, (some .long), { frames := 1, cells := 0, slots := 0, locals := 22 }, false)
abbrev tX10_dearestBooking : ATy := (RX10, cX10_dearestBooking, 5, (some .int), { frames := 2, cells := 0, slots := 0, locals := 43 }, false)
abbrev tX10_busiestNight : ATy := (RX10, cX10_busiestNight, 6, (some .int), { frames := 3, cells := 0, slots := 0, locals := 68 }, false)
abbrev tX10_revenue : ATy := (RX10, cX10_revenue, 3, (some .int), { frames := 1, cells := 0, slots := 0, locals := 22 }, false)
abbrev tX10_appendText : ATy := (RX10, cX10_appendText, 3, (some .int), { frames := 1, cells := 0, slots := 0, locals := 21 }, false)
abbrev tX10_truncateText : ATy := (RX10, cX10_truncateText, 2, (some .int), { frames := 1, cells := 0, slots := 0, locals := 22 }, false)
abbrev tX10_byteAt : ATy := (RX10, cX10_byteAt, 2, (some .int), { frames := 0, cells := 0, slots := 0, locals := 0 }, false)
abbrev tX10_isLetter : ATy := (RX10, cX10_isLetter, 1, (some .boolean), { frames := 1, cells := 0, slots := 0, locals := 22 }, false)
abbrev tX10_isDigit : ATy := (RX10, cX10_isDigit, 1, (some .boolean), { frames := 1, cells := 0, slots := 0, locals := 22 }, false)
abbrev tX10_nextToken : ATy := (RX10, cX10_nextToken, 2, none, { frames := 2, cells := 0, slots := 0, locals := 42 }, false)
abbrev tX10_isWord : ATy := (RX10, cX10_isWord, 5, (some .boolean), { frames := 5, cells := 0, slots := 0, locals := 141 }, false)
abbrev tX10_require : ATy := (RX10, cX10_require, 3, none, { frames := 0, cells := 0, slots := 0, locals := 0 }, false)
abbrev tX10_advanceToken : ATy := (RX10, cX10_advanceToken, 1, none, { frames := 3, cells := 0, slots := 0, locals := 63 }, false)
abbrev tX10_parseNumber : ATy := (RX10, cX10_parseNumber, 4, (some .int), { frames := 4, cells := 0, slots := 0, locals := 83 }, false)
abbrev tX10_parseClass : ATy := (RX10, cX10_parseClass, 5, none, { frames := 5, cells := 0, slots := 0, locals := 106 }, false)
abbrev tX10_parseSites : ATy := (RX10, cX10_parseSites, 4, none, { frames := 5, cells := 0, slots := 0, locals := 106 }, false)
abbrev tX10_parseSeason : ATy := (RX10, cX10_parseSeason, 7, none, { frames := 5, cells := 0, slots := 0, locals := 106 }, false)
abbrev tX10_parseStatement : ATy := (RX10, cX10_parseStatement, 2, none, { frames := 6, cells := 0, slots := 0, locals := 165 }, false)
abbrev tX10_load : ATy := (RX10, cX10_load, 2, (some .int), { frames := 7, cells := 0, slots := 0, locals := 186 }, false)
abbrev tX10_errorCode : ATy := (RX10, cX10_errorCode, 1, (some .int), { frames := 0, cells := 0, slots := 0, locals := 0 }, false)
abbrev tX10_errorPosition : ATy := (RX10, cX10_errorPosition, 1, (some .int), { frames := 0, cells := 0, slots := 0, locals := 0 }, false)
abbrev tX10_save : ATy := (RX10, cX10_save, 2, none, { frames := 1, cells := 0, slots := 0, locals := 24 }, false)
abbrev tX10_restore : ATy := (RX10, cX10_restore, 2, none, { frames := 1, cells := 0, slots := 0, locals := 24 }, false)
abbrev tX0_init : ATy := (RX0, cX0_init, 1, none, { frames := 1, cells := 6, slots := 360, locals := 26 }, true)
abbrev tX0_isFull : ATy := (RX0, cX0_isFull, 1, (some .boolean), { frames := 0, cells := 0, slots := 0, locals := 0 }, false)
abbrev tX0_add : ATy := (RX0, cX0_add, 5, (some .int), { frames := 0, cells := 0, slots := 0, locals := 0 }, false)
abbrev tX0_isActive : ATy := (RX0, cX0_isActive, 2, (some .boolean), { frames := 0, cells := 0, slots := 0, locals := 0 }, false)
abbrev tX0_isToArrive : ATy := (RX0, cX0_isToArrive, 3, (some .boolean), { frames := 0, cells := 0, slots := 0, locals := 0 }, false)
abbrev tX0_isToDepart : ATy := (RX0, cX0_isToDepart, 3, (some .boolean), { frames := 1, cells := 0, slots := 0, locals := 21 }, false)
abbrev tX0_takenOn : ATy := (RX0, cX0_takenOn, 5, (some .int), { frames := 1, cells := 0, slots := 0, locals := 21 }, false)
abbrev tX0_isSomebodyAt : ATy := (RX0, cX0_isSomebodyAt, 3, (some .boolean), { frames := 0, cells := 0, slots := 0, locals := 0 }, false)
abbrev tX0_isDearer : ATy := (RX0, cX0_isDearer, 7, (some .boolean), { frames := 0, cells := 0, slots := 0, locals := 0 }, false)
abbrev tX0_endNight : ATy := (RX0, cX0_endNight, 3, none, { frames := 0, cells := 0, slots := 0, locals := 0 }, false)
abbrev tX0_copyFrom : ATy := (RX0, cX0_copyFrom, 2, none, { frames := 2, cells := 0, slots := 0, locals := 66 }, false)
abbrev tX1_init : ATy := (RX1, cX1_init, 1, none, { frames := 2, cells := 26, slots := 590, locals := 46 }, true)
abbrev tX1_clear : ATy := (RX1, cX1_clear, 1, none, { frames := 0, cells := 0, slots := 0, locals := 0 }, false)
abbrev tX1_copyFrom : ATy := (RX1, cX1_copyFrom, 2, none, { frames := 3, cells := 0, slots := 0, locals := 87 }, false)
abbrev tX1_capacityOn : ATy := (RX1, cX1_capacityOn, 3, (some .int), { frames := 1, cells := 0, slots := 0, locals := 24 }, false)
abbrev tX1_releasedOn : ATy := (RX1, cX1_releasedOn, 3, (some .int), { frames := 1, cells := 0, slots := 0, locals := 24 }, false)
abbrev tX1_takenInAll : ATy := (RX1, cX1_takenInAll, 6, (some .int), { frames := 2, cells := 0, slots := 0, locals := 45 }, false)
abbrev tX1_capacityInAll : ATy := (RX1, cX1_capacityInAll, 6, (some .int), { frames := 2, cells := 0, slots := 0, locals := 46 }, false)
abbrev tX1_canSpare : ATy := (RX1, cX1_canSpare, 4, (some .boolean), { frames := 2, cells := 0, slots := 0, locals := 46 }, false)
abbrev tX1_isVacant : ATy := (RX1, cX1_isVacant, 2, (some .boolean), { frames := 1, cells := 0, slots := 0, locals := 22 }, false)
abbrev tX1_lowestVacantSite : ATy := (RX1, cX1_lowestVacantSite, 3, (some .int), { frames := 2, cells := 0, slots := 0, locals := 43 }, false)
abbrev tX1_addBooking : ATy := (RX1, cX1_addBooking, 6, (some .int), { frames := 3, cells := 0, slots := 0, locals := 71 }, false)
abbrev tX1_bookRequest : ATy := (RX1, cX1_bookRequest, 3, none, { frames := 4, cells := 0, slots := 0, locals := 96 }, false)
abbrev tX1_refundOfCancelling : ATy := (RX1, cX1_refundOfCancelling, 3, (some .int), { frames := 0, cells := 0, slots := 0, locals := 0 }, false)
abbrev tX1_refundOfDeparting : ATy := (RX1, cX1_refundOfDeparting, 3, (some .int), { frames := 3, cells := 0, slots := 0, locals := 71 }, false)
abbrev tX1_endToday : ATy := (RX1, cX1_endToday, 1, none, { frames := 1, cells := 0, slots := 0, locals := 22 }, false)
abbrev tX2_init : ATy := (RX2, cX2_init, 1, none, { frames := 1, cells := 3, slots := 12, locals := 26 }, true)
abbrev tX2_add : ATy := (RX2, cX2_add, 4, (some .int), { frames := 0, cells := 0, slots := 0, locals := 0 }, false)
abbrev tX2_limitAhead : ATy := (RX2, cX2_limitAhead, 3, (some .int), { frames := 0, cells := 0, slots := 0, locals := 0 }, false)
abbrev tX2_windowOf : ATy := (RX2, cX2_windowOf, 2, (some .int), { frames := 0, cells := 0, slots := 0, locals := 0 }, false)
abbrev tX2_copyFrom : ATy := (RX2, cX2_copyFrom, 2, none, { frames := 2, cells := 0, slots := 0, locals := 66 }, false)
abbrev tX3_init : ATy := (RX3, cX3_init, 2, none, { frames := 1, cells := 2, slots := 76, locals := 26 }, true)
abbrev tX3_make : ATy := (RX3, cX3_make, 6, none, { frames := 3, cells := 0, slots := 0, locals := 70 }, false)
abbrev tX3_placeStaying : ATy := (RX3, cX3_placeStaying, 5, none, { frames := 0, cells := 0, slots := 0, locals := 0 }, false)
abbrev tX3_nextToPlace : ATy := (RX3, cX3_nextToPlace, 5, (some .int), { frames := 0, cells := 0, slots := 0, locals := 0 }, false)
abbrev tX3_chooseSite : ATy := (RX3, cX3_chooseSite, 7, (some .int), { frames := 1, cells := 0, slots := 0, locals := 22 }, false)
abbrev tX3_countGap : ATy := (RX3, cX3_countGap, 5, none, { frames := 2, cells := 0, slots := 0, locals := 46 }, false)
abbrev tX4_init : ATy := (RX4, cX4_init, 1, none, { frames := 1, cells := 5, slots := 100, locals := 26 }, true)
abbrev tX4_add : ATy := (RX4, cX4_add, 4, (some .int), { frames := 0, cells := 0, slots := 0, locals := 0 }, false)
abbrev tX4_isBetter : ATy := (RX4, cX4_isBetter, 3, (some .boolean), { frames := 0, cells := 0, slots := 0, locals := 0 }, false)
abbrev tX4_expireBefore : ATy := (RX4, cX4_expireBefore, 3, none, { frames := 0, cells := 0, slots := 0, locals := 0 }, false)
abbrev tX4_copyFrom : ATy := (RX4, cX4_copyFrom, 2, none, { frames := 2, cells := 0, slots := 0, locals := 66 }, false)
abbrev tX5_init : ATy := (RX5, cX5_init, 1, none, { frames := 1, cells := 5, slots := 60, locals := 26 }, true)
abbrev tX5_add : ATy := (RX5, cX5_add, 6, (some .int), { frames := 0, cells := 0, slots := 0, locals := 0 }, false)
abbrev tX5_latestWith : ATy := (RX5, cX5_latestWith, 4, (some .int), { frames := 0, cells := 0, slots := 0, locals := 0 }, false)
abbrev tX5_minimumOn : ATy := (RX5, cX5_minimumOn, 4, (some .int), { frames := 1, cells := 0, slots := 0, locals := 23 }, false)
abbrev tX5_priceOn : ATy := (RX5, cX5_priceOn, 4, (some .int), { frames := 1, cells := 0, slots := 0, locals := 23 }, false)
abbrev tX5_priceOfNights : ATy := (RX5, cX5_priceOfNights, 6, (some .int), { frames := 2, cells := 0, slots := 0, locals := 46 }, false)
abbrev tX5_copyFrom : ATy := (RX5, cX5_copyFrom, 2, none, { frames := 2, cells := 0, slots := 0, locals := 66 }, false)
abbrev tX6_init : ATy := (RX6, cX6_init, 3, none, { frames := 1, cells := 0, slots := 0, locals := 26 }, true)
abbrev tX6_read : ATy := (RX6, cX6_read, 3, (some .int), { frames := 7, cells := 0, slots := 0, locals := 183 }, false)
abbrev tX6_readStatement : ATy := (RX6, cX6_readStatement, 1, (some .boolean), { frames := 6, cells := 0, slots := 0, locals := 163 }, false)
abbrev tX6_readClass : ATy := (RX6, cX6_readClass, 4, (some .boolean), { frames := 3, cells := 0, slots := 0, locals := 66 }, false)
abbrev tX6_readSites : ATy := (RX6, cX6_readSites, 4, (some .boolean), { frames := 3, cells := 0, slots := 0, locals := 66 }, false)
abbrev tX6_readSeason : ATy := (RX6, cX6_readSeason, 6, (some .boolean), { frames := 3, cells := 0, slots := 0, locals := 66 }, false)
abbrev tX6_readDay : ATy := (RX6, cX6_readDay, 2, (some .boolean), { frames := 3, cells := 0, slots := 0, locals := 66 }, false)
abbrev tX6_readSemicolon : ATy := (RX6, cX6_readSemicolon, 1, (some .boolean), { frames := 2, cells := 0, slots := 0, locals := 43 }, false)
abbrev tX6_readNumber : ATy := (RX6, cX6_readNumber, 4, (some .int), { frames := 2, cells := 0, slots := 0, locals := 43 }, false)
abbrev tX6_fail : ATy := (RX6, cX6_fail, 2, (some .boolean), { frames := 1, cells := 0, slots := 0, locals := 22 }, false)
abbrev tX6_failAt : ATy := (RX6, cX6_failAt, 3, (some .boolean), { frames := 0, cells := 0, slots := 0, locals := 0 }, false)
abbrev tX6_isWord : ATy := (RX6, cX6_isWord, 3, (some .boolean), { frames := 5, cells := 0, slots := 0, locals := 141 }, false)
abbrev tX6_step : ATy := (RX6, cX6_step, 1, none, { frames := 1, cells := 0, slots := 0, locals := 23 }, false)
abbrev tX6_isLetter : ATy := (RX6, cX6_isLetter, 1, (some .boolean), { frames := 0, cells := 0, slots := 0, locals := 0 }, false)
abbrev tX6_isDigit : ATy := (RX6, cX6_isDigit, 1, (some .boolean), { frames := 0, cells := 0, slots := 0, locals := 0 }, false)
abbrev tX7_init : ATy := (RX7, cX7_init, 1, none, { frames := 1, cells := 2, slots := 32, locals := 26 }, true)
abbrev tX7_add : ATy := (RX7, cX7_add, 2, (some .int), { frames := 0, cells := 0, slots := 0, locals := 0 }, false)
abbrev tX7_isClosed : ATy := (RX7, cX7_isClosed, 3, (some .boolean), { frames := 0, cells := 0, slots := 0, locals := 0 }, false)
abbrev tX7_countOpen : ATy := (RX7, cX7_countOpen, 5, (some .int), { frames := 0, cells := 0, slots := 0, locals := 0 }, false)
abbrev tX7_copyFrom : ATy := (RX7, cX7_copyFrom, 2, none, { frames := 2, cells := 0, slots := 0, locals := 66 }, false)
abbrev tX8_init : ATy := (RX8, cX8_init, 2, none, { frames := 1, cells := 1, slots := 999, locals := 26 }, true)
abbrev tX8_turnTo : ATy := (RX8, cX8_turnTo, 2, none, { frames := 1, cells := 0, slots := 0, locals := 23 }, false)
abbrev tX8_isFree : ATy := (RX8, cX8_isFree, 4, (some .boolean), { frames := 2, cells := 0, slots := 0, locals := 46 }, false)
abbrev tX8_leavesWindow : ATy := (RX8, cX8_leavesWindow, 4, (some .boolean), { frames := 1, cells := 0, slots := 0, locals := 21 }, false)
abbrev tX8_obstacleToNights : ATy := (RX8, cX8_obstacleToNights, 4, (some .int), { frames := 3, cells := 0, slots := 0, locals := 69 }, false)
abbrev tX8_obstacleToStay : ATy := (RX8, cX8_obstacleToStay, 5, (some .int), { frames := 4, cells := 0, slots := 0, locals := 92 }, false)
abbrev tL_addClass : ATy := (RL, cL_addClass, 6, (some .int), { frames := 8, cells := 4, slots := 24, locals := 135 }, false)
abbrev tL_addSite : ATy := (RL, cL_addSite, 4, (some .int), { frames := 8, cells := 2, slots := 12, locals := 132 }, false)
abbrev tL_addSeason : ATy := (RL, cL_addSeason, 8, (some .int), { frames := 8, cells := 6, slots := 36, locals := 137 }, false)
abbrev tL_classOf : ATy := (RL, cL_classOf, 4, (some .int), { frames := 8, cells := 1, slots := 6, locals := 132 }, false)
abbrev tL_minimum : ATy := (RL, cL_minimum, 5, (some .int), { frames := 8, cells := 2, slots := 12, locals := 134 }, false)
abbrev tL_price : ATy := (RL, cL_price, 5, (some .int), { frames := 8, cells := 2, slots := 12, locals := 134 }, false)
abbrev tL_capacity : ATy := (RL, cL_capacity, 5, (some .int), { frames := 8, cells := 1, slots := 6, locals := 133 }, false)
abbrev tL_released : ATy := (RL, cL_released, 5, (some .int), { frames := 8, cells := 1, slots := 6, locals := 133 }, false)
abbrev tL_taken : ATy := (RL, cL_taken, 5, (some .int), { frames := 8, cells := 1, slots := 6, locals := 133 }, false)
abbrev tL_available : ATy := (RL, cL_available, 5, (some .int), { frames := 8, cells := 1, slots := 6, locals := 134 }, false)
abbrev tL_obstacle : ATy := (RL, cL_obstacle, 6, (some .int), { frames := 8, cells := 2, slots := 12, locals := 139 }, false)
abbrev tL_longestStay : ATy := (RL, cL_longestStay, 5, (some .int), { frames := 8, cells := 1, slots := 6, locals := 139 }, false)
abbrev tL_cheapestArrival : ATy := (RL, cL_cheapestArrival, 7, (some .int), { frames := 8, cells := 4, slots := 24, locals := 144 }, false)
abbrev tL_nextGap : ATy := (RL, cL_nextGap, 5, (some .int), { frames := 8, cells := 2, slots := 12, locals := 135 }, false)
abbrev tL_book : ATy := (RL, cL_book, 6, (some .int), { frames := 8, cells := 3, slots := 18, locals := 139 }, false)
abbrev tL_bookingState : ATy := (RL, cL_bookingState, 4, (some .int), { frames := 8, cells := 1, slots := 6, locals := 132 }, false)
abbrev tL_bookingClass : ATy := (RL, cL_bookingClass, 4, (some .int), { frames := 8, cells := 1, slots := 6, locals := 132 }, false)
abbrev tL_arrival : ATy := (RL, cL_arrival, 4, (some .int), { frames := 8, cells := 1, slots := 6, locals := 132 }, false)
abbrev tL_departure : ATy := (RL, cL_departure, 4, (some .int), { frames := 8, cells := 1, slots := 6, locals := 132 }, false)
abbrev tL_cost : ATy := (RL, cL_cost, 4, (some .int), { frames := 8, cells := 1, slots := 6, locals := 132 }, false)
abbrev tL_siteOf : ATy := (RL, cL_siteOf, 4, (some .int), { frames := 8, cells := 1, slots := 6, locals := 132 }, false)
abbrev tL_cancel : ATy := (RL, cL_cancel, 4, (some .int), { frames := 8, cells := 2, slots := 12, locals := 133 }, false)
abbrev tL_vacantSite : ATy := (RL, cL_vacantSite, 4, (some .int), { frames := 8, cells := 1, slots := 6, locals := 132 }, false)
abbrev tL_checkIn : ATy := (RL, cL_checkIn, 5, (some .int), { frames := 8, cells := 6, slots := 36, locals := 136 }, false)
abbrev tL_move : ATy := (RL, cL_move, 5, (some .int), { frames := 8, cells := 5, slots := 30, locals := 135 }, false)
abbrev tL_departEarly : ATy := (RL, cL_departEarly, 4, (some .int), { frames := 8, cells := 2, slots := 12, locals := 133 }, false)
abbrev tL_extend : ATy := (RL, cL_extend, 5, (some .int), { frames := 8, cells := 4, slots := 24, locals := 137 }, false)
abbrev tL_endDays : ATy := (RL, cL_endDays, 4, (some .int), { frames := 8, cells := 2, slots := 12, locals := 134 }, false)
abbrev tL_close : ATy := (RL, cL_close, 4, (some .int), { frames := 8, cells := 4, slots := 24, locals := 134 }, false)
abbrev tL_open : ATy := (RL, cL_open, 4, (some .int), { frames := 8, cells := 2, slots := 12, locals := 133 }, false)
abbrev tL_request : ATy := (RL, cL_request, 6, (some .int), { frames := 8, cells := 4, slots := 24, locals := 135 }, false)
abbrev tL_requestState : ATy := (RL, cL_requestState, 4, (some .int), { frames := 8, cells := 1, slots := 6, locals := 132 }, false)
abbrev tL_bookingOf : ATy := (RL, cL_bookingOf, 4, (some .int), { frames := 8, cells := 1, slots := 6, locals := 132 }, false)
abbrev tL_withdraw : ATy := (RL, cL_withdraw, 3, (some .int), { frames := 8, cells := 2, slots := 12, locals := 132 }, false)
abbrev tL_fill : ATy := (RL, cL_fill, 4, (some .int), { frames := 8, cells := 1, slots := 6, locals := 163 }, false)
abbrev tL_planSite : ATy := (RL, cL_planSite, 5, (some .int), { frames := 8, cells := 3, slots := 18, locals := 134 }, false)
abbrev tL_gapNights : ATy := (RL, cL_gapNights, 5, (some .int), { frames := 8, cells := 2, slots := 12, locals := 134 }, false)
abbrev tL_orphanNights : ATy := (RL, cL_orphanNights, 5, (some .int), { frames := 8, cells := 2, slots := 12, locals := 134 }, false)
abbrev tL_occupancyNumerator : ATy := (RL, cL_occupancyNumerator, 6, (some .int), { frames := 9, cells := 3, slots := 18, locals := 159 }, false)
abbrev tL_occupancyDenominator : ATy := (RL, cL_occupancyDenominator, 6, (some .int), { frames := 9, cells := 3, slots := 18, locals := 160 }, false)
abbrev tL_expected : ATy := (RL, cL_expected, 6, (some .int), { frames := 8, cells := 2, slots := 12, locals := 138 }, false)
abbrev tL_dearestBooking : ATy := (RL, cL_dearestBooking, 4, (some .int), { frames := 8, cells := 1, slots := 6, locals := 134 }, false)
abbrev tL_busiestNight : ATy := (RL, cL_busiestNight, 6, (some .int), { frames := 9, cells := 3, slots := 18, locals := 161 }, false)
abbrev tL_appendText : ATy := (RL, cL_appendText, 4, (some .int), { frames := 7, cells := 1, slots := 6, locals := 112 }, false)
abbrev tL_truncateText : ATy := (RL, cL_truncateText, 4, (some .int), { frames := 8, cells := 1, slots := 6, locals := 133 }, false)
abbrev tL_save : ATy := (RL, cL_save, 3, (some .int), { frames := 8, cells := 28, slots := 602, locals := 134 }, false)
abbrev tL_restore : ATy := (RL, cL_restore, 3, (some .int), { frames := 8, cells := 2, slots := 12, locals := 134 }, false)
abbrev tJ7_fill_53178 : ATy := (RJ7, cJ7_fill_53178, 4, none, { frames := 0, cells := 0, slots := 0, locals := 0 }, false)
