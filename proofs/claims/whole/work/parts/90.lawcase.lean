set_option maxRecDepth 100000 in
set_option maxHeartbeats 4000000 in
theorem c_X9_saveB {G : AG} {M : Nat → Nat → Int32} {n : Nat} (hn : 72 ≤ n) (x : Int32) (hx : x < 0 ∨ 1 < x) : AMet tX9_save yX9_save [Cond.code yX9_save cX9_save 3 none] [.ref 0, .int x] (wld G M) n (PSv G M x n) := by
  refine am_of (lo := [_, _, _]) (by decide) rfl (fun q => by cases q) rfl rfl rfl ?_
  refine aw_iload_n dX9_save_0 rfl ?_
  refine aw_iconst (v := 0) dX9_save_1 (by decide) ?_
  refine aw_iconst (v := 1) dX9_save_2 (by decide) ?_
  exact ap_chkS kw_X9_56 ks_X9_56 ko_X9_checkRange (c_X9_checkRange _ _ _) dX9_save_3 rfl rfl (ble' rfl) (by decide) (fun q => Or.inl ⟨by rw [cd_save, if_pos q], rfl, rfl, rfl⟩) (fun b3 => absurd hx b3)
set_option maxRecDepth 100000 in
set_option maxHeartbeats 4000000 in
theorem c_L_save2 {G : AG} {M : Nat → Nat → Int32} {n : Nat} (hn : 72 ≤ n) (hG : GS G n) (x : Int32) (hf : cd_save x = 0 → G.1 x.toNatClampNeg = none → n = 72 ∨ n = 99) : AMet tL_save yL_save [Cond.codeWith yL_save cL_save 3 (some .int) [(0, 5, 8, 13)]] [.ref 0, .int x] (wld G M) n (PLs G M x n) := by
  by_cases hx : x < 0 ∨ 1 < x
  · refine amet_ofH (lo := [_, _, _]) (by decide) rfl (fun q => by cases q) (ble' rfl) (by intro v hv; simp at hv; rcases hv with rfl | rfl <;> rfl) rfl ?_
    refine aw_aload_n dL_save_0 rfl ?_
    refine aw_iload_n dL_save_1 rfl ?_
    refine aw_tryV (hh := [(0, 5, 8, 13)]) kw_L_158 kv_L_158.2.1 kv_L_158.2.2 ko_X9_save (c_X9_saveB hn x hx) dL_save_2 e_0 (l_0 hn) rfl rfl rfl rfl (ble' rfl) (by decide) (lc_r (by omega) (lc_i (lc_n lc_nil))) sc_nil (fun E h' n' hp => ?_) (fun v h' n' hp _ _ => ?_)
    · rcases hp with ⟨q, hE, rfl, rfl⟩ | ⟨-, q, -⟩
      · cases hE
        refine ⟨8, hx_L_save_0, Or.inr ⟨2, dL_save_8, by decide, ?_⟩⟩
        refine aw_iconst (v := 1) dL_save_9 (by decide) ?_
        refine aw_iret rfl dL_save_10 (ble' rfl) (ble' rfl) ?_
        exact ⟨by rw [q]; rfl, Or.inl ⟨q, rfl, rfl⟩⟩
      · cases q
    · rcases hp with ⟨-, q, -⟩ | ⟨q, hv, hr⟩
      · cases q
      · exact absurd q (by rw [cd_save, if_pos hx]; decide)
  · exact c_L_save hn hG x (hf (by rw [cd_save, if_neg hx]))
theorem lw_c0 {b L : Nat} {xs : Nat → Int32} {i : Nat} {G : AG} {M : Nat → Nat → Int32} {n ce sl : Nat} (hL : L ≤ 3072) (hi : i + 6 ≤ L) (hR : Rel G M M n) (hn : 72 ≤ n) (hce : ce ≤ 400000) (hsl : sl ≤ 6000000) (kk : LK b L xs i ce sl) : AW TL QL (CL b L xs) 276 (LO i none none) [] (wld G M) n ce sl := by
  obtain ⟨nc, ns, nz, nb, nr, t, hS, hI⟩ := hR.1
  refine aw_aload_n (T := TL) dL_law_276 rfl ?_
  refine lw_arg (j := 1) hL hi rfl rfl rfl rfl dL_law_277 dL_law_278 dL_law_280 dL_law_281 dL_law_282 ?_
  refine lw_arg (j := 2) hL hi rfl rfl rfl rfl dL_law_283 dL_law_284 dL_law_286 dL_law_287 dL_law_288 ?_
  refine lw_arg (j := 3) hL hi rfl rfl rfl rfl dL_law_289 dL_law_290 dL_law_292 dL_law_293 dL_law_294 ?_
  refine aw_aload_n (T := TL) dL_law_295 rfl ?_
  refine lw_help hn kl_L_168 kt_L_168 kow_L_addClass (c_L_addClass hn hS.1 (xs (i + 1)) (xs (i + 2)) (xs (i + 3))) dL_law_296 dL_law_299 rfl rfl ⟨by decide, by decide, show ce + 4 ≤ 601024 by omega, show sl + 24 ≤ 7293034 by omega⟩ ?_
  intro w M' w0 h0 h1
  have hq := lw_hq h0 h1 (fun i a c => kc_addClass i (Or.inr (by omega)))
  have hB := rel_B2 hR hq
  have hS2 : Same M M' nc ns nz nb nr t := same_cg hS (fun _ _ _ => rfl) (hq 64 (by decide) (by decide))
  obtain ⟨hc, hv⟩ := u_addClass hS2 hI (xs (i + 1)) (xs (i + 2)) (xs (i + 3))
  refine aw_aload_n (T := TL) dL_law_301 rfl ?_
  refine lw_arg (j := 1) hL hi rfl rfl rfl rfl dL_law_302 dL_law_303 dL_law_305 dL_law_306 dL_law_307 ?_
  refine lw_arg (j := 2) hL hi rfl rfl rfl rfl dL_law_308 dL_law_309 dL_law_311 dL_law_312 dL_law_313 ?_
  refine lw_arg (j := 3) hL hi rfl rfl rfl rfl dL_law_314 dL_law_315 dL_law_317 dL_law_318 dL_law_319 ?_
  refine lw_ref hn (show ce + 4 ≤ 500000 by omega) (show sl + 24 ≤ 7000000 by omega) rfl rfl kv_L_173 ko_X10_addClass (c_X10_addClass hn hS2.2.1 (xs (i + 1)) (xs (i + 2)) (xs (i + 3))) rfl rfl rfl rfl rfl hc (by unfold cd_addClass; (repeat' split) <;> decide) (fun q => (w0 (hc.trans q)).trans (rfl)) (by decide) (by decide) dL_law_320 dL_law_323 dL_law_325 dL_law_326 dL_law_329 dL_law_331 dL_law_336 dL_law_338 dL_law_341 dL_law_342 dL_law_343 dL_law_344 dL_law_346 dL_law_347 dL_law_348 dL_law_353 ?_
  intro M2 hr
  exact kk _ _ _ _ _ (lw_fin hB rfl hc h0 h1 (fun i a => kr_addClass i (by omega)) (fun q => rel_st hB kc_addClass kr_addClass (hv q)) hr) hn (show ce + 4 ≤ ce + 100 by omega) (show sl + 24 ≤ sl + 2000 by omega)
theorem lw_c1 {b L : Nat} {xs : Nat → Int32} {i : Nat} {G : AG} {M : Nat → Nat → Int32} {n ce sl : Nat} (hL : L ≤ 3072) (hi : i + 6 ≤ L) (hR : Rel G M M n) (hn : 72 ≤ n) (hce : ce ≤ 400000) (hsl : sl ≤ 6000000) (kk : LK b L xs i ce sl) : AW TL QL (CL b L xs) 356 (LO i none none) [] (wld G M) n ce sl := by
  obtain ⟨nc, ns, nz, nb, nr, t, hS, hI⟩ := hR.1
  refine aw_aload_n (T := TL) dL_law_356 rfl ?_
  refine lw_arg (j := 1) hL hi rfl rfl rfl rfl dL_law_357 dL_law_358 dL_law_360 dL_law_361 dL_law_362 ?_
  refine aw_aload_n (T := TL) dL_law_363 rfl ?_
  refine lw_help hn kl_L_178 kt_L_178 kow_L_addSite (c_L_addSite hn hS.1 (xs (i + 1))) dL_law_364 dL_law_367 rfl rfl ⟨by decide, by decide, show ce + 2 ≤ 601024 by omega, show sl + 12 ≤ 7293034 by omega⟩ ?_
  intro w M' w0 h0 h1
  have hq := lw_hq h0 h1 (fun i a c => kc_addSite i (Or.inr (by omega)))
  have hB := rel_B2 hR hq
  have hS2 : Same M M' nc ns nz nb nr t := same_cg hS (fun _ _ _ => rfl) (hq 64 (by decide) (by decide))
  obtain ⟨hc, hv⟩ := u_addSite hS2 hI (xs (i + 1))
  refine aw_aload_n (T := TL) dL_law_369 rfl ?_
  refine lw_arg (j := 1) hL hi rfl rfl rfl rfl dL_law_370 dL_law_371 dL_law_373 dL_law_374 dL_law_375 ?_
  refine lw_ref hn (show ce + 2 ≤ 500000 by omega) (show sl + 12 ≤ 7000000 by omega) rfl rfl kv_L_181 ko_X10_addSite (c_X10_addSite hn hS2.2.1 (xs (i + 1))) rfl rfl rfl rfl rfl hc (by unfold cd_addSite; (repeat' split) <;> decide) (fun q => (w0 (hc.trans q)).trans (rfl)) (by decide) (by decide) dL_law_376 dL_law_379 dL_law_381 dL_law_382 dL_law_385 dL_law_387 dL_law_392 dL_law_394 dL_law_397 dL_law_398 dL_law_399 dL_law_400 dL_law_402 dL_law_403 dL_law_404 dL_law_409 ?_
  intro M2 hr
  exact kk _ _ _ _ _ (lw_fin hB rfl hc h0 h1 (fun i a => kr_addSite i (by omega)) (fun q => rel_st hB kc_addSite kr_addSite (hv q)) hr) hn (show ce + 2 ≤ ce + 100 by omega) (show sl + 12 ≤ sl + 2000 by omega)
theorem lw_c2 {b L : Nat} {xs : Nat → Int32} {i : Nat} {G : AG} {M : Nat → Nat → Int32} {n ce sl : Nat} (hL : L ≤ 3072) (hi : i + 6 ≤ L) (hR : Rel G M M n) (hn : 72 ≤ n) (hce : ce ≤ 400000) (hsl : sl ≤ 6000000) (kk : LK b L xs i ce sl) : AW TL QL (CL b L xs) 412 (LO i none none) [] (wld G M) n ce sl := by
  obtain ⟨nc, ns, nz, nb, nr, t, hS, hI⟩ := hR.1
  refine aw_aload_n (T := TL) dL_law_412 rfl ?_
  refine lw_arg (j := 1) hL hi rfl rfl rfl rfl dL_law_413 dL_law_414 dL_law_416 dL_law_417 dL_law_418 ?_
  refine lw_arg (j := 2) hL hi rfl rfl rfl rfl dL_law_419 dL_law_420 dL_law_422 dL_law_423 dL_law_424 ?_
  refine lw_arg (j := 3) hL hi rfl rfl rfl rfl dL_law_425 dL_law_426 dL_law_428 dL_law_429 dL_law_430 ?_
  refine lw_arg (j := 4) hL hi rfl rfl rfl rfl dL_law_431 dL_law_432 dL_law_434 dL_law_435 dL_law_436 ?_
  refine lw_arg (j := 5) hL hi rfl rfl rfl rfl dL_law_437 dL_law_438 dL_law_440 dL_law_441 dL_law_442 ?_
  refine aw_aload_n (T := TL) dL_law_443 rfl ?_
  refine lw_help hn kl_L_182 kt_L_182 kow_L_addSeason (c_L_addSeason hn hS.1 (xs (i + 1)) (xs (i + 2)) (xs (i + 3)) (xs (i + 4)) (xs (i + 5))) dL_law_444 dL_law_447 rfl rfl ⟨by decide, by decide, show ce + 6 ≤ 601024 by omega, show sl + 36 ≤ 7293034 by omega⟩ ?_
  intro w M' w0 h0 h1
  have hq := lw_hq h0 h1 (fun i a c => kc_addSeason i (Or.inr (by omega)))
  have hB := rel_B2 hR hq
  have hS2 : Same M M' nc ns nz nb nr t := same_cg hS (fun _ _ _ => rfl) (hq 64 (by decide) (by decide))
  obtain ⟨hc, hv⟩ := u_addSeason hS2 hI (xs (i + 1)) (xs (i + 2)) (xs (i + 3)) (xs (i + 4)) (xs (i + 5))
  refine aw_aload_n (T := TL) dL_law_449 rfl ?_
  refine lw_arg (j := 1) hL hi rfl rfl rfl rfl dL_law_450 dL_law_451 dL_law_453 dL_law_454 dL_law_455 ?_
  refine lw_arg (j := 2) hL hi rfl rfl rfl rfl dL_law_456 dL_law_457 dL_law_459 dL_law_460 dL_law_461 ?_
  refine lw_arg (j := 3) hL hi rfl rfl rfl rfl dL_law_462 dL_law_463 dL_law_465 dL_law_466 dL_law_467 ?_
  refine lw_arg (j := 4) hL hi rfl rfl rfl rfl dL_law_468 dL_law_469 dL_law_471 dL_law_472 dL_law_473 ?_
  refine lw_arg (j := 5) hL hi rfl rfl rfl rfl dL_law_474 dL_law_475 dL_law_477 dL_law_478 dL_law_479 ?_
  refine lw_ref hn (show ce + 6 ≤ 500000 by omega) (show sl + 36 ≤ 7000000 by omega) rfl rfl kv_L_185 ko_X10_addSeason (c_X10_addSeason hn hS2.2.1 (xs (i + 1)) (xs (i + 2)) (xs (i + 3)) (xs (i + 4)) (xs (i + 5))) rfl rfl rfl rfl rfl hc (by unfold cd_addSeason; (repeat' split) <;> decide) (fun q => (w0 (hc.trans q)).trans (rfl)) (by decide) (by decide) dL_law_480 dL_law_483 dL_law_485 dL_law_486 dL_law_489 dL_law_491 dL_law_496 dL_law_498 dL_law_501 dL_law_502 dL_law_503 dL_law_504 dL_law_506 dL_law_507 dL_law_508 dL_law_513 ?_
  intro M2 hr
  exact kk _ _ _ _ _ (lw_fin hB rfl hc h0 h1 (fun i a => kr_addSeason i (by omega)) (fun q => rel_st hB kc_addSeason kr_addSeason (hv q)) hr) hn (show ce + 6 ≤ ce + 100 by omega) (show sl + 36 ≤ sl + 2000 by omega)
theorem lw_c3 {b L : Nat} {xs : Nat → Int32} {i : Nat} {G : AG} {M : Nat → Nat → Int32} {n ce sl : Nat} (hL : L ≤ 3072) (hi : i + 6 ≤ L) (hR : Rel G M M n) (hn : 72 ≤ n) (hce : ce ≤ 400000) (hsl : sl ≤ 6000000) (kk : LK b L xs i ce sl) : AW TL QL (CL b L xs) 516 (LO i none none) [] (wld G M) n ce sl := by
  obtain ⟨nc, ns, nz, nb, nr, t, hS, hI⟩ := hR.1
  refine lw_dir hn hce hsl rfl rfl rfl rfl kv_L_186 ko_X9_classCount (c_X9_classCount hn) kv_L_189 ko_X10_classCount (c_X10_classCount hn hS.2.1) rfl rfl rfl rfl rfl rfl (by unfold cr_classCount; rfl) (hS.2.1.1.trans hS.1.1.symm) (by decide) dL_law_516 dL_law_517 dL_law_520 dL_law_521 dL_law_524 ?_
  intro M2 hr
  exact kk _ _ _ _ _ (rel_rs hR hr) hn (by omega) (by omega)
theorem lw_c4 {b L : Nat} {xs : Nat → Int32} {i : Nat} {G : AG} {M : Nat → Nat → Int32} {n ce sl : Nat} (hL : L ≤ 3072) (hi : i + 6 ≤ L) (hR : Rel G M M n) (hn : 72 ≤ n) (hce : ce ≤ 400000) (hsl : sl ≤ 6000000) (kk : LK b L xs i ce sl) : AW TL QL (CL b L xs) 529 (LO i none none) [] (wld G M) n ce sl := by
  obtain ⟨nc, ns, nz, nb, nr, t, hS, hI⟩ := hR.1
  refine lw_dir hn hce hsl rfl rfl rfl rfl kv_L_190 ko_X9_siteCount (c_X9_siteCount hn) kv_L_193 ko_X10_siteCount (c_X10_siteCount hn hS.2.1) rfl rfl rfl rfl rfl rfl (by unfold cr_siteCount; rfl) (hS.2.1.2.2.1.trans hS.1.2.2.1.symm) (by decide) dL_law_529 dL_law_530 dL_law_533 dL_law_534 dL_law_537 ?_
  intro M2 hr
  exact kk _ _ _ _ _ (rel_rs hR hr) hn (by omega) (by omega)
theorem lw_c5 {b L : Nat} {xs : Nat → Int32} {i : Nat} {G : AG} {M : Nat → Nat → Int32} {n ce sl : Nat} (hL : L ≤ 3072) (hi : i + 6 ≤ L) (hR : Rel G M M n) (hn : 72 ≤ n) (hce : ce ≤ 400000) (hsl : sl ≤ 6000000) (kk : LK b L xs i ce sl) : AW TL QL (CL b L xs) 542 (LO i none none) [] (wld G M) n ce sl := by
  obtain ⟨nc, ns, nz, nb, nr, t, hS, hI⟩ := hR.1
  refine aw_aload_n (T := TL) dL_law_542 rfl ?_
  refine lw_arg (j := 1) hL hi rfl rfl rfl rfl dL_law_543 dL_law_544 dL_law_546 dL_law_547 dL_law_548 ?_
  refine aw_aload_n (T := TL) dL_law_549 rfl ?_
  refine lw_help hn kl_L_194 kt_L_194 kow_L_classOf (c_L_classOf hn hS.1 (xs (i + 1))) dL_law_550 dL_law_553 rfl rfl ⟨by decide, by decide, show ce + 1 ≤ 601024 by omega, show sl + 6 ≤ 7293034 by omega⟩ ?_
  intro w M' w0 h0 h1
  have hq := lw_hq h0 h1 (fun _ _ _ => rfl)
  have hB := rel_B2 hR hq
  have hS2 : Same M M' nc ns nz nb nr t := same_cg hS (fun _ _ _ => rfl) (hq 64 (by decide) (by decide))
  obtain ⟨hc, hv⟩ := q_classOf hS2 (xs (i + 1))
  refine aw_aload_n (T := TL) dL_law_555 rfl ?_
  refine lw_arg (j := 1) hL hi rfl rfl rfl rfl dL_law_556 dL_law_557 dL_law_559 dL_law_560 dL_law_561 ?_
  refine lw_ref hn (show ce + 1 ≤ 500000 by omega) (show sl + 6 ≤ 7000000 by omega) rfl rfl kv_L_196 ko_X10_classOf (c_X10_classOf hn hS2.2.1 (xs (i + 1))) rfl rfl rfl rfl rfl hc (by unfold cd_classOf; (repeat' split) <;> decide) (fun q => (w0 (hc.trans q)).trans (congrArg Int32.toInt64 (hv q))) (by decide) (by decide) dL_law_562 dL_law_565 dL_law_567 dL_law_568 dL_law_571 dL_law_573 dL_law_578 dL_law_580 dL_law_583 dL_law_584 dL_law_585 dL_law_586 dL_law_588 dL_law_589 dL_law_590 dL_law_595 ?_
  intro M2 hr
  exact kk _ _ _ _ _ (lw_fin hB rfl hc h0 h1 (fun _ _ => rfl) (fun q => hB) hr) hn (show ce + 1 ≤ ce + 100 by omega) (show sl + 6 ≤ sl + 2000 by omega)
theorem lw_c6 {b L : Nat} {xs : Nat → Int32} {i : Nat} {G : AG} {M : Nat → Nat → Int32} {n ce sl : Nat} (hL : L ≤ 3072) (hi : i + 6 ≤ L) (hR : Rel G M M n) (hn : 72 ≤ n) (hce : ce ≤ 400000) (hsl : sl ≤ 6000000) (kk : LK b L xs i ce sl) : AW TL QL (CL b L xs) 598 (LO i none none) [] (wld G M) n ce sl := by
  obtain ⟨nc, ns, nz, nb, nr, t, hS, hI⟩ := hR.1
  refine aw_aload_n (T := TL) dL_law_598 rfl ?_
  refine lw_arg (j := 1) hL hi rfl rfl rfl rfl dL_law_599 dL_law_600 dL_law_602 dL_law_603 dL_law_604 ?_
  refine lw_arg (j := 2) hL hi rfl rfl rfl rfl dL_law_605 dL_law_606 dL_law_608 dL_law_609 dL_law_610 ?_
  refine aw_aload_n (T := TL) dL_law_611 rfl ?_
  refine lw_help hn kl_L_197 kt_L_197 kow_L_minimum (c_L_minimum hn hS.1 (xs (i + 1)) (xs (i + 2))) dL_law_612 dL_law_615 rfl rfl ⟨by decide, by decide, show ce + 2 ≤ 601024 by omega, show sl + 12 ≤ 7293034 by omega⟩ ?_
  intro w M' w0 h0 h1
  have hq := lw_hq h0 h1 (fun _ _ _ => rfl)
  have hB := rel_B2 hR hq
  have hS2 : Same M M' nc ns nz nb nr t := same_cg hS (fun _ _ _ => rfl) (hq 64 (by decide) (by decide))
  obtain ⟨hc, hv⟩ := q_minimum hS2 (xs (i + 1)) (xs (i + 2))
  refine aw_aload_n (T := TL) dL_law_617 rfl ?_
  refine lw_arg (j := 1) hL hi rfl rfl rfl rfl dL_law_618 dL_law_619 dL_law_621 dL_law_622 dL_law_623 ?_
  refine lw_arg (j := 2) hL hi rfl rfl rfl rfl dL_law_624 dL_law_625 dL_law_627 dL_law_628 dL_law_629 ?_
  refine lw_ref hn (show ce + 2 ≤ 500000 by omega) (show sl + 12 ≤ 7000000 by omega) rfl rfl kv_L_200 ko_X10_minimum (c_X10_minimum hn hS2.2.1 (xs (i + 1)) (xs (i + 2))) rfl rfl rfl rfl rfl hc (by unfold cd_minimum; (repeat' split) <;> decide) (fun q => (w0 (hc.trans q)).trans (congrArg Int32.toInt64 (hv q))) (by decide) (by decide) dL_law_630 dL_law_633 dL_law_635 dL_law_636 dL_law_639 dL_law_641 dL_law_646 dL_law_648 dL_law_651 dL_law_652 dL_law_653 dL_law_654 dL_law_656 dL_law_657 dL_law_658 dL_law_663 ?_
  intro M2 hr
  exact kk _ _ _ _ _ (lw_fin hB rfl hc h0 h1 (fun _ _ => rfl) (fun q => hB) hr) hn (show ce + 2 ≤ ce + 100 by omega) (show sl + 12 ≤ sl + 2000 by omega)
theorem lw_c7 {b L : Nat} {xs : Nat → Int32} {i : Nat} {G : AG} {M : Nat → Nat → Int32} {n ce sl : Nat} (hL : L ≤ 3072) (hi : i + 6 ≤ L) (hR : Rel G M M n) (hn : 72 ≤ n) (hce : ce ≤ 400000) (hsl : sl ≤ 6000000) (kk : LK b L xs i ce sl) : AW TL QL (CL b L xs) 666 (LO i none none) [] (wld G M) n ce sl := by
  obtain ⟨nc, ns, nz, nb, nr, t, hS, hI⟩ := hR.1
  refine aw_aload_n (T := TL) dL_law_666 rfl ?_
  refine lw_arg (j := 1) hL hi rfl rfl rfl rfl dL_law_667 dL_law_668 dL_law_670 dL_law_671 dL_law_672 ?_
  refine lw_arg (j := 2) hL hi rfl rfl rfl rfl dL_law_673 dL_law_674 dL_law_676 dL_law_677 dL_law_678 ?_
  refine aw_aload_n (T := TL) dL_law_679 rfl ?_
  refine lw_help hn kl_L_201 kt_L_201 kow_L_price (c_L_price hn hS.1 (xs (i + 1)) (xs (i + 2))) dL_law_680 dL_law_683 rfl rfl ⟨by decide, by decide, show ce + 2 ≤ 601024 by omega, show sl + 12 ≤ 7293034 by omega⟩ ?_
  intro w M' w0 h0 h1
  have hq := lw_hq h0 h1 (fun _ _ _ => rfl)
  have hB := rel_B2 hR hq
  have hS2 : Same M M' nc ns nz nb nr t := same_cg hS (fun _ _ _ => rfl) (hq 64 (by decide) (by decide))
  obtain ⟨hc, hv⟩ := q_price hS2 (xs (i + 1)) (xs (i + 2))
  refine aw_aload_n (T := TL) dL_law_685 rfl ?_
  refine lw_arg (j := 1) hL hi rfl rfl rfl rfl dL_law_686 dL_law_687 dL_law_689 dL_law_690 dL_law_691 ?_
  refine lw_arg (j := 2) hL hi rfl rfl rfl rfl dL_law_692 dL_law_693 dL_law_695 dL_law_696 dL_law_697 ?_
  refine lw_ref hn (show ce + 2 ≤ 500000 by omega) (show sl + 12 ≤ 7000000 by omega) rfl rfl kv_L_203 ko_X10_price (c_X10_price hn hS2.2.1 (xs (i + 1)) (xs (i + 2))) rfl rfl rfl rfl rfl hc (by unfold cd_price; (repeat' split) <;> decide) (fun q => (w0 (hc.trans q)).trans (congrArg Int32.toInt64 (hv q))) (by decide) (by decide) dL_law_698 dL_law_701 dL_law_703 dL_law_704 dL_law_707 dL_law_709 dL_law_714 dL_law_716 dL_law_719 dL_law_720 dL_law_721 dL_law_722 dL_law_724 dL_law_725 dL_law_726 dL_law_731 ?_
  intro M2 hr
  exact kk _ _ _ _ _ (lw_fin hB rfl hc h0 h1 (fun _ _ => rfl) (fun q => hB) hr) hn (show ce + 2 ≤ ce + 100 by omega) (show sl + 12 ≤ sl + 2000 by omega)
theorem lw_c8 {b L : Nat} {xs : Nat → Int32} {i : Nat} {G : AG} {M : Nat → Nat → Int32} {n ce sl : Nat} (hL : L ≤ 3072) (hi : i + 6 ≤ L) (hR : Rel G M M n) (hn : 72 ≤ n) (hce : ce ≤ 400000) (hsl : sl ≤ 6000000) (kk : LK b L xs i ce sl) : AW TL QL (CL b L xs) 734 (LO i none none) [] (wld G M) n ce sl := by
  obtain ⟨nc, ns, nz, nb, nr, t, hS, hI⟩ := hR.1
  refine aw_aload_n (T := TL) dL_law_734 rfl ?_
  refine lw_arg (j := 1) hL hi rfl rfl rfl rfl dL_law_735 dL_law_736 dL_law_738 dL_law_739 dL_law_740 ?_
  refine lw_arg (j := 2) hL hi rfl rfl rfl rfl dL_law_741 dL_law_742 dL_law_744 dL_law_745 dL_law_746 ?_
  refine aw_aload_n (T := TL) dL_law_747 rfl ?_
  refine lw_help hn kl_L_204 kt_L_204 kow_L_capacity (c_L_capacity hn hS.1 (xs (i + 1)) (xs (i + 2))) dL_law_748 dL_law_751 rfl rfl ⟨by decide, by decide, show ce + 1 ≤ 601024 by omega, show sl + 6 ≤ 7293034 by omega⟩ ?_
  intro w M' w0 h0 h1
  have hq := lw_hq h0 h1 (fun _ _ _ => rfl)
  have hB := rel_B2 hR hq
  have hS2 : Same M M' nc ns nz nb nr t := same_cg hS (fun _ _ _ => rfl) (hq 64 (by decide) (by decide))
  obtain ⟨hc, hv⟩ := q_capacity hS2 (xs (i + 1)) (xs (i + 2))
  refine aw_aload_n (T := TL) dL_law_753 rfl ?_
  refine lw_arg (j := 1) hL hi rfl rfl rfl rfl dL_law_754 dL_law_755 dL_law_757 dL_law_758 dL_law_759 ?_
  refine lw_arg (j := 2) hL hi rfl rfl rfl rfl dL_law_760 dL_law_761 dL_law_763 dL_law_764 dL_law_765 ?_
  refine lw_ref hn (show ce + 1 ≤ 500000 by omega) (show sl + 6 ≤ 7000000 by omega) rfl rfl kv_L_206 ko_X10_capacity (c_X10_capacity hn hS2.2.1 (xs (i + 1)) (xs (i + 2))) rfl rfl rfl rfl rfl hc (by unfold cd_capacity; (repeat' split) <;> decide) (fun q => (w0 (hc.trans q)).trans (congrArg Int32.toInt64 (hv q))) (by decide) (by decide) dL_law_766 dL_law_769 dL_law_771 dL_law_772 dL_law_775 dL_law_777 dL_law_782 dL_law_784 dL_law_787 dL_law_788 dL_law_789 dL_law_790 dL_law_792 dL_law_793 dL_law_794 dL_law_799 ?_
  intro M2 hr
  exact kk _ _ _ _ _ (lw_fin hB rfl hc h0 h1 (fun _ _ => rfl) (fun q => hB) hr) hn (show ce + 1 ≤ ce + 100 by omega) (show sl + 6 ≤ sl + 2000 by omega)
theorem lw_c9 {b L : Nat} {xs : Nat → Int32} {i : Nat} {G : AG} {M : Nat → Nat → Int32} {n ce sl : Nat} (hL : L ≤ 3072) (hi : i + 6 ≤ L) (hR : Rel G M M n) (hn : 72 ≤ n) (hce : ce ≤ 400000) (hsl : sl ≤ 6000000) (kk : LK b L xs i ce sl) : AW TL QL (CL b L xs) 802 (LO i none none) [] (wld G M) n ce sl := by
  obtain ⟨nc, ns, nz, nb, nr, t, hS, hI⟩ := hR.1
  refine aw_aload_n (T := TL) dL_law_802 rfl ?_
  refine lw_arg (j := 1) hL hi rfl rfl rfl rfl dL_law_803 dL_law_804 dL_law_806 dL_law_807 dL_law_808 ?_
  refine lw_arg (j := 2) hL hi rfl rfl rfl rfl dL_law_809 dL_law_810 dL_law_812 dL_law_813 dL_law_814 ?_
  refine aw_aload_n (T := TL) dL_law_815 rfl ?_
  refine lw_help hn kl_L_207 kt_L_207 kow_L_released (c_L_released hn hS.1 (xs (i + 1)) (xs (i + 2))) dL_law_816 dL_law_819 rfl rfl ⟨by decide, by decide, show ce + 1 ≤ 601024 by omega, show sl + 6 ≤ 7293034 by omega⟩ ?_
  intro w M' w0 h0 h1
  have hq := lw_hq h0 h1 (fun _ _ _ => rfl)
  have hB := rel_B2 hR hq
  have hS2 : Same M M' nc ns nz nb nr t := same_cg hS (fun _ _ _ => rfl) (hq 64 (by decide) (by decide))
  obtain ⟨hc, hv⟩ := q_released hS2 (xs (i + 1)) (xs (i + 2))
  refine aw_aload_n (T := TL) dL_law_821 rfl ?_
  refine lw_arg (j := 1) hL hi rfl rfl rfl rfl dL_law_822 dL_law_823 dL_law_825 dL_law_826 dL_law_827 ?_
  refine lw_arg (j := 2) hL hi rfl rfl rfl rfl dL_law_828 dL_law_829 dL_law_831 dL_law_832 dL_law_833 ?_
  refine lw_ref hn (show ce + 1 ≤ 500000 by omega) (show sl + 6 ≤ 7000000 by omega) rfl rfl kv_L_209 ko_X10_released (c_X10_released hn hS2.2.1 (xs (i + 1)) (xs (i + 2))) rfl rfl rfl rfl rfl hc (by unfold cd_released; (repeat' split) <;> decide) (fun q => (w0 (hc.trans q)).trans (congrArg Int32.toInt64 (hv q))) (by decide) (by decide) dL_law_834 dL_law_837 dL_law_839 dL_law_840 dL_law_843 dL_law_845 dL_law_850 dL_law_852 dL_law_855 dL_law_856 dL_law_857 dL_law_858 dL_law_860 dL_law_861 dL_law_862 dL_law_867 ?_
  intro M2 hr
  exact kk _ _ _ _ _ (lw_fin hB rfl hc h0 h1 (fun _ _ => rfl) (fun q => hB) hr) hn (show ce + 1 ≤ ce + 100 by omega) (show sl + 6 ≤ sl + 2000 by omega)
theorem lw_c10 {b L : Nat} {xs : Nat → Int32} {i : Nat} {G : AG} {M : Nat → Nat → Int32} {n ce sl : Nat} (hL : L ≤ 3072) (hi : i + 6 ≤ L) (hR : Rel G M M n) (hn : 72 ≤ n) (hce : ce ≤ 400000) (hsl : sl ≤ 6000000) (kk : LK b L xs i ce sl) : AW TL QL (CL b L xs) 870 (LO i none none) [] (wld G M) n ce sl := by
  obtain ⟨nc, ns, nz, nb, nr, t, hS, hI⟩ := hR.1
  refine aw_aload_n (T := TL) dL_law_870 rfl ?_
  refine lw_arg (j := 1) hL hi rfl rfl rfl rfl dL_law_871 dL_law_872 dL_law_874 dL_law_875 dL_law_876 ?_
  refine lw_arg (j := 2) hL hi rfl rfl rfl rfl dL_law_877 dL_law_878 dL_law_880 dL_law_881 dL_law_882 ?_
  refine aw_aload_n (T := TL) dL_law_883 rfl ?_
  refine lw_help hn kl_L_210 kt_L_210 kow_L_taken (c_L_taken hn hS.1 (xs (i + 1)) (xs (i + 2))) dL_law_884 dL_law_887 rfl rfl ⟨by decide, by decide, show ce + 1 ≤ 601024 by omega, show sl + 6 ≤ 7293034 by omega⟩ ?_
  intro w M' w0 h0 h1
  have hq := lw_hq h0 h1 (fun _ _ _ => rfl)
  have hB := rel_B2 hR hq
  have hS2 : Same M M' nc ns nz nb nr t := same_cg hS (fun _ _ _ => rfl) (hq 64 (by decide) (by decide))
  obtain ⟨hc, hv⟩ := q_taken hS2 (xs (i + 1)) (xs (i + 2))
  refine aw_aload_n (T := TL) dL_law_889 rfl ?_
  refine lw_arg (j := 1) hL hi rfl rfl rfl rfl dL_law_890 dL_law_891 dL_law_893 dL_law_894 dL_law_895 ?_
  refine lw_arg (j := 2) hL hi rfl rfl rfl rfl dL_law_896 dL_law_897 dL_law_899 dL_law_900 dL_law_901 ?_
  refine lw_ref hn (show ce + 1 ≤ 500000 by omega) (show sl + 6 ≤ 7000000 by omega) rfl rfl kv_L_212 ko_X10_taken (c_X10_taken hn hS2.2.1 (xs (i + 1)) (xs (i + 2))) rfl rfl rfl rfl rfl hc (by unfold cd_taken; (repeat' split) <;> decide) (fun q => (w0 (hc.trans q)).trans (congrArg Int32.toInt64 (hv q))) (by decide) (by decide) dL_law_902 dL_law_905 dL_law_907 dL_law_908 dL_law_911 dL_law_913 dL_law_918 dL_law_920 dL_law_923 dL_law_924 dL_law_925 dL_law_926 dL_law_928 dL_law_929 dL_law_930 dL_law_935 ?_
  intro M2 hr
  exact kk _ _ _ _ _ (lw_fin hB rfl hc h0 h1 (fun _ _ => rfl) (fun q => hB) hr) hn (show ce + 1 ≤ ce + 100 by omega) (show sl + 6 ≤ sl + 2000 by omega)
theorem lw_c11 {b L : Nat} {xs : Nat → Int32} {i : Nat} {G : AG} {M : Nat → Nat → Int32} {n ce sl : Nat} (hL : L ≤ 3072) (hi : i + 6 ≤ L) (hR : Rel G M M n) (hn : 72 ≤ n) (hce : ce ≤ 400000) (hsl : sl ≤ 6000000) (kk : LK b L xs i ce sl) : AW TL QL (CL b L xs) 938 (LO i none none) [] (wld G M) n ce sl := by
  obtain ⟨nc, ns, nz, nb, nr, t, hS, hI⟩ := hR.1
  refine aw_aload_n (T := TL) dL_law_938 rfl ?_
  refine lw_arg (j := 1) hL hi rfl rfl rfl rfl dL_law_939 dL_law_940 dL_law_942 dL_law_943 dL_law_944 ?_
  refine lw_arg (j := 2) hL hi rfl rfl rfl rfl dL_law_945 dL_law_946 dL_law_948 dL_law_949 dL_law_950 ?_
  refine aw_aload_n (T := TL) dL_law_951 rfl ?_
  refine lw_help hn kl_L_213 kt_L_213 kow_L_available (c_L_available hn hS.1 (xs (i + 1)) (xs (i + 2))) dL_law_952 dL_law_955 rfl rfl ⟨by decide, by decide, show ce + 1 ≤ 601024 by omega, show sl + 6 ≤ 7293034 by omega⟩ ?_
  intro w M' w0 h0 h1
  have hq := lw_hq h0 h1 (fun _ _ _ => rfl)
  have hB := rel_B2 hR hq
  have hS2 : Same M M' nc ns nz nb nr t := same_cg hS (fun _ _ _ => rfl) (hq 64 (by decide) (by decide))
  obtain ⟨hc, hv⟩ := q_available hS2 (xs (i + 1)) (xs (i + 2))
  refine aw_aload_n (T := TL) dL_law_957 rfl ?_
  refine lw_arg (j := 1) hL hi rfl rfl rfl rfl dL_law_958 dL_law_959 dL_law_961 dL_law_962 dL_law_963 ?_
  refine lw_arg (j := 2) hL hi rfl rfl rfl rfl dL_law_964 dL_law_965 dL_law_967 dL_law_968 dL_law_969 ?_
  refine lw_ref hn (show ce + 1 ≤ 500000 by omega) (show sl + 6 ≤ 7000000 by omega) rfl rfl kv_L_215 ko_X10_available (c_X10_available hn hS2.2.1 (xs (i + 1)) (xs (i + 2))) rfl rfl rfl rfl rfl hc (by unfold cd_available; (repeat' split) <;> decide) (fun q => (w0 (hc.trans q)).trans (congrArg Int32.toInt64 (hv q))) (by decide) (by decide) dL_law_970 dL_law_973 dL_law_975 dL_law_976 dL_law_979 dL_law_981 dL_law_986 dL_law_988 dL_law_991 dL_law_992 dL_law_993 dL_law_994 dL_law_996 dL_law_997 dL_law_998 dL_law_1003 ?_
  intro M2 hr
  exact kk _ _ _ _ _ (lw_fin hB rfl hc h0 h1 (fun _ _ => rfl) (fun q => hB) hr) hn (show ce + 1 ≤ ce + 100 by omega) (show sl + 6 ≤ sl + 2000 by omega)
theorem lw_c12 {b L : Nat} {xs : Nat → Int32} {i : Nat} {G : AG} {M : Nat → Nat → Int32} {n ce sl : Nat} (hL : L ≤ 3072) (hi : i + 6 ≤ L) (hR : Rel G M M n) (hn : 72 ≤ n) (hce : ce ≤ 400000) (hsl : sl ≤ 6000000) (kk : LK b L xs i ce sl) : AW TL QL (CL b L xs) 1006 (LO i none none) [] (wld G M) n ce sl := by
  obtain ⟨nc, ns, nz, nb, nr, t, hS, hI⟩ := hR.1
  refine aw_aload_n (T := TL) dL_law_1006 rfl ?_
  refine lw_arg (j := 1) hL hi rfl rfl rfl rfl dL_law_1007 dL_law_1008 dL_law_1010 dL_law_1011 dL_law_1012 ?_
  refine lw_arg (j := 2) hL hi rfl rfl rfl rfl dL_law_1013 dL_law_1014 dL_law_1016 dL_law_1017 dL_law_1018 ?_
  refine lw_arg (j := 3) hL hi rfl rfl rfl rfl dL_law_1019 dL_law_1020 dL_law_1022 dL_law_1023 dL_law_1024 ?_
  refine aw_aload_n (T := TL) dL_law_1025 rfl ?_
  refine lw_help hn kl_L_216 kt_L_216 kow_L_obstacle (c_L_obstacle hn hS.1 (xs (i + 1)) (xs (i + 2)) (xs (i + 3))) dL_law_1026 dL_law_1029 rfl rfl ⟨by decide, by decide, show ce + 2 ≤ 601024 by omega, show sl + 12 ≤ 7293034 by omega⟩ ?_
  intro w M' w0 h0 h1
  have hq := lw_hq h0 h1 (fun _ _ _ => rfl)
  have hB := rel_B2 hR hq
  have hS2 : Same M M' nc ns nz nb nr t := same_cg hS (fun _ _ _ => rfl) (hq 64 (by decide) (by decide))
  obtain ⟨hc, hv⟩ := q_obstacle hS2 hI (xs (i + 1)) (xs (i + 2)) (xs (i + 3))
  refine aw_aload_n (T := TL) dL_law_1031 rfl ?_
  refine lw_arg (j := 1) hL hi rfl rfl rfl rfl dL_law_1032 dL_law_1033 dL_law_1035 dL_law_1036 dL_law_1037 ?_
  refine lw_arg (j := 2) hL hi rfl rfl rfl rfl dL_law_1038 dL_law_1039 dL_law_1041 dL_law_1042 dL_law_1043 ?_
  refine lw_arg (j := 3) hL hi rfl rfl rfl rfl dL_law_1044 dL_law_1045 dL_law_1047 dL_law_1048 dL_law_1049 ?_
  refine lw_ref hn (show ce + 2 ≤ 500000 by omega) (show sl + 12 ≤ 7000000 by omega) rfl rfl kv_L_218 ko_X10_obstacle (c_X10_obstacle hn hS2.2.1 (xs (i + 1)) (xs (i + 2)) (xs (i + 3))) rfl rfl rfl rfl rfl hc (by unfold cd_obstacle; (repeat' split) <;> decide) (fun q => (w0 (hc.trans q)).trans (congrArg Int32.toInt64 (hv q))) (by decide) (by decide) dL_law_1050 dL_law_1053 dL_law_1055 dL_law_1056 dL_law_1059 dL_law_1061 dL_law_1066 dL_law_1068 dL_law_1071 dL_law_1072 dL_law_1073 dL_law_1074 dL_law_1076 dL_law_1077 dL_law_1078 dL_law_1083 ?_
  intro M2 hr
  exact kk _ _ _ _ _ (lw_fin hB rfl hc h0 h1 (fun _ _ => rfl) (fun q => hB) hr) hn (show ce + 2 ≤ ce + 100 by omega) (show sl + 12 ≤ sl + 2000 by omega)
theorem lw_c13 {b L : Nat} {xs : Nat → Int32} {i : Nat} {G : AG} {M : Nat → Nat → Int32} {n ce sl : Nat} (hL : L ≤ 3072) (hi : i + 6 ≤ L) (hR : Rel G M M n) (hn : 72 ≤ n) (hce : ce ≤ 400000) (hsl : sl ≤ 6000000) (kk : LK b L xs i ce sl) : AW TL QL (CL b L xs) 1086 (LO i none none) [] (wld G M) n ce sl := by
  obtain ⟨nc, ns, nz, nb, nr, t, hS, hI⟩ := hR.1
  refine aw_aload_n (T := TL) dL_law_1086 rfl ?_
  refine lw_arg (j := 1) hL hi rfl rfl rfl rfl dL_law_1087 dL_law_1088 dL_law_1090 dL_law_1091 dL_law_1092 ?_
  refine lw_arg (j := 2) hL hi rfl rfl rfl rfl dL_law_1093 dL_law_1094 dL_law_1096 dL_law_1097 dL_law_1098 ?_
  refine aw_aload_n (T := TL) dL_law_1099 rfl ?_
  refine lw_help hn kl_L_219 kt_L_219 kow_L_longestStay (c_L_longestStay hn hS.1 (xs (i + 1)) (xs (i + 2))) dL_law_1100 dL_law_1103 rfl rfl ⟨by decide, by decide, show ce + 1 ≤ 601024 by omega, show sl + 6 ≤ 7293034 by omega⟩ ?_
  intro w M' w0 h0 h1
  have hq := lw_hq h0 h1 (fun _ _ _ => rfl)
  have hB := rel_B2 hR hq
  have hS2 : Same M M' nc ns nz nb nr t := same_cg hS (fun _ _ _ => rfl) (hq 64 (by decide) (by decide))
  obtain ⟨hc, hv⟩ := q_longestStay hS2 hI (xs (i + 1)) (xs (i + 2))
  refine aw_aload_n (T := TL) dL_law_1105 rfl ?_
  refine lw_arg (j := 1) hL hi rfl rfl rfl rfl dL_law_1106 dL_law_1107 dL_law_1109 dL_law_1110 dL_law_1111 ?_
  refine lw_arg (j := 2) hL hi rfl rfl rfl rfl dL_law_1112 dL_law_1113 dL_law_1115 dL_law_1116 dL_law_1117 ?_
  refine lw_ref hn (show ce + 1 ≤ 500000 by omega) (show sl + 6 ≤ 7000000 by omega) rfl rfl kv_L_221 ko_X10_longestStay (c_X10_longestStay hn hS2.2.1 (xs (i + 1)) (xs (i + 2))) rfl rfl rfl rfl rfl hc (by unfold cd_longestStay; (repeat' split) <;> decide) (fun q => (w0 (hc.trans q)).trans (congrArg Int32.toInt64 (hv q))) (by decide) (by decide) dL_law_1118 dL_law_1121 dL_law_1123 dL_law_1124 dL_law_1127 dL_law_1129 dL_law_1134 dL_law_1136 dL_law_1139 dL_law_1140 dL_law_1141 dL_law_1142 dL_law_1144 dL_law_1145 dL_law_1146 dL_law_1151 ?_
  intro M2 hr
  exact kk _ _ _ _ _ (lw_fin hB rfl hc h0 h1 (fun _ _ => rfl) (fun q => hB) hr) hn (show ce + 1 ≤ ce + 100 by omega) (show sl + 6 ≤ sl + 2000 by omega)
theorem lw_c14 {b L : Nat} {xs : Nat → Int32} {i : Nat} {G : AG} {M : Nat → Nat → Int32} {n ce sl : Nat} (hL : L ≤ 3072) (hi : i + 6 ≤ L) (hR : Rel G M M n) (hn : 72 ≤ n) (hce : ce ≤ 400000) (hsl : sl ≤ 6000000) (kk : LK b L xs i ce sl) : AW TL QL (CL b L xs) 1154 (LO i none none) [] (wld G M) n ce sl := by
  obtain ⟨nc, ns, nz, nb, nr, t, hS, hI⟩ := hR.1
  refine aw_aload_n (T := TL) dL_law_1154 rfl ?_
  refine lw_arg (j := 1) hL hi rfl rfl rfl rfl dL_law_1155 dL_law_1156 dL_law_1158 dL_law_1159 dL_law_1160 ?_
  refine lw_arg (j := 2) hL hi rfl rfl rfl rfl dL_law_1161 dL_law_1162 dL_law_1164 dL_law_1165 dL_law_1166 ?_
  refine lw_arg (j := 3) hL hi rfl rfl rfl rfl dL_law_1167 dL_law_1168 dL_law_1170 dL_law_1171 dL_law_1172 ?_
  refine lw_arg (j := 4) hL hi rfl rfl rfl rfl dL_law_1173 dL_law_1174 dL_law_1176 dL_law_1177 dL_law_1178 ?_
  refine aw_aload_n (T := TL) dL_law_1179 rfl ?_
  refine lw_help hn kl_L_222 kt_L_222 kow_L_cheapestArrival (c_L_cheapestArrival hn hS.1 (xs (i + 1)) (xs (i + 2)) (xs (i + 3)) (xs (i + 4))) dL_law_1180 dL_law_1183 rfl rfl ⟨by decide, by decide, show ce + 4 ≤ 601024 by omega, show sl + 24 ≤ 7293034 by omega⟩ ?_
  intro w M' w0 h0 h1
  have hq := lw_hq h0 h1 (fun _ _ _ => rfl)
  have hB := rel_B2 hR hq
  have hS2 : Same M M' nc ns nz nb nr t := same_cg hS (fun _ _ _ => rfl) (hq 64 (by decide) (by decide))
  obtain ⟨hc, hv⟩ := q_cheapestArrival hS2 hI (xs (i + 1)) (xs (i + 2)) (xs (i + 3)) (xs (i + 4))
  refine aw_aload_n (T := TL) dL_law_1185 rfl ?_
  refine lw_arg (j := 1) hL hi rfl rfl rfl rfl dL_law_1186 dL_law_1187 dL_law_1189 dL_law_1190 dL_law_1191 ?_
  refine lw_arg (j := 2) hL hi rfl rfl rfl rfl dL_law_1192 dL_law_1193 dL_law_1195 dL_law_1196 dL_law_1197 ?_
  refine lw_arg (j := 3) hL hi rfl rfl rfl rfl dL_law_1198 dL_law_1199 dL_law_1201 dL_law_1202 dL_law_1203 ?_
  refine lw_arg (j := 4) hL hi rfl rfl rfl rfl dL_law_1204 dL_law_1205 dL_law_1207 dL_law_1208 dL_law_1209 ?_
  refine lw_ref hn (show ce + 4 ≤ 500000 by omega) (show sl + 24 ≤ 7000000 by omega) rfl rfl kv_L_225 ko_X10_cheapestArrival (c_X10_cheapestArrival hn hS2.2.1 (xs (i + 1)) (xs (i + 2)) (xs (i + 3)) (xs (i + 4))) rfl rfl rfl rfl rfl hc (by unfold cd_cheapestArrival; (repeat' split) <;> decide) (fun q => (w0 (hc.trans q)).trans (congrArg Int32.toInt64 (hv q))) (by decide) (by decide) dL_law_1210 dL_law_1213 dL_law_1215 dL_law_1216 dL_law_1219 dL_law_1221 dL_law_1226 dL_law_1228 dL_law_1231 dL_law_1232 dL_law_1233 dL_law_1234 dL_law_1236 dL_law_1237 dL_law_1238 dL_law_1243 ?_
  intro M2 hr
  exact kk _ _ _ _ _ (lw_fin hB rfl hc h0 h1 (fun _ _ => rfl) (fun q => hB) hr) hn (show ce + 4 ≤ ce + 100 by omega) (show sl + 24 ≤ sl + 2000 by omega)
theorem lw_c15 {b L : Nat} {xs : Nat → Int32} {i : Nat} {G : AG} {M : Nat → Nat → Int32} {n ce sl : Nat} (hL : L ≤ 3072) (hi : i + 6 ≤ L) (hR : Rel G M M n) (hn : 72 ≤ n) (hce : ce ≤ 400000) (hsl : sl ≤ 6000000) (kk : LK b L xs i ce sl) : AW TL QL (CL b L xs) 1246 (LO i none none) [] (wld G M) n ce sl := by
  obtain ⟨nc, ns, nz, nb, nr, t, hS, hI⟩ := hR.1
  refine aw_aload_n (T := TL) dL_law_1246 rfl ?_
  refine lw_arg (j := 1) hL hi rfl rfl rfl rfl dL_law_1247 dL_law_1248 dL_law_1250 dL_law_1251 dL_law_1252 ?_
  refine lw_arg (j := 2) hL hi rfl rfl rfl rfl dL_law_1253 dL_law_1254 dL_law_1256 dL_law_1257 dL_law_1258 ?_
  refine aw_aload_n (T := TL) dL_law_1259 rfl ?_
  refine lw_help hn kl_L_226 kt_L_226 kow_L_nextGap (c_L_nextGap hn hS.1 (xs (i + 1)) (xs (i + 2))) dL_law_1260 dL_law_1263 rfl rfl ⟨by decide, by decide, show ce + 2 ≤ 601024 by omega, show sl + 12 ≤ 7293034 by omega⟩ ?_
  intro w M' w0 h0 h1
  have hq := lw_hq h0 h1 (fun _ _ _ => rfl)
  have hB := rel_B2 hR hq
  have hS2 : Same M M' nc ns nz nb nr t := same_cg hS (fun _ _ _ => rfl) (hq 64 (by decide) (by decide))
  obtain ⟨hc, hv⟩ := q_nextGap hS2 hI (xs (i + 1)) (xs (i + 2))
  refine aw_aload_n (T := TL) dL_law_1265 rfl ?_
  refine lw_arg (j := 1) hL hi rfl rfl rfl rfl dL_law_1266 dL_law_1267 dL_law_1269 dL_law_1270 dL_law_1271 ?_
  refine lw_arg (j := 2) hL hi rfl rfl rfl rfl dL_law_1272 dL_law_1273 dL_law_1275 dL_law_1276 dL_law_1277 ?_
  refine lw_ref hn (show ce + 2 ≤ 500000 by omega) (show sl + 12 ≤ 7000000 by omega) rfl rfl kv_L_228 ko_X10_nextGap (c_X10_nextGap hn hS2.2.1 (xs (i + 1)) (xs (i + 2))) rfl rfl rfl rfl rfl hc (by unfold cd_nextGap; (repeat' split) <;> decide) (fun q => (w0 (hc.trans q)).trans (congrArg Int32.toInt64 (hv q))) (by decide) (by decide) dL_law_1278 dL_law_1281 dL_law_1283 dL_law_1284 dL_law_1287 dL_law_1289 dL_law_1294 dL_law_1296 dL_law_1299 dL_law_1300 dL_law_1301 dL_law_1302 dL_law_1304 dL_law_1305 dL_law_1306 dL_law_1311 ?_
  intro M2 hr
  exact kk _ _ _ _ _ (lw_fin hB rfl hc h0 h1 (fun _ _ => rfl) (fun q => hB) hr) hn (show ce + 2 ≤ ce + 100 by omega) (show sl + 12 ≤ sl + 2000 by omega)
theorem lw_c16 {b L : Nat} {xs : Nat → Int32} {i : Nat} {G : AG} {M : Nat → Nat → Int32} {n ce sl : Nat} (hL : L ≤ 3072) (hi : i + 6 ≤ L) (hR : Rel G M M n) (hn : 72 ≤ n) (hce : ce ≤ 400000) (hsl : sl ≤ 6000000) (kk : LK b L xs i ce sl) : AW TL QL (CL b L xs) 1314 (LO i none none) [] (wld G M) n ce sl := by
  obtain ⟨nc, ns, nz, nb, nr, t, hS, hI⟩ := hR.1
  refine aw_aload_n (T := TL) dL_law_1314 rfl ?_
  refine lw_arg (j := 1) hL hi rfl rfl rfl rfl dL_law_1315 dL_law_1316 dL_law_1318 dL_law_1319 dL_law_1320 ?_
  refine lw_arg (j := 2) hL hi rfl rfl rfl rfl dL_law_1321 dL_law_1322 dL_law_1324 dL_law_1325 dL_law_1326 ?_
  refine lw_arg (j := 3) hL hi rfl rfl rfl rfl dL_law_1327 dL_law_1328 dL_law_1330 dL_law_1331 dL_law_1332 ?_
  refine aw_aload_n (T := TL) dL_law_1333 rfl ?_
  refine lw_help hn kl_L_229 kt_L_229 kow_L_book (c_L_book hn hS.1 (xs (i + 1)) (xs (i + 2)) (xs (i + 3))) dL_law_1334 dL_law_1337 rfl rfl ⟨by decide, by decide, show ce + 3 ≤ 601024 by omega, show sl + 18 ≤ 7293034 by omega⟩ ?_
  intro w M' w0 h0 h1
  have hq := lw_hq h0 h1 (fun i a c => kc_book i (Or.inr (by omega)))
  have hB := rel_B2 hR hq
  have hS2 : Same M M' nc ns nz nb nr t := same_cg hS (fun _ _ _ => rfl) (hq 64 (by decide) (by decide))
  obtain ⟨hc, hv⟩ := u_book hS2 hI (xs (i + 1)) (xs (i + 2)) (xs (i + 3))
  refine aw_aload_n (T := TL) dL_law_1339 rfl ?_
  refine lw_arg (j := 1) hL hi rfl rfl rfl rfl dL_law_1340 dL_law_1341 dL_law_1343 dL_law_1344 dL_law_1345 ?_
  refine lw_arg (j := 2) hL hi rfl rfl rfl rfl dL_law_1346 dL_law_1347 dL_law_1349 dL_law_1350 dL_law_1351 ?_
  refine lw_arg (j := 3) hL hi rfl rfl rfl rfl dL_law_1352 dL_law_1353 dL_law_1355 dL_law_1356 dL_law_1357 ?_
  refine lw_ref hn (show ce + 3 ≤ 500000 by omega) (show sl + 18 ≤ 7000000 by omega) rfl rfl kv_L_231 ko_X10_book (c_X10_book hn hS2.2.1 (xs (i + 1)) (xs (i + 2)) (xs (i + 3))) rfl rfl rfl rfl rfl hc (by unfold cd_book; (repeat' split) <;> decide) (fun q => (w0 (hc.trans q)).trans (rfl)) (by decide) (by decide) dL_law_1358 dL_law_1361 dL_law_1363 dL_law_1364 dL_law_1367 dL_law_1369 dL_law_1374 dL_law_1376 dL_law_1379 dL_law_1380 dL_law_1381 dL_law_1382 dL_law_1384 dL_law_1385 dL_law_1386 dL_law_1391 ?_
  intro M2 hr
  exact kk _ _ _ _ _ (lw_fin hB rfl hc h0 h1 (fun i a => kr_book i (by omega)) (fun q => rel_st hB kc_book kr_book (hv q)) hr) hn (show ce + 3 ≤ ce + 100 by omega) (show sl + 18 ≤ sl + 2000 by omega)
theorem lw_c17 {b L : Nat} {xs : Nat → Int32} {i : Nat} {G : AG} {M : Nat → Nat → Int32} {n ce sl : Nat} (hL : L ≤ 3072) (hi : i + 6 ≤ L) (hR : Rel G M M n) (hn : 72 ≤ n) (hce : ce ≤ 400000) (hsl : sl ≤ 6000000) (kk : LK b L xs i ce sl) : AW TL QL (CL b L xs) 1394 (LO i none none) [] (wld G M) n ce sl := by
  obtain ⟨nc, ns, nz, nb, nr, t, hS, hI⟩ := hR.1
  refine lw_dir hn hce hsl rfl rfl rfl rfl kv_L_232 ko_X9_bookingCount (c_X9_bookingCount hn) kv_L_235 ko_X10_bookingCount (c_X10_bookingCount hn hS.2.1) rfl rfl rfl rfl rfl rfl (by unfold cr_bookingCount; rfl) (hS.2.1.2.2.2.2.2.2.1.trans hS.1.2.2.2.2.2.2.1.symm) (by decide) dL_law_1394 dL_law_1395 dL_law_1398 dL_law_1399 dL_law_1402 ?_
  intro M2 hr
  exact kk _ _ _ _ _ (rel_rs hR hr) hn (by omega) (by omega)
theorem lw_c18 {b L : Nat} {xs : Nat → Int32} {i : Nat} {G : AG} {M : Nat → Nat → Int32} {n ce sl : Nat} (hL : L ≤ 3072) (hi : i + 6 ≤ L) (hR : Rel G M M n) (hn : 72 ≤ n) (hce : ce ≤ 400000) (hsl : sl ≤ 6000000) (kk : LK b L xs i ce sl) : AW TL QL (CL b L xs) 1407 (LO i none none) [] (wld G M) n ce sl := by
  obtain ⟨nc, ns, nz, nb, nr, t, hS, hI⟩ := hR.1
  refine aw_aload_n (T := TL) dL_law_1407 rfl ?_
  refine lw_arg (j := 1) hL hi rfl rfl rfl rfl dL_law_1408 dL_law_1409 dL_law_1411 dL_law_1412 dL_law_1413 ?_
  refine aw_aload_n (T := TL) dL_law_1414 rfl ?_
  refine lw_help hn kl_L_236 kt_L_236 kow_L_bookingState (c_L_bookingState hn hS.1 (xs (i + 1))) dL_law_1415 dL_law_1418 rfl rfl ⟨by decide, by decide, show ce + 1 ≤ 601024 by omega, show sl + 6 ≤ 7293034 by omega⟩ ?_
  intro w M' w0 h0 h1
  have hq := lw_hq h0 h1 (fun _ _ _ => rfl)
  have hB := rel_B2 hR hq
  have hS2 : Same M M' nc ns nz nb nr t := same_cg hS (fun _ _ _ => rfl) (hq 64 (by decide) (by decide))
  obtain ⟨hc, hv⟩ := q_bf hS2 (xs (i + 1)) (hS2.2.2.2.2.2.1.2.2.2.2.1)
  refine aw_aload_n (T := TL) dL_law_1420 rfl ?_
  refine lw_arg (j := 1) hL hi rfl rfl rfl rfl dL_law_1421 dL_law_1422 dL_law_1424 dL_law_1425 dL_law_1426 ?_
  refine lw_ref hn (show ce + 1 ≤ 500000 by omega) (show sl + 6 ≤ 7000000 by omega) rfl rfl kv_L_238 ko_X10_bookingState (c_X10_bookingState hn hS2.2.1.2.2.2.2.2.2.1 hS2.2.1.2.2.2.2.2.2.2.1 (xs (i + 1))) rfl rfl rfl rfl rfl hc (by unfold cd_bookingState; (repeat' split) <;> decide) (fun q => (w0 (hc.trans q)).trans (congrArg Int32.toInt64 (hv q))) (by decide) (by decide) dL_law_1427 dL_law_1430 dL_law_1432 dL_law_1433 dL_law_1436 dL_law_1438 dL_law_1443 dL_law_1445 dL_law_1448 dL_law_1449 dL_law_1450 dL_law_1451 dL_law_1453 dL_law_1454 dL_law_1455 dL_law_1460 ?_
  intro M2 hr
  exact kk _ _ _ _ _ (lw_fin hB rfl hc h0 h1 (fun _ _ => rfl) (fun q => hB) hr) hn (show ce + 1 ≤ ce + 100 by omega) (show sl + 6 ≤ sl + 2000 by omega)
theorem lw_c19 {b L : Nat} {xs : Nat → Int32} {i : Nat} {G : AG} {M : Nat → Nat → Int32} {n ce sl : Nat} (hL : L ≤ 3072) (hi : i + 6 ≤ L) (hR : Rel G M M n) (hn : 72 ≤ n) (hce : ce ≤ 400000) (hsl : sl ≤ 6000000) (kk : LK b L xs i ce sl) : AW TL QL (CL b L xs) 1463 (LO i none none) [] (wld G M) n ce sl := by
  obtain ⟨nc, ns, nz, nb, nr, t, hS, hI⟩ := hR.1
  refine aw_aload_n (T := TL) dL_law_1463 rfl ?_
  refine lw_arg (j := 1) hL hi rfl rfl rfl rfl dL_law_1464 dL_law_1465 dL_law_1467 dL_law_1468 dL_law_1469 ?_
  refine aw_aload_n (T := TL) dL_law_1470 rfl ?_
  refine lw_help hn kl_L_239 kt_L_239 kow_L_bookingClass (c_L_bookingClass hn hS.1 (xs (i + 1))) dL_law_1471 dL_law_1474 rfl rfl ⟨by decide, by decide, show ce + 1 ≤ 601024 by omega, show sl + 6 ≤ 7293034 by omega⟩ ?_
  intro w M' w0 h0 h1
  have hq := lw_hq h0 h1 (fun _ _ _ => rfl)
  have hB := rel_B2 hR hq
  have hS2 : Same M M' nc ns nz nb nr t := same_cg hS (fun _ _ _ => rfl) (hq 64 (by decide) (by decide))
  obtain ⟨hc, hv⟩ := q_bf hS2 (xs (i + 1)) (hS2.2.2.2.2.2.1.1)
  refine aw_aload_n (T := TL) dL_law_1476 rfl ?_
  refine lw_arg (j := 1) hL hi rfl rfl rfl rfl dL_law_1477 dL_law_1478 dL_law_1480 dL_law_1481 dL_law_1482 ?_
  refine lw_ref hn (show ce + 1 ≤ 500000 by omega) (show sl + 6 ≤ 7000000 by omega) rfl rfl kv_L_241 ko_X10_bookingClass (c_X10_bookingClass hn hS2.2.1.2.2.2.2.2.2.1 hS2.2.1.2.2.2.2.2.2.2.1 (xs (i + 1))) rfl rfl rfl rfl rfl hc (by unfold cd_bookingClass; (repeat' split) <;> decide) (fun q => (w0 (hc.trans q)).trans (congrArg Int32.toInt64 (hv q))) (by decide) (by decide) dL_law_1483 dL_law_1486 dL_law_1488 dL_law_1489 dL_law_1492 dL_law_1494 dL_law_1499 dL_law_1501 dL_law_1504 dL_law_1505 dL_law_1506 dL_law_1507 dL_law_1509 dL_law_1510 dL_law_1511 dL_law_1516 ?_
  intro M2 hr
  exact kk _ _ _ _ _ (lw_fin hB rfl hc h0 h1 (fun _ _ => rfl) (fun q => hB) hr) hn (show ce + 1 ≤ ce + 100 by omega) (show sl + 6 ≤ sl + 2000 by omega)
theorem lw_c20 {b L : Nat} {xs : Nat → Int32} {i : Nat} {G : AG} {M : Nat → Nat → Int32} {n ce sl : Nat} (hL : L ≤ 3072) (hi : i + 6 ≤ L) (hR : Rel G M M n) (hn : 72 ≤ n) (hce : ce ≤ 400000) (hsl : sl ≤ 6000000) (kk : LK b L xs i ce sl) : AW TL QL (CL b L xs) 1519 (LO i none none) [] (wld G M) n ce sl := by
  obtain ⟨nc, ns, nz, nb, nr, t, hS, hI⟩ := hR.1
  refine aw_aload_n (T := TL) dL_law_1519 rfl ?_
  refine lw_arg (j := 1) hL hi rfl rfl rfl rfl dL_law_1520 dL_law_1521 dL_law_1523 dL_law_1524 dL_law_1525 ?_
  refine aw_aload_n (T := TL) dL_law_1526 rfl ?_
  refine lw_help hn kl_L_242 kt_L_242 kow_L_arrival (c_L_arrival hn hS.1 (xs (i + 1))) dL_law_1527 dL_law_1530 rfl rfl ⟨by decide, by decide, show ce + 1 ≤ 601024 by omega, show sl + 6 ≤ 7293034 by omega⟩ ?_
  intro w M' w0 h0 h1
  have hq := lw_hq h0 h1 (fun _ _ _ => rfl)
  have hB := rel_B2 hR hq
  have hS2 : Same M M' nc ns nz nb nr t := same_cg hS (fun _ _ _ => rfl) (hq 64 (by decide) (by decide))
  obtain ⟨hc, hv⟩ := q_bf hS2 (xs (i + 1)) (hS2.2.2.2.2.2.1.2.1)
  refine aw_aload_n (T := TL) dL_law_1532 rfl ?_
  refine lw_arg (j := 1) hL hi rfl rfl rfl rfl dL_law_1533 dL_law_1534 dL_law_1536 dL_law_1537 dL_law_1538 ?_
  refine lw_ref hn (show ce + 1 ≤ 500000 by omega) (show sl + 6 ≤ 7000000 by omega) rfl rfl kv_L_244 ko_X10_arrival (c_X10_arrival hn hS2.2.1.2.2.2.2.2.2.1 hS2.2.1.2.2.2.2.2.2.2.1 (xs (i + 1))) rfl rfl rfl rfl rfl hc (by unfold cd_arrival; (repeat' split) <;> decide) (fun q => (w0 (hc.trans q)).trans (congrArg Int32.toInt64 (hv q))) (by decide) (by decide) dL_law_1539 dL_law_1542 dL_law_1544 dL_law_1545 dL_law_1548 dL_law_1550 dL_law_1555 dL_law_1557 dL_law_1560 dL_law_1561 dL_law_1562 dL_law_1563 dL_law_1565 dL_law_1566 dL_law_1567 dL_law_1572 ?_
  intro M2 hr
  exact kk _ _ _ _ _ (lw_fin hB rfl hc h0 h1 (fun _ _ => rfl) (fun q => hB) hr) hn (show ce + 1 ≤ ce + 100 by omega) (show sl + 6 ≤ sl + 2000 by omega)
theorem lw_c21 {b L : Nat} {xs : Nat → Int32} {i : Nat} {G : AG} {M : Nat → Nat → Int32} {n ce sl : Nat} (hL : L ≤ 3072) (hi : i + 6 ≤ L) (hR : Rel G M M n) (hn : 72 ≤ n) (hce : ce ≤ 400000) (hsl : sl ≤ 6000000) (kk : LK b L xs i ce sl) : AW TL QL (CL b L xs) 1575 (LO i none none) [] (wld G M) n ce sl := by
  obtain ⟨nc, ns, nz, nb, nr, t, hS, hI⟩ := hR.1
  refine aw_aload_n (T := TL) dL_law_1575 rfl ?_
  refine lw_arg (j := 1) hL hi rfl rfl rfl rfl dL_law_1576 dL_law_1577 dL_law_1579 dL_law_1580 dL_law_1581 ?_
  refine aw_aload_n (T := TL) dL_law_1582 rfl ?_
  refine lw_help hn kl_L_245 kt_L_245 kow_L_departure (c_L_departure hn hS.1 (xs (i + 1))) dL_law_1583 dL_law_1586 rfl rfl ⟨by decide, by decide, show ce + 1 ≤ 601024 by omega, show sl + 6 ≤ 7293034 by omega⟩ ?_
  intro w M' w0 h0 h1
  have hq := lw_hq h0 h1 (fun _ _ _ => rfl)
  have hB := rel_B2 hR hq
  have hS2 : Same M M' nc ns nz nb nr t := same_cg hS (fun _ _ _ => rfl) (hq 64 (by decide) (by decide))
  obtain ⟨hc, hv⟩ := q_bf hS2 (xs (i + 1)) (hS2.2.2.2.2.2.1.2.2.1)
  refine aw_aload_n (T := TL) dL_law_1588 rfl ?_
  refine lw_arg (j := 1) hL hi rfl rfl rfl rfl dL_law_1589 dL_law_1590 dL_law_1592 dL_law_1593 dL_law_1594 ?_
  refine lw_ref hn (show ce + 1 ≤ 500000 by omega) (show sl + 6 ≤ 7000000 by omega) rfl rfl kv_L_247 ko_X10_departure (c_X10_departure hn hS2.2.1.2.2.2.2.2.2.1 hS2.2.1.2.2.2.2.2.2.2.1 (xs (i + 1))) rfl rfl rfl rfl rfl hc (by unfold cd_departure; (repeat' split) <;> decide) (fun q => (w0 (hc.trans q)).trans (congrArg Int32.toInt64 (hv q))) (by decide) (by decide) dL_law_1595 dL_law_1598 dL_law_1600 dL_law_1601 dL_law_1604 dL_law_1606 dL_law_1611 dL_law_1613 dL_law_1616 dL_law_1617 dL_law_1618 dL_law_1619 dL_law_1621 dL_law_1622 dL_law_1623 dL_law_1628 ?_
  intro M2 hr
  exact kk _ _ _ _ _ (lw_fin hB rfl hc h0 h1 (fun _ _ => rfl) (fun q => hB) hr) hn (show ce + 1 ≤ ce + 100 by omega) (show sl + 6 ≤ sl + 2000 by omega)
theorem lw_c22 {b L : Nat} {xs : Nat → Int32} {i : Nat} {G : AG} {M : Nat → Nat → Int32} {n ce sl : Nat} (hL : L ≤ 3072) (hi : i + 6 ≤ L) (hR : Rel G M M n) (hn : 72 ≤ n) (hce : ce ≤ 400000) (hsl : sl ≤ 6000000) (kk : LK b L xs i ce sl) : AW TL QL (CL b L xs) 1631 (LO i none none) [] (wld G M) n ce sl := by
  obtain ⟨nc, ns, nz, nb, nr, t, hS, hI⟩ := hR.1
  refine aw_aload_n (T := TL) dL_law_1631 rfl ?_
  refine lw_arg (j := 1) hL hi rfl rfl rfl rfl dL_law_1632 dL_law_1633 dL_law_1635 dL_law_1636 dL_law_1637 ?_
  refine aw_aload_n (T := TL) dL_law_1638 rfl ?_
  refine lw_help hn kl_L_248 kt_L_248 kow_L_cost (c_L_cost hn hS.1 (xs (i + 1))) dL_law_1639 dL_law_1642 rfl rfl ⟨by decide, by decide, show ce + 1 ≤ 601024 by omega, show sl + 6 ≤ 7293034 by omega⟩ ?_
  intro w M' w0 h0 h1
  have hq := lw_hq h0 h1 (fun _ _ _ => rfl)
  have hB := rel_B2 hR hq
  have hS2 : Same M M' nc ns nz nb nr t := same_cg hS (fun _ _ _ => rfl) (hq 64 (by decide) (by decide))
  obtain ⟨hc, hv⟩ := q_bf hS2 (xs (i + 1)) (hS2.2.2.2.2.2.1.2.2.2.1)
  refine aw_aload_n (T := TL) dL_law_1644 rfl ?_
  refine lw_arg (j := 1) hL hi rfl rfl rfl rfl dL_law_1645 dL_law_1646 dL_law_1648 dL_law_1649 dL_law_1650 ?_
  refine lw_ref hn (show ce + 1 ≤ 500000 by omega) (show sl + 6 ≤ 7000000 by omega) rfl rfl kv_L_250 ko_X10_cost (c_X10_cost hn hS2.2.1.2.2.2.2.2.2.1 hS2.2.1.2.2.2.2.2.2.2.1 (xs (i + 1))) rfl rfl rfl rfl rfl hc (by unfold cd_cost; (repeat' split) <;> decide) (fun q => (w0 (hc.trans q)).trans (congrArg Int32.toInt64 (hv q))) (by decide) (by decide) dL_law_1651 dL_law_1654 dL_law_1656 dL_law_1657 dL_law_1660 dL_law_1662 dL_law_1667 dL_law_1669 dL_law_1672 dL_law_1673 dL_law_1674 dL_law_1675 dL_law_1677 dL_law_1678 dL_law_1679 dL_law_1684 ?_
  intro M2 hr
  exact kk _ _ _ _ _ (lw_fin hB rfl hc h0 h1 (fun _ _ => rfl) (fun q => hB) hr) hn (show ce + 1 ≤ ce + 100 by omega) (show sl + 6 ≤ sl + 2000 by omega)
theorem lw_c23 {b L : Nat} {xs : Nat → Int32} {i : Nat} {G : AG} {M : Nat → Nat → Int32} {n ce sl : Nat} (hL : L ≤ 3072) (hi : i + 6 ≤ L) (hR : Rel G M M n) (hn : 72 ≤ n) (hce : ce ≤ 400000) (hsl : sl ≤ 6000000) (kk : LK b L xs i ce sl) : AW TL QL (CL b L xs) 1687 (LO i none none) [] (wld G M) n ce sl := by
  obtain ⟨nc, ns, nz, nb, nr, t, hS, hI⟩ := hR.1
  refine aw_aload_n (T := TL) dL_law_1687 rfl ?_
  refine lw_arg (j := 1) hL hi rfl rfl rfl rfl dL_law_1688 dL_law_1689 dL_law_1691 dL_law_1692 dL_law_1693 ?_
  refine aw_aload_n (T := TL) dL_law_1694 rfl ?_
  refine lw_help hn kl_L_251 kt_L_251 kow_L_siteOf (c_L_siteOf hn hS.1 (xs (i + 1))) dL_law_1695 dL_law_1698 rfl rfl ⟨by decide, by decide, show ce + 1 ≤ 601024 by omega, show sl + 6 ≤ 7293034 by omega⟩ ?_
  intro w M' w0 h0 h1
  have hq := lw_hq h0 h1 (fun _ _ _ => rfl)
  have hB := rel_B2 hR hq
  have hS2 : Same M M' nc ns nz nb nr t := same_cg hS (fun _ _ _ => rfl) (hq 64 (by decide) (by decide))
  obtain ⟨hc, hv⟩ := q_bf hS2 (xs (i + 1)) (hS2.2.2.2.2.2.1.2.2.2.2.2)
  refine aw_aload_n (T := TL) dL_law_1700 rfl ?_
  refine lw_arg (j := 1) hL hi rfl rfl rfl rfl dL_law_1701 dL_law_1702 dL_law_1704 dL_law_1705 dL_law_1706 ?_
  refine lw_ref hn (show ce + 1 ≤ 500000 by omega) (show sl + 6 ≤ 7000000 by omega) rfl rfl kv_L_253 ko_X10_siteOf (c_X10_siteOf hn hS2.2.1.2.2.2.2.2.2.1 hS2.2.1.2.2.2.2.2.2.2.1 (xs (i + 1))) rfl rfl rfl rfl rfl hc (by unfold cd_siteOf; (repeat' split) <;> decide) (fun q => (w0 (hc.trans q)).trans (congrArg Int32.toInt64 (hv q))) (by decide) (by decide) dL_law_1707 dL_law_1710 dL_law_1712 dL_law_1713 dL_law_1716 dL_law_1718 dL_law_1723 dL_law_1725 dL_law_1728 dL_law_1729 dL_law_1730 dL_law_1731 dL_law_1733 dL_law_1734 dL_law_1735 dL_law_1740 ?_
  intro M2 hr
  exact kk _ _ _ _ _ (lw_fin hB rfl hc h0 h1 (fun _ _ => rfl) (fun q => hB) hr) hn (show ce + 1 ≤ ce + 100 by omega) (show sl + 6 ≤ sl + 2000 by omega)
theorem lw_c24 {b L : Nat} {xs : Nat → Int32} {i : Nat} {G : AG} {M : Nat → Nat → Int32} {n ce sl : Nat} (hL : L ≤ 3072) (hi : i + 6 ≤ L) (hR : Rel G M M n) (hn : 72 ≤ n) (hce : ce ≤ 400000) (hsl : sl ≤ 6000000) (kk : LK b L xs i ce sl) : AW TL QL (CL b L xs) 1743 (LO i none none) [] (wld G M) n ce sl := by
  obtain ⟨nc, ns, nz, nb, nr, t, hS, hI⟩ := hR.1
  refine aw_aload_n (T := TL) dL_law_1743 rfl ?_
  refine lw_arg (j := 1) hL hi rfl rfl rfl rfl dL_law_1744 dL_law_1745 dL_law_1747 dL_law_1748 dL_law_1749 ?_
  refine aw_aload_n (T := TL) dL_law_1750 rfl ?_
  refine lw_help hn kl_L_254 kt_L_254 kow_L_cancel (c_L_cancel hn hS.1 (xs (i + 1))) dL_law_1751 dL_law_1754 rfl rfl ⟨by decide, by decide, show ce + 2 ≤ 601024 by omega, show sl + 12 ≤ 7293034 by omega⟩ ?_
  intro w M' w0 h0 h1
  have hq := lw_hq h0 h1 (fun i a c => (kc_2 (by decide)) i (Or.inr (by omega)))
  have hB := rel_B2 hR hq
  have hS2 : Same M M' nc ns nz nb nr t := same_cg hS (fun _ _ _ => rfl) (hq 64 (by decide) (by decide))
  obtain ⟨hc, hv⟩ := u_cancel hS2 hI (xs (i + 1))
  refine aw_aload_n (T := TL) dL_law_1756 rfl ?_
  refine lw_arg (j := 1) hL hi rfl rfl rfl rfl dL_law_1757 dL_law_1758 dL_law_1760 dL_law_1761 dL_law_1762 ?_
  refine lw_ref hn (show ce + 2 ≤ 500000 by omega) (show sl + 12 ≤ 7000000 by omega) rfl rfl kv_L_256 ko_X10_cancel (c_X10_cancel hn hS2.2.1 (xs (i + 1))) rfl rfl rfl rfl rfl hc (by unfold cd_cancel; (repeat' split) <;> decide) (fun q => (w0 (hc.trans q)).trans (congrArg Int32.toInt64 (hv q).1)) (by decide) (by decide) dL_law_1763 dL_law_1766 dL_law_1768 dL_law_1769 dL_law_1772 dL_law_1774 dL_law_1779 dL_law_1781 dL_law_1784 dL_law_1785 dL_law_1786 dL_law_1787 dL_law_1789 dL_law_1790 dL_law_1791 dL_law_1796 ?_
  intro M2 hr
  exact kk _ _ _ _ _ (lw_fin hB rfl hc h0 h1 (fun i a => kr_2 i (by omega)) (fun q => rel_st hB (kc_2 (by decide)) kr_2 (hv q).2) hr) hn (show ce + 2 ≤ ce + 100 by omega) (show sl + 12 ≤ sl + 2000 by omega)
theorem lw_c25 {b L : Nat} {xs : Nat → Int32} {i : Nat} {G : AG} {M : Nat → Nat → Int32} {n ce sl : Nat} (hL : L ≤ 3072) (hi : i + 6 ≤ L) (hR : Rel G M M n) (hn : 72 ≤ n) (hce : ce ≤ 400000) (hsl : sl ≤ 6000000) (kk : LK b L xs i ce sl) : AW TL QL (CL b L xs) 1799 (LO i none none) [] (wld G M) n ce sl := by
  obtain ⟨nc, ns, nz, nb, nr, t, hS, hI⟩ := hR.1
  refine aw_aload_n (T := TL) dL_law_1799 rfl ?_
  refine lw_arg (j := 1) hL hi rfl rfl rfl rfl dL_law_1800 dL_law_1801 dL_law_1803 dL_law_1804 dL_law_1805 ?_
  refine aw_aload_n (T := TL) dL_law_1806 rfl ?_
  refine lw_help hn kl_L_257 kt_L_257 kow_L_vacantSite (c_L_vacantSite hn hS.1 (xs (i + 1))) dL_law_1807 dL_law_1810 rfl rfl ⟨by decide, by decide, show ce + 1 ≤ 601024 by omega, show sl + 6 ≤ 7293034 by omega⟩ ?_
  intro w M' w0 h0 h1
  have hq := lw_hq h0 h1 (fun _ _ _ => rfl)
  have hB := rel_B2 hR hq
  have hS2 : Same M M' nc ns nz nb nr t := same_cg hS (fun _ _ _ => rfl) (hq 64 (by decide) (by decide))
  obtain ⟨hc, hv⟩ := q_vacantSite hS2 (xs (i + 1))
  refine aw_aload_n (T := TL) dL_law_1812 rfl ?_
  refine lw_arg (j := 1) hL hi rfl rfl rfl rfl dL_law_1813 dL_law_1814 dL_law_1816 dL_law_1817 dL_law_1818 ?_
  refine lw_ref hn (show ce + 1 ≤ 500000 by omega) (show sl + 6 ≤ 7000000 by omega) rfl rfl kv_L_259 ko_X10_vacantSite (c_X10_vacantSite hn hS2.2.1 (xs (i + 1))) rfl rfl rfl rfl rfl hc (by unfold cd_vacantSite; (repeat' split) <;> decide) (fun q => (w0 (hc.trans q)).trans (congrArg Int32.toInt64 (hv q))) (by decide) (by decide) dL_law_1819 dL_law_1822 dL_law_1824 dL_law_1825 dL_law_1828 dL_law_1830 dL_law_1835 dL_law_1837 dL_law_1840 dL_law_1841 dL_law_1842 dL_law_1843 dL_law_1845 dL_law_1846 dL_law_1847 dL_law_1852 ?_
  intro M2 hr
  exact kk _ _ _ _ _ (lw_fin hB rfl hc h0 h1 (fun _ _ => rfl) (fun q => hB) hr) hn (show ce + 1 ≤ ce + 100 by omega) (show sl + 6 ≤ sl + 2000 by omega)
theorem lw_c26 {b L : Nat} {xs : Nat → Int32} {i : Nat} {G : AG} {M : Nat → Nat → Int32} {n ce sl : Nat} (hL : L ≤ 3072) (hi : i + 6 ≤ L) (hR : Rel G M M n) (hn : 72 ≤ n) (hce : ce ≤ 400000) (hsl : sl ≤ 6000000) (kk : LK b L xs i ce sl) : AW TL QL (CL b L xs) 1855 (LO i none none) [] (wld G M) n ce sl := by
  obtain ⟨nc, ns, nz, nb, nr, t, hS, hI⟩ := hR.1
  refine aw_aload_n (T := TL) dL_law_1855 rfl ?_
  refine lw_arg (j := 1) hL hi rfl rfl rfl rfl dL_law_1856 dL_law_1857 dL_law_1859 dL_law_1860 dL_law_1861 ?_
  refine lw_arg (j := 2) hL hi rfl rfl rfl rfl dL_law_1862 dL_law_1863 dL_law_1865 dL_law_1866 dL_law_1867 ?_
  refine aw_aload_n (T := TL) dL_law_1868 rfl ?_
  refine lw_help hn kl_L_260 kt_L_260 kow_L_checkIn (c_L_checkIn hn hS.1 (xs (i + 1)) (xs (i + 2))) dL_law_1869 dL_law_1872 rfl rfl ⟨by decide, by decide, show ce + 6 ≤ 601024 by omega, show sl + 36 ≤ 7293034 by omega⟩ ?_
  intro w M' w0 h0 h1
  have hq := lw_hq h0 h1 (fun i a c => (kc_2 (by decide)) i (Or.inr (by omega)))
  have hB := rel_B2 hR hq
  have hS2 : Same M M' nc ns nz nb nr t := same_cg hS (fun _ _ _ => rfl) (hq 64 (by decide) (by decide))
  obtain ⟨hc, hv⟩ := u_checkIn hS2 hI (xs (i + 1)) (xs (i + 2))
  refine aw_aload_n (T := TL) dL_law_1874 rfl ?_
  refine lw_arg (j := 1) hL hi rfl rfl rfl rfl dL_law_1875 dL_law_1876 dL_law_1878 dL_law_1879 dL_law_1880 ?_
  refine lw_arg (j := 2) hL hi rfl rfl rfl rfl dL_law_1881 dL_law_1882 dL_law_1884 dL_law_1885 dL_law_1886 ?_
  refine lw_ref hn (show ce + 6 ≤ 500000 by omega) (show sl + 36 ≤ 7000000 by omega) rfl rfl kv_L_262 ko_X10_checkIn (c_X10_checkIn hn hS2.2.1 (xs (i + 1)) (xs (i + 2))) rfl rfl rfl rfl rfl hc (by unfold cd_checkIn; (repeat' split) <;> decide) (fun q => (w0 (hc.trans q)).trans (congrArg Int32.toInt64 (hv q).1)) (by decide) (by decide) dL_law_1887 dL_law_1890 dL_law_1892 dL_law_1893 dL_law_1896 dL_law_1898 dL_law_1903 dL_law_1905 dL_law_1908 dL_law_1909 dL_law_1910 dL_law_1911 dL_law_1913 dL_law_1914 dL_law_1915 dL_law_1920 ?_
  intro M2 hr
  exact kk _ _ _ _ _ (lw_fin hB rfl hc h0 h1 (fun i a => kr_2 i (by omega)) (fun q => rel_st hB (kc_2 (by decide)) kr_2 (hv q).2) hr) hn (show ce + 6 ≤ ce + 100 by omega) (show sl + 36 ≤ sl + 2000 by omega)
theorem lw_c27 {b L : Nat} {xs : Nat → Int32} {i : Nat} {G : AG} {M : Nat → Nat → Int32} {n ce sl : Nat} (hL : L ≤ 3072) (hi : i + 6 ≤ L) (hR : Rel G M M n) (hn : 72 ≤ n) (hce : ce ≤ 400000) (hsl : sl ≤ 6000000) (kk : LK b L xs i ce sl) : AW TL QL (CL b L xs) 1923 (LO i none none) [] (wld G M) n ce sl := by
  obtain ⟨nc, ns, nz, nb, nr, t, hS, hI⟩ := hR.1
  refine aw_aload_n (T := TL) dL_law_1923 rfl ?_
  refine lw_arg (j := 1) hL hi rfl rfl rfl rfl dL_law_1924 dL_law_1925 dL_law_1927 dL_law_1928 dL_law_1929 ?_
  refine lw_arg (j := 2) hL hi rfl rfl rfl rfl dL_law_1930 dL_law_1931 dL_law_1933 dL_law_1934 dL_law_1935 ?_
  refine aw_aload_n (T := TL) dL_law_1936 rfl ?_
  refine lw_help hn kl_L_263 kt_L_263 kow_L_move (c_L_move hn hS.1 (xs (i + 1)) (xs (i + 2))) dL_law_1937 dL_law_1940 rfl rfl ⟨by decide, by decide, show ce + 5 ≤ 601024 by omega, show sl + 30 ≤ 7293034 by omega⟩ ?_
  intro w M' w0 h0 h1
  have hq := lw_hq h0 h1 (fun i a c => (kc_1 (by decide)) i (Or.inr (by omega)))
  have hB := rel_B2 hR hq
  have hS2 : Same M M' nc ns nz nb nr t := same_cg hS (fun _ _ _ => rfl) (hq 64 (by decide) (by decide))
  obtain ⟨hc, hv⟩ := u_move hS2 hI (xs (i + 1)) (xs (i + 2))
  refine aw_aload_n (T := TL) dL_law_1942 rfl ?_
  refine lw_arg (j := 1) hL hi rfl rfl rfl rfl dL_law_1943 dL_law_1944 dL_law_1946 dL_law_1947 dL_law_1948 ?_
  refine lw_arg (j := 2) hL hi rfl rfl rfl rfl dL_law_1949 dL_law_1950 dL_law_1952 dL_law_1953 dL_law_1954 ?_
  refine lw_ref hn (show ce + 5 ≤ 500000 by omega) (show sl + 30 ≤ 7000000 by omega) rfl rfl kv_L_265 ko_X10_move (c_X10_move hn hS2.2.1 (xs (i + 1)) (xs (i + 2))) rfl rfl rfl rfl rfl hc (by unfold cd_move; (repeat' split) <;> decide) (fun q => (w0 (hc.trans q)).trans (congrArg Int32.toInt64 (hv q).1)) (by decide) (by decide) dL_law_1955 dL_law_1958 dL_law_1960 dL_law_1961 dL_law_1964 dL_law_1966 dL_law_1971 dL_law_1973 dL_law_1976 dL_law_1977 dL_law_1978 dL_law_1979 dL_law_1981 dL_law_1982 dL_law_1983 dL_law_1988 ?_
  intro M2 hr
  exact kk _ _ _ _ _ (lw_fin hB rfl hc h0 h1 (fun i a => kr_w i (by omega)) (fun q => rel_st hB (kc_1 (by decide)) kr_w (hv q).2) hr) hn (show ce + 5 ≤ ce + 100 by omega) (show sl + 30 ≤ sl + 2000 by omega)
theorem lw_c28 {b L : Nat} {xs : Nat → Int32} {i : Nat} {G : AG} {M : Nat → Nat → Int32} {n ce sl : Nat} (hL : L ≤ 3072) (hi : i + 6 ≤ L) (hR : Rel G M M n) (hn : 72 ≤ n) (hce : ce ≤ 400000) (hsl : sl ≤ 6000000) (kk : LK b L xs i ce sl) : AW TL QL (CL b L xs) 1991 (LO i none none) [] (wld G M) n ce sl := by
  obtain ⟨nc, ns, nz, nb, nr, t, hS, hI⟩ := hR.1
  refine aw_aload_n (T := TL) dL_law_1991 rfl ?_
  refine lw_arg (j := 1) hL hi rfl rfl rfl rfl dL_law_1992 dL_law_1993 dL_law_1995 dL_law_1996 dL_law_1997 ?_
  refine aw_aload_n (T := TL) dL_law_1998 rfl ?_
  refine lw_help hn kl_L_266 kt_L_266 kow_L_departEarly (c_L_departEarly hn hS.1 (b_dep hI) (xs (i + 1))) dL_law_1999 dL_law_2002 rfl rfl ⟨by decide, by decide, show ce + 2 ≤ 601024 by omega, show sl + 12 ≤ 7293034 by omega⟩ ?_
  intro w M' w0 h0 h1
  have hq := lw_hq h0 h1 (fun i a c => (kc_3 (by decide)) i (Or.inr (by omega)))
  have hB := rel_B2 hR hq
  have hS2 : Same M M' nc ns nz nb nr t := same_cg hS (fun _ _ _ => rfl) (hq 64 (by decide) (by decide))
  obtain ⟨hc, hv⟩ := u_departEarly hS2 hI (xs (i + 1))
  refine aw_aload_n (T := TL) dL_law_2004 rfl ?_
  refine lw_arg (j := 1) hL hi rfl rfl rfl rfl dL_law_2005 dL_law_2006 dL_law_2008 dL_law_2009 dL_law_2010 ?_
  refine lw_ref hn (show ce + 2 ≤ 500000 by omega) (show sl + 12 ≤ 7000000 by omega) rfl rfl kv_L_268 ko_X10_departEarly (c_X10_departEarly hn hS2.2.1 (b_depV hS2 hI) (xs (i + 1))) rfl rfl rfl rfl rfl hc (by unfold cd_departEarly; (repeat' split) <;> decide) (fun q => (w0 (hc.trans q)).trans (congrArg Int32.toInt64 (hv q).1)) (by decide) (by decide) dL_law_2011 dL_law_2014 dL_law_2016 dL_law_2017 dL_law_2020 dL_law_2022 dL_law_2027 dL_law_2029 dL_law_2032 dL_law_2033 dL_law_2034 dL_law_2035 dL_law_2037 dL_law_2038 dL_law_2039 dL_law_2044 ?_
  intro M2 hr
  exact kk _ _ _ _ _ (lw_fin hB rfl hc h0 h1 (fun i a => kr_3 i (by omega)) (fun q => rel_st hB (kc_3 (by decide)) kr_3 (hv q).2) hr) hn (show ce + 2 ≤ ce + 100 by omega) (show sl + 12 ≤ sl + 2000 by omega)
theorem lw_c29 {b L : Nat} {xs : Nat → Int32} {i : Nat} {G : AG} {M : Nat → Nat → Int32} {n ce sl : Nat} (hL : L ≤ 3072) (hi : i + 6 ≤ L) (hR : Rel G M M n) (hn : 72 ≤ n) (hce : ce ≤ 400000) (hsl : sl ≤ 6000000) (kk : LK b L xs i ce sl) : AW TL QL (CL b L xs) 2047 (LO i none none) [] (wld G M) n ce sl := by
  obtain ⟨nc, ns, nz, nb, nr, t, hS, hI⟩ := hR.1
  refine aw_aload_n (T := TL) dL_law_2047 rfl ?_
  refine lw_arg (j := 1) hL hi rfl rfl rfl rfl dL_law_2048 dL_law_2049 dL_law_2051 dL_law_2052 dL_law_2053 ?_
  refine lw_arg (j := 2) hL hi rfl rfl rfl rfl dL_law_2054 dL_law_2055 dL_law_2057 dL_law_2058 dL_law_2059 ?_
  refine aw_aload_n (T := TL) dL_law_2060 rfl ?_
  refine lw_help hn kl_L_269 kt_L_269 kow_L_extend (c_L_extend hn hS.1 (b_cl hI) (xs (i + 1)) (xs (i + 2))) dL_law_2061 dL_law_2064 rfl rfl ⟨by decide, by decide, show ce + 4 ≤ 601024 by omega, show sl + 24 ≤ 7293034 by omega⟩ ?_
  intro w M' w0 h0 h1
  have hq := lw_hq h0 h1 (fun i a c => (kc_2 (by decide)) i (Or.inr (by omega)))
  have hB := rel_B2 hR hq
  have hS2 : Same M M' nc ns nz nb nr t := same_cg hS (fun _ _ _ => rfl) (hq 64 (by decide) (by decide))
  obtain ⟨hc, hv⟩ := u_extend hS2 hI (xs (i + 1)) (xs (i + 2))
  refine aw_aload_n (T := TL) dL_law_2066 rfl ?_
  refine lw_arg (j := 1) hL hi rfl rfl rfl rfl dL_law_2067 dL_law_2068 dL_law_2070 dL_law_2071 dL_law_2072 ?_
  refine lw_arg (j := 2) hL hi rfl rfl rfl rfl dL_law_2073 dL_law_2074 dL_law_2076 dL_law_2077 dL_law_2078 ?_
  refine lw_ref hn (show ce + 4 ≤ 500000 by omega) (show sl + 24 ≤ 7000000 by omega) rfl rfl kv_L_271 ko_X10_extend (c_X10_extend hn hS2.2.1 (b_clV hS2 hI) (xs (i + 1)) (xs (i + 2))) rfl rfl rfl rfl rfl hc (by unfold cd_extend; (repeat' split) <;> decide) (fun q => (w0 (hc.trans q)).trans (congrArg Int32.toInt64 (hv q).1)) (by decide) (by decide) dL_law_2079 dL_law_2082 dL_law_2084 dL_law_2085 dL_law_2088 dL_law_2090 dL_law_2095 dL_law_2097 dL_law_2100 dL_law_2101 dL_law_2102 dL_law_2103 dL_law_2105 dL_law_2106 dL_law_2107 dL_law_2112 ?_
  intro M2 hr
  exact kk _ _ _ _ _ (lw_fin hB rfl hc h0 h1 (fun i a => kr_2 i (by omega)) (fun q => rel_st hB (kc_2 (by decide)) kr_2 (hv q).2) hr) hn (show ce + 4 ≤ ce + 100 by omega) (show sl + 24 ≤ sl + 2000 by omega)
theorem lw_c30 {b L : Nat} {xs : Nat → Int32} {i : Nat} {G : AG} {M : Nat → Nat → Int32} {n ce sl : Nat} (hL : L ≤ 3072) (hi : i + 6 ≤ L) (hR : Rel G M M n) (hn : 72 ≤ n) (hce : ce ≤ 400000) (hsl : sl ≤ 6000000) (kk : LK b L xs i ce sl) : AW TL QL (CL b L xs) 2115 (LO i none none) [] (wld G M) n ce sl := by
  obtain ⟨nc, ns, nz, nb, nr, t, hS, hI⟩ := hR.1
  refine aw_aload_n (T := TL) dL_law_2115 rfl ?_
  refine lw_arg (j := 1) hL hi rfl rfl rfl rfl dL_law_2116 dL_law_2117 dL_law_2119 dL_law_2120 dL_law_2121 ?_
  refine aw_aload_n (T := TL) dL_law_2122 rfl ?_
  refine lw_help hn kl_L_272 kt_L_272 kow_L_endDays (c_L_endDays hn hS.1 (xs (i + 1))) dL_law_2123 dL_law_2126 rfl rfl ⟨by decide, by decide, show ce + 2 ≤ 601024 by omega, show sl + 12 ≤ 7293034 by omega⟩ ?_
  intro w M' w0 h0 h1
  have hq := lw_hq h0 h1 (fun i a c => (kc_enDn _) i (Or.inr (by omega)))
  have hB := rel_B2 hR hq
  have hS2 : Same M M' nc ns nz nb nr t := same_cg hS (fun _ _ _ => rfl) (hq 64 (by decide) (by decide))
  obtain ⟨hc, hv⟩ := u_endDays hS2 hI (xs (i + 1))
  refine aw_aload_n (T := TL) dL_law_2128 rfl ?_
  refine lw_arg (j := 1) hL hi rfl rfl rfl rfl dL_law_2129 dL_law_2130 dL_law_2132 dL_law_2133 dL_law_2134 ?_
  refine lw_ref hn (show ce + 2 ≤ 500000 by omega) (show sl + 12 ≤ 7000000 by omega) rfl rfl kv_L_274 ko_X10_endDays (c_X10_endDays hn hS2.2.1 (xs (i + 1))) rfl rfl rfl rfl rfl hc (by unfold cd_endDays; (repeat' split) <;> decide) (fun q => (w0 (hc.trans q)).trans (congrArg Int32.toInt64 (hv q).1)) (by decide) (by decide) dL_law_2135 dL_law_2138 dL_law_2140 dL_law_2141 dL_law_2144 dL_law_2146 dL_law_2151 dL_law_2153 dL_law_2156 dL_law_2157 dL_law_2158 dL_law_2159 dL_law_2161 dL_law_2162 dL_law_2163 dL_law_2168 ?_
  intro M2 hr
  exact kk _ _ _ _ _ (lw_fin hB rfl hc h0 h1 (fun i a => (kr_edN _) i (by omega)) (fun q => rel_st hB (kc_enDn _) (kr_edN _) (hv q).2) hr) hn (show ce + 2 ≤ ce + 100 by omega) (show sl + 12 ≤ sl + 2000 by omega)
theorem lw_c31 {b L : Nat} {xs : Nat → Int32} {i : Nat} {G : AG} {M : Nat → Nat → Int32} {n ce sl : Nat} (hL : L ≤ 3072) (hi : i + 6 ≤ L) (hR : Rel G M M n) (hn : 72 ≤ n) (hce : ce ≤ 400000) (hsl : sl ≤ 6000000) (kk : LK b L xs i ce sl) : AW TL QL (CL b L xs) 2171 (LO i none none) [] (wld G M) n ce sl := by
  obtain ⟨nc, ns, nz, nb, nr, t, hS, hI⟩ := hR.1
  refine lw_dir hn hce hsl rfl rfl rfl rfl kv_L_275 ko_X9_today (c_X9_today hn) kv_L_278 ko_X10_today (c_X10_today hn hS.2.1) rfl rfl rfl rfl rfl rfl (by unfold cr_today; rfl) ((s_t hS).symm) (by decide) dL_law_2171 dL_law_2172 dL_law_2175 dL_law_2176 dL_law_2179 ?_
  intro M2 hr
  exact kk _ _ _ _ _ (rel_rs hR hr) hn (by omega) (by omega)
theorem lw_c32 {b L : Nat} {xs : Nat → Int32} {i : Nat} {G : AG} {M : Nat → Nat → Int32} {n ce sl : Nat} (hL : L ≤ 3072) (hi : i + 6 ≤ L) (hR : Rel G M M n) (hn : 72 ≤ n) (hce : ce ≤ 400000) (hsl : sl ≤ 6000000) (kk : LK b L xs i ce sl) : AW TL QL (CL b L xs) 2184 (LO i none none) [] (wld G M) n ce sl := by
  obtain ⟨nc, ns, nz, nb, nr, t, hS, hI⟩ := hR.1
  refine aw_aload_n (T := TL) dL_law_2184 rfl ?_
  refine lw_arg (j := 1) hL hi rfl rfl rfl rfl dL_law_2185 dL_law_2186 dL_law_2188 dL_law_2189 dL_law_2190 ?_
  refine lw_arg (j := 2) hL hi rfl rfl rfl rfl dL_law_2191 dL_law_2192 dL_law_2194 dL_law_2195 dL_law_2196 ?_
  refine lw_helpv hn kl_L_279 kt_L_279 kow_L_close (c_L_close hn hS.1 (xs (i + 1)) (xs (i + 2))) dL_law_2197 dL_law_2200 rfl rfl ⟨by decide, by decide, show ce + 4 ≤ 601024 by omega, show sl + 24 ≤ 7293034 by omega⟩ ?_
  intro M' h0 h1
  have hq := lw_hq h0 h1 (fun i a c => (kc_1 (by decide)) i (Or.inr (by omega)))
  have hB := rel_B2 hR hq
  have hS2 : Same M M' nc ns nz nb nr t := same_cg hS (fun _ _ _ => rfl) (hq 64 (by decide) (by decide))
  obtain ⟨hc, hv⟩ := u_close hS2 hI (xs (i + 1)) (xs (i + 2))
  refine aw_aload_n (T := TL) dL_law_2202 rfl ?_
  refine lw_arg (j := 1) hL hi rfl rfl rfl rfl dL_law_2203 dL_law_2204 dL_law_2206 dL_law_2207 dL_law_2208 ?_
  refine lw_arg (j := 2) hL hi rfl rfl rfl rfl dL_law_2209 dL_law_2210 dL_law_2212 dL_law_2213 dL_law_2214 ?_
  refine lw_refv hn (show ce + 4 ≤ 500000 by omega) (show sl + 24 ≤ 7000000 by omega) rfl rfl kv_L_282 ko_X10_close (c_X10_close hn hS2.2.1 (xs (i + 1)) (xs (i + 2))) rfl rfl rfl rfl rfl hc (by decide) dL_law_2215 dL_law_2218 dL_law_2219 dL_law_2222 dL_law_2224 dL_law_2229 ?_
  intro M2 hr
  exact kk _ _ _ _ _ (lw_fin hB rfl hc h0 h1 (fun i a => kr_w i (by omega)) (fun q => rel_st hB (kc_1 (by decide)) kr_w (hv q)) hr) hn (show ce + 4 ≤ ce + 100 by omega) (show sl + 24 ≤ sl + 2000 by omega)
theorem lw_c33 {b L : Nat} {xs : Nat → Int32} {i : Nat} {G : AG} {M : Nat → Nat → Int32} {n ce sl : Nat} (hL : L ≤ 3072) (hi : i + 6 ≤ L) (hR : Rel G M M n) (hn : 72 ≤ n) (hce : ce ≤ 400000) (hsl : sl ≤ 6000000) (kk : LK b L xs i ce sl) : AW TL QL (CL b L xs) 2232 (LO i none none) [] (wld G M) n ce sl := by
  obtain ⟨nc, ns, nz, nb, nr, t, hS, hI⟩ := hR.1
  refine aw_aload_n (T := TL) dL_law_2232 rfl ?_
  refine lw_arg (j := 1) hL hi rfl rfl rfl rfl dL_law_2233 dL_law_2234 dL_law_2236 dL_law_2237 dL_law_2238 ?_
  refine aw_aload_n (T := TL) dL_law_2239 rfl ?_
  refine lw_help hn kl_L_283 kt_L_283 kow_L_open (c_L_open hn hS.1 (xs (i + 1))) dL_law_2240 dL_law_2243 rfl rfl ⟨by decide, by decide, show ce + 2 ≤ 601024 by omega, show sl + 12 ≤ 7293034 by omega⟩ ?_
  intro w M' w0 h0 h1
  have hq := lw_hq h0 h1 (fun i a c => (kc_1 (by decide)) i (Or.inr (by omega)))
  have hB := rel_B2 hR hq
  have hS2 : Same M M' nc ns nz nb nr t := same_cg hS (fun _ _ _ => rfl) (hq 64 (by decide) (by decide))
  obtain ⟨hc, hv⟩ := u_open hS2 hI (xs (i + 1))
  refine aw_aload_n (T := TL) dL_law_2245 rfl ?_
  refine lw_arg (j := 1) hL hi rfl rfl rfl rfl dL_law_2246 dL_law_2247 dL_law_2249 dL_law_2250 dL_law_2251 ?_
  refine lw_ref hn (show ce + 2 ≤ 500000 by omega) (show sl + 12 ≤ 7000000 by omega) rfl rfl kv_L_285 ko_X10_open (c_X10_open hn hS2.2.1 (xs (i + 1))) rfl rfl rfl rfl rfl hc (by unfold cd_open; (repeat' split) <;> decide) (fun q => (w0 (hc.trans q)).trans (congrArg Int32.toInt64 (hv q).1)) (by decide) (by decide) dL_law_2252 dL_law_2255 dL_law_2257 dL_law_2258 dL_law_2261 dL_law_2263 dL_law_2268 dL_law_2270 dL_law_2273 dL_law_2274 dL_law_2275 dL_law_2276 dL_law_2278 dL_law_2279 dL_law_2280 dL_law_2285 ?_
  intro M2 hr
  exact kk _ _ _ _ _ (lw_fin hB rfl hc h0 h1 (fun i a => kr_w i (by omega)) (fun q => rel_st hB (kc_1 (by decide)) kr_w (hv q).2) hr) hn (show ce + 2 ≤ ce + 100 by omega) (show sl + 12 ≤ sl + 2000 by omega)
theorem lw_c34 {b L : Nat} {xs : Nat → Int32} {i : Nat} {G : AG} {M : Nat → Nat → Int32} {n ce sl : Nat} (hL : L ≤ 3072) (hi : i + 6 ≤ L) (hR : Rel G M M n) (hn : 72 ≤ n) (hce : ce ≤ 400000) (hsl : sl ≤ 6000000) (kk : LK b L xs i ce sl) : AW TL QL (CL b L xs) 2288 (LO i none none) [] (wld G M) n ce sl := by
  obtain ⟨nc, ns, nz, nb, nr, t, hS, hI⟩ := hR.1
  refine aw_aload_n (T := TL) dL_law_2288 rfl ?_
  refine lw_arg (j := 1) hL hi rfl rfl rfl rfl dL_law_2289 dL_law_2290 dL_law_2292 dL_law_2293 dL_law_2294 ?_
  refine lw_arg (j := 2) hL hi rfl rfl rfl rfl dL_law_2295 dL_law_2296 dL_law_2298 dL_law_2299 dL_law_2300 ?_
  refine lw_arg (j := 3) hL hi rfl rfl rfl rfl dL_law_2301 dL_law_2302 dL_law_2304 dL_law_2305 dL_law_2306 ?_
  refine aw_aload_n (T := TL) dL_law_2307 rfl ?_
  refine lw_help hn kl_L_286 kt_L_286 kow_L_request (c_L_request hn hS.1 (xs (i + 1)) (xs (i + 2)) (xs (i + 3))) dL_law_2308 dL_law_2311 rfl rfl ⟨by decide, by decide, show ce + 4 ≤ 601024 by omega, show sl + 24 ≤ 7293034 by omega⟩ ?_
  intro w M' w0 h0 h1
  have hq := lw_hq h0 h1 (fun i a c => kc_request i (Or.inr (by omega)))
  have hB := rel_B2 hR hq
  have hS2 : Same M M' nc ns nz nb nr t := same_cg hS (fun _ _ _ => rfl) (hq 64 (by decide) (by decide))
  obtain ⟨hc, hv⟩ := u_request hS2 hI (xs (i + 1)) (xs (i + 2)) (xs (i + 3))
  refine aw_aload_n (T := TL) dL_law_2313 rfl ?_
  refine lw_arg (j := 1) hL hi rfl rfl rfl rfl dL_law_2314 dL_law_2315 dL_law_2317 dL_law_2318 dL_law_2319 ?_
  refine lw_arg (j := 2) hL hi rfl rfl rfl rfl dL_law_2320 dL_law_2321 dL_law_2323 dL_law_2324 dL_law_2325 ?_
  refine lw_arg (j := 3) hL hi rfl rfl rfl rfl dL_law_2326 dL_law_2327 dL_law_2329 dL_law_2330 dL_law_2331 ?_
  refine lw_ref hn (show ce + 4 ≤ 500000 by omega) (show sl + 24 ≤ 7000000 by omega) rfl rfl kv_L_288 ko_X10_request (c_X10_request hn hS2.2.1 (xs (i + 1)) (xs (i + 2)) (xs (i + 3))) rfl rfl rfl rfl rfl hc (by unfold cd_request; (repeat' split) <;> decide) (fun q => (w0 (hc.trans q)).trans (rfl)) (by decide) (by decide) dL_law_2332 dL_law_2335 dL_law_2337 dL_law_2338 dL_law_2341 dL_law_2343 dL_law_2348 dL_law_2350 dL_law_2353 dL_law_2354 dL_law_2355 dL_law_2356 dL_law_2358 dL_law_2359 dL_law_2360 dL_law_2365 ?_
  intro M2 hr
  exact kk _ _ _ _ _ (lw_fin hB rfl hc h0 h1 (fun i a => kr_request i (by omega)) (fun q => rel_st hB kc_request kr_request (hv q)) hr) hn (show ce + 4 ≤ ce + 100 by omega) (show sl + 24 ≤ sl + 2000 by omega)
theorem lw_c35 {b L : Nat} {xs : Nat → Int32} {i : Nat} {G : AG} {M : Nat → Nat → Int32} {n ce sl : Nat} (hL : L ≤ 3072) (hi : i + 6 ≤ L) (hR : Rel G M M n) (hn : 72 ≤ n) (hce : ce ≤ 400000) (hsl : sl ≤ 6000000) (kk : LK b L xs i ce sl) : AW TL QL (CL b L xs) 2368 (LO i none none) [] (wld G M) n ce sl := by
  obtain ⟨nc, ns, nz, nb, nr, t, hS, hI⟩ := hR.1
  refine aw_aload_n (T := TL) dL_law_2368 rfl ?_
  refine lw_arg (j := 1) hL hi rfl rfl rfl rfl dL_law_2369 dL_law_2370 dL_law_2372 dL_law_2373 dL_law_2374 ?_
  refine aw_aload_n (T := TL) dL_law_2375 rfl ?_
  refine lw_help hn kl_L_289 kt_L_289 kow_L_requestState (c_L_requestState hn hS.1 (xs (i + 1))) dL_law_2376 dL_law_2379 rfl rfl ⟨by decide, by decide, show ce + 1 ≤ 601024 by omega, show sl + 6 ≤ 7293034 by omega⟩ ?_
  intro w M' w0 h0 h1
  have hq := lw_hq h0 h1 (fun _ _ _ => rfl)
  have hB := rel_B2 hR hq
  have hS2 : Same M M' nc ns nz nb nr t := same_cg hS (fun _ _ _ => rfl) (hq 64 (by decide) (by decide))
  obtain ⟨hc, hv⟩ := q_requestState hS2 (xs (i + 1))
  refine aw_aload_n (T := TL) dL_law_2381 rfl ?_
  refine lw_arg (j := 1) hL hi rfl rfl rfl rfl dL_law_2382 dL_law_2383 dL_law_2385 dL_law_2386 dL_law_2387 ?_
  refine lw_ref hn (show ce + 1 ≤ 500000 by omega) (show sl + 6 ≤ 7000000 by omega) rfl rfl kv_L_291 ko_X10_requestState (c_X10_requestState hn hS2.2.1 (xs (i + 1))) rfl rfl rfl rfl rfl hc (by unfold cd_requestState; (repeat' split) <;> decide) (fun q => (w0 (hc.trans q)).trans (congrArg Int32.toInt64 (hv q))) (by decide) (by decide) dL_law_2388 dL_law_2391 dL_law_2393 dL_law_2394 dL_law_2397 dL_law_2399 dL_law_2404 dL_law_2406 dL_law_2409 dL_law_2410 dL_law_2411 dL_law_2412 dL_law_2414 dL_law_2415 dL_law_2416 dL_law_2421 ?_
  intro M2 hr
  exact kk _ _ _ _ _ (lw_fin hB rfl hc h0 h1 (fun _ _ => rfl) (fun q => hB) hr) hn (show ce + 1 ≤ ce + 100 by omega) (show sl + 6 ≤ sl + 2000 by omega)
theorem lw_c36 {b L : Nat} {xs : Nat → Int32} {i : Nat} {G : AG} {M : Nat → Nat → Int32} {n ce sl : Nat} (hL : L ≤ 3072) (hi : i + 6 ≤ L) (hR : Rel G M M n) (hn : 72 ≤ n) (hce : ce ≤ 400000) (hsl : sl ≤ 6000000) (kk : LK b L xs i ce sl) : AW TL QL (CL b L xs) 2424 (LO i none none) [] (wld G M) n ce sl := by
  obtain ⟨nc, ns, nz, nb, nr, t, hS, hI⟩ := hR.1
  refine aw_aload_n (T := TL) dL_law_2424 rfl ?_
  refine lw_arg (j := 1) hL hi rfl rfl rfl rfl dL_law_2425 dL_law_2426 dL_law_2428 dL_law_2429 dL_law_2430 ?_
  refine aw_aload_n (T := TL) dL_law_2431 rfl ?_
  refine lw_help hn kl_L_292 kt_L_292 kow_L_bookingOf (c_L_bookingOf hn hS.1 (xs (i + 1))) dL_law_2432 dL_law_2435 rfl rfl ⟨by decide, by decide, show ce + 1 ≤ 601024 by omega, show sl + 6 ≤ 7293034 by omega⟩ ?_
  intro w M' w0 h0 h1
  have hq := lw_hq h0 h1 (fun _ _ _ => rfl)
  have hB := rel_B2 hR hq
  have hS2 : Same M M' nc ns nz nb nr t := same_cg hS (fun _ _ _ => rfl) (hq 64 (by decide) (by decide))
  obtain ⟨hc, hv⟩ := q_bookingOf hS2 (xs (i + 1))
  refine aw_aload_n (T := TL) dL_law_2437 rfl ?_
  refine lw_arg (j := 1) hL hi rfl rfl rfl rfl dL_law_2438 dL_law_2439 dL_law_2441 dL_law_2442 dL_law_2443 ?_
  refine lw_ref hn (show ce + 1 ≤ 500000 by omega) (show sl + 6 ≤ 7000000 by omega) rfl rfl kv_L_294 ko_X10_bookingOf (c_X10_bookingOf hn hS2.2.1 (xs (i + 1))) rfl rfl rfl rfl rfl hc (by unfold cd_bookingOf; (repeat' split) <;> decide) (fun q => (w0 (hc.trans q)).trans (congrArg Int32.toInt64 (hv q))) (by decide) (by decide) dL_law_2444 dL_law_2447 dL_law_2449 dL_law_2450 dL_law_2453 dL_law_2455 dL_law_2460 dL_law_2462 dL_law_2465 dL_law_2466 dL_law_2467 dL_law_2468 dL_law_2470 dL_law_2471 dL_law_2472 dL_law_2477 ?_
  intro M2 hr
  exact kk _ _ _ _ _ (lw_fin hB rfl hc h0 h1 (fun _ _ => rfl) (fun q => hB) hr) hn (show ce + 1 ≤ ce + 100 by omega) (show sl + 6 ≤ sl + 2000 by omega)
theorem lw_c37 {b L : Nat} {xs : Nat → Int32} {i : Nat} {G : AG} {M : Nat → Nat → Int32} {n ce sl : Nat} (hL : L ≤ 3072) (hi : i + 6 ≤ L) (hR : Rel G M M n) (hn : 72 ≤ n) (hce : ce ≤ 400000) (hsl : sl ≤ 6000000) (kk : LK b L xs i ce sl) : AW TL QL (CL b L xs) 2480 (LO i none none) [] (wld G M) n ce sl := by
  obtain ⟨nc, ns, nz, nb, nr, t, hS, hI⟩ := hR.1
  refine aw_aload_n (T := TL) dL_law_2480 rfl ?_
  refine lw_arg (j := 1) hL hi rfl rfl rfl rfl dL_law_2481 dL_law_2482 dL_law_2484 dL_law_2485 dL_law_2486 ?_
  refine lw_helpv hn kl_L_295 kt_L_295 kow_L_withdraw (c_L_withdraw hn hS.1 (xs (i + 1))) dL_law_2487 dL_law_2490 rfl rfl ⟨by decide, by decide, show ce + 2 ≤ 601024 by omega, show sl + 12 ≤ 7293034 by omega⟩ ?_
  intro M' h0 h1
  have hq := lw_hq h0 h1 (fun i a c => (kc_1 (by decide)) i (Or.inr (by omega)))
  have hB := rel_B2 hR hq
  have hS2 : Same M M' nc ns nz nb nr t := same_cg hS (fun _ _ _ => rfl) (hq 64 (by decide) (by decide))
  obtain ⟨hc, hv⟩ := u_withdraw hS2 hI (xs (i + 1))
  refine aw_aload_n (T := TL) dL_law_2492 rfl ?_
  refine lw_arg (j := 1) hL hi rfl rfl rfl rfl dL_law_2493 dL_law_2494 dL_law_2496 dL_law_2497 dL_law_2498 ?_
  refine lw_refv hn (show ce + 2 ≤ 500000 by omega) (show sl + 12 ≤ 7000000 by omega) rfl rfl kv_L_298 ko_X10_withdraw (c_X10_withdraw hn hS2.2.1 (xs (i + 1))) rfl rfl rfl rfl rfl hc (by decide) dL_law_2499 dL_law_2502 dL_law_2503 dL_law_2506 dL_law_2508 dL_law_2513 ?_
  intro M2 hr
  exact kk _ _ _ _ _ (lw_fin hB rfl hc h0 h1 (fun i a => kr_w i (by omega)) (fun q => rel_st hB (kc_1 (by decide)) kr_w (hv q)) hr) hn (show ce + 2 ≤ ce + 100 by omega) (show sl + 12 ≤ sl + 2000 by omega)
theorem lw_c38 {b L : Nat} {xs : Nat → Int32} {i : Nat} {G : AG} {M : Nat → Nat → Int32} {n ce sl : Nat} (hL : L ≤ 3072) (hi : i + 6 ≤ L) (hR : Rel G M M n) (hn : 72 ≤ n) (hce : ce ≤ 400000) (hsl : sl ≤ 6000000) (kk : LK b L xs i ce sl) : AW TL QL (CL b L xs) 2516 (LO i none none) [] (wld G M) n ce sl := by
  obtain ⟨nc, ns, nz, nb, nr, t, hS, hI⟩ := hR.1
  refine aw_aload_n (T := TL) dL_law_2516 rfl ?_
  refine lw_arg (j := 1) hL hi rfl rfl rfl rfl dL_law_2517 dL_law_2518 dL_law_2520 dL_law_2521 dL_law_2522 ?_
  refine aw_aload_n (T := TL) dL_law_2523 rfl ?_
  refine lw_help hn kl_L_299 kt_L_299 kow_L_fill (c_L_fill hn hS.1 (s_rqi hI) (xs (i + 1))) dL_law_2524 dL_law_2527 rfl rfl ⟨by decide, by decide, show ce + 1 ≤ 601024 by omega, show sl + 6 ≤ 7293034 by omega⟩ ?_
  intro w M' w0 h0 h1
  have hq := lw_hq h0 h1 (fun i a c => (kc_flM 20) i (Or.inr (by omega)))
  have hB := rel_B2 hR hq
  have hS2 : Same M M' nc ns nz nb nr t := same_cg hS (fun _ _ _ => rfl) (hq 64 (by decide) (by decide))
  obtain ⟨hc, hv0⟩ := u_fill hS2 hI (xs (i + 1))
  obtain ⟨r, hv, hkr⟩ : ∃ r : Nat × (Nat → Nat → Int32), (cr_fill M' (xs (i + 1)) = 0 → flR (xs (i + 1)) 21 M' = some r ∧ (flM (xs (i + 1)) 20 M).1 = r.1 ∧ St (flM (xs (i + 1)) 20 M).2 r.2) ∧ ∀ i, i ≠ 64 → r.2 i = M' i := by
    by_cases q : cr_fill M' (xs (i + 1)) = 0
    · obtain ⟨r, a1, a2, a3⟩ := hv0 q
      exact ⟨r, fun _ => ⟨a1, a2, a3⟩, kr_fl 21 a1⟩
    · exact ⟨(0, M'), fun p => absurd p q, fun _ _ => rfl⟩
  refine aw_aload_n (T := TL) dL_law_2529 rfl ?_
  refine lw_arg (j := 1) hL hi rfl rfl rfl rfl dL_law_2530 dL_law_2531 dL_law_2533 dL_law_2534 dL_law_2535 ?_
  refine lw_ref hn (show ce + 1 ≤ 500000 by omega) (show sl + 6 ≤ 7000000 by omega) rfl rfl kv_L_301 ko_X10_fill (c_X10_fill hn hS2.2.1 (s_rqv hS2 hI) (xs (i + 1)) (fun q => (hv q).1)) rfl rfl rfl rfl rfl hc (by unfold cd_fill; (repeat' split) <;> decide) (fun q => (w0 (hc.trans q)).trans (congrArg (fun z => (nI z).toInt64) (hv q).2.1)) (by decide) (by decide) dL_law_2536 dL_law_2539 dL_law_2541 dL_law_2542 dL_law_2545 dL_law_2547 dL_law_2552 dL_law_2554 dL_law_2557 dL_law_2558 dL_law_2559 dL_law_2560 dL_law_2562 dL_law_2563 dL_law_2564 dL_law_2569 ?_
  intro M2 hr
  exact kk _ _ _ _ _ (lw_fin hB rfl hc h0 h1 (fun i a => hkr i (by omega)) (fun q => rel_st hB (kc_flM 20) hkr (hv q).2.2) hr) hn (show ce + 1 ≤ ce + 100 by omega) (show sl + 6 ≤ sl + 2000 by omega)
theorem lw_c39 {b L : Nat} {xs : Nat → Int32} {i : Nat} {G : AG} {M : Nat → Nat → Int32} {n ce sl : Nat} (hL : L ≤ 3072) (hi : i + 6 ≤ L) (hR : Rel G M M n) (hn : 72 ≤ n) (hce : ce ≤ 400000) (hsl : sl ≤ 6000000) (kk : LK b L xs i ce sl) : AW TL QL (CL b L xs) 2572 (LO i none none) [] (wld G M) n ce sl := by
  obtain ⟨nc, ns, nz, nb, nr, t, hS, hI⟩ := hR.1
  refine aw_aload_n (T := TL) dL_law_2572 rfl ?_
  refine lw_arg (j := 1) hL hi rfl rfl rfl rfl dL_law_2573 dL_law_2574 dL_law_2576 dL_law_2577 dL_law_2578 ?_
  refine lw_arg (j := 2) hL hi rfl rfl rfl rfl dL_law_2579 dL_law_2580 dL_law_2582 dL_law_2583 dL_law_2584 ?_
  refine aw_aload_n (T := TL) dL_law_2585 rfl ?_
  refine lw_help hn kl_L_302 kt_L_302 kow_L_planSite (c_L_planSite hn hS.1 (xs (i + 1)) (xs (i + 2))) dL_law_2586 dL_law_2589 rfl rfl ⟨by decide, by decide, show ce + 3 ≤ 601024 by omega, show sl + 18 ≤ 7293034 by omega⟩ ?_
  intro w M' w0 h0 h1
  have hq := lw_hq h0 h1 (fun _ _ _ => rfl)
  have hB := rel_B2 hR hq
  have hS2 : Same M M' nc ns nz nb nr t := same_cg hS (fun _ _ _ => rfl) (hq 64 (by decide) (by decide))
  obtain ⟨S, hS3, hS4⟩ := plans hS2 hI (xs (i + 2))
  obtain ⟨hc, hv⟩ := q_planSite hS2 hS4 (xs (i + 1))
  refine aw_aload_n (T := TL) dL_law_2591 rfl ?_
  refine lw_arg (j := 1) hL hi rfl rfl rfl rfl dL_law_2592 dL_law_2593 dL_law_2595 dL_law_2596 dL_law_2597 ?_
  refine lw_arg (j := 2) hL hi rfl rfl rfl rfl dL_law_2598 dL_law_2599 dL_law_2601 dL_law_2602 dL_law_2603 ?_
  refine lw_ref hn (show ce + 3 ≤ 500000 by omega) (show sl + 18 ≤ 7000000 by omega) rfl rfl kv_L_304 ko_X10_planSite (c_X10_planSite hn hS2.2.1 (s_st hS2 hI) (xs (i + 1)) (xs (i + 2)) hS3) rfl rfl rfl rfl rfl hc (by unfold cd_planSite; (repeat' split) <;> decide) (fun q => (w0 (hc.trans q)).trans (congrArg Int32.toInt64 (hv q))) (by decide) (by decide) dL_law_2604 dL_law_2607 dL_law_2609 dL_law_2610 dL_law_2613 dL_law_2615 dL_law_2620 dL_law_2622 dL_law_2625 dL_law_2626 dL_law_2627 dL_law_2628 dL_law_2630 dL_law_2631 dL_law_2632 dL_law_2637 ?_
  intro M2 hr
  exact kk _ _ _ _ _ (lw_fin hB rfl hc h0 h1 (fun _ _ => rfl) (fun q => hB) hr) hn (show ce + 3 ≤ ce + 100 by omega) (show sl + 18 ≤ sl + 2000 by omega)
theorem lw_c40 {b L : Nat} {xs : Nat → Int32} {i : Nat} {G : AG} {M : Nat → Nat → Int32} {n ce sl : Nat} (hL : L ≤ 3072) (hi : i + 6 ≤ L) (hR : Rel G M M n) (hn : 72 ≤ n) (hce : ce ≤ 400000) (hsl : sl ≤ 6000000) (kk : LK b L xs i ce sl) : AW TL QL (CL b L xs) 2640 (LO i none none) [] (wld G M) n ce sl := by
  obtain ⟨nc, ns, nz, nb, nr, t, hS, hI⟩ := hR.1
  refine aw_aload_n (T := TL) dL_law_2640 rfl ?_
  refine lw_arg (j := 1) hL hi rfl rfl rfl rfl dL_law_2641 dL_law_2642 dL_law_2644 dL_law_2645 dL_law_2646 ?_
  refine lw_arg (j := 2) hL hi rfl rfl rfl rfl dL_law_2647 dL_law_2648 dL_law_2650 dL_law_2651 dL_law_2652 ?_
  refine aw_aload_n (T := TL) dL_law_2653 rfl ?_
  refine lw_help hn kl_L_305 kt_L_305 kow_L_gapNights (c_L_gapNights hn hS.1 (xs (i + 1)) (xs (i + 2))) dL_law_2654 dL_law_2657 rfl rfl ⟨by decide, by decide, show ce + 2 ≤ 601024 by omega, show sl + 12 ≤ 7293034 by omega⟩ ?_
  intro w M' w0 h0 h1
  have hq := lw_hq h0 h1 (fun _ _ _ => rfl)
  have hB := rel_B2 hR hq
  have hS2 : Same M M' nc ns nz nb nr t := same_cg hS (fun _ _ _ => rfl) (hq 64 (by decide) (by decide))
  obtain ⟨S, hS3, hS4⟩ := plans hS2 hI (xs (i + 2))
  obtain ⟨hc, hv⟩ := q_gapNights hS2 hS4 (xs (i + 1))
  refine aw_aload_n (T := TL) dL_law_2659 rfl ?_
  refine lw_arg (j := 1) hL hi rfl rfl rfl rfl dL_law_2660 dL_law_2661 dL_law_2663 dL_law_2664 dL_law_2665 ?_
  refine lw_arg (j := 2) hL hi rfl rfl rfl rfl dL_law_2666 dL_law_2667 dL_law_2669 dL_law_2670 dL_law_2671 ?_
  refine lw_ref hn (show ce + 2 ≤ 500000 by omega) (show sl + 12 ≤ 7000000 by omega) rfl rfl kv_L_307 ko_X10_gapNights (c_X10_gapNights hn hS2.2.1 (s_st hS2 hI) (xs (i + 1)) (xs (i + 2)) hS3) rfl rfl rfl rfl rfl hc (by unfold cd_gapNights; (repeat' split) <;> decide) (fun q => (w0 (hc.trans q)).trans (congrArg Int32.toInt64 hv)) (by decide) (by decide) dL_law_2672 dL_law_2675 dL_law_2677 dL_law_2678 dL_law_2681 dL_law_2683 dL_law_2688 dL_law_2690 dL_law_2693 dL_law_2694 dL_law_2695 dL_law_2696 dL_law_2698 dL_law_2699 dL_law_2700 dL_law_2705 ?_
  intro M2 hr
  exact kk _ _ _ _ _ (lw_fin hB rfl hc h0 h1 (fun _ _ => rfl) (fun q => hB) hr) hn (show ce + 2 ≤ ce + 100 by omega) (show sl + 12 ≤ sl + 2000 by omega)
theorem lw_c41 {b L : Nat} {xs : Nat → Int32} {i : Nat} {G : AG} {M : Nat → Nat → Int32} {n ce sl : Nat} (hL : L ≤ 3072) (hi : i + 6 ≤ L) (hR : Rel G M M n) (hn : 72 ≤ n) (hce : ce ≤ 400000) (hsl : sl ≤ 6000000) (kk : LK b L xs i ce sl) : AW TL QL (CL b L xs) 2708 (LO i none none) [] (wld G M) n ce sl := by
  obtain ⟨nc, ns, nz, nb, nr, t, hS, hI⟩ := hR.1
  refine aw_aload_n (T := TL) dL_law_2708 rfl ?_
  refine lw_arg (j := 1) hL hi rfl rfl rfl rfl dL_law_2709 dL_law_2710 dL_law_2712 dL_law_2713 dL_law_2714 ?_
  refine lw_arg (j := 2) hL hi rfl rfl rfl rfl dL_law_2715 dL_law_2716 dL_law_2718 dL_law_2719 dL_law_2720 ?_
  refine aw_aload_n (T := TL) dL_law_2721 rfl ?_
  refine lw_help hn kl_L_308 kt_L_308 kow_L_orphanNights (c_L_orphanNights hn hS.1 (xs (i + 1)) (xs (i + 2))) dL_law_2722 dL_law_2725 rfl rfl ⟨by decide, by decide, show ce + 2 ≤ 601024 by omega, show sl + 12 ≤ 7293034 by omega⟩ ?_
  intro w M' w0 h0 h1
  have hq := lw_hq h0 h1 (fun _ _ _ => rfl)
  have hB := rel_B2 hR hq
  have hS2 : Same M M' nc ns nz nb nr t := same_cg hS (fun _ _ _ => rfl) (hq 64 (by decide) (by decide))
  obtain ⟨S, hS3, hS4⟩ := plans hS2 hI (xs (i + 2))
  obtain ⟨hc, hv⟩ := q_orphanNights hS2 hS4 (xs (i + 1))
  refine aw_aload_n (T := TL) dL_law_2727 rfl ?_
  refine lw_arg (j := 1) hL hi rfl rfl rfl rfl dL_law_2728 dL_law_2729 dL_law_2731 dL_law_2732 dL_law_2733 ?_
  refine lw_arg (j := 2) hL hi rfl rfl rfl rfl dL_law_2734 dL_law_2735 dL_law_2737 dL_law_2738 dL_law_2739 ?_
  refine lw_ref hn (show ce + 2 ≤ 500000 by omega) (show sl + 12 ≤ 7000000 by omega) rfl rfl kv_L_310 ko_X10_orphanNights (c_X10_orphanNights hn hS2.2.1 (s_st hS2 hI) (xs (i + 1)) (xs (i + 2)) hS3) rfl rfl rfl rfl rfl hc (by unfold cd_orphanNights; (repeat' split) <;> decide) (fun q => (w0 (hc.trans q)).trans (congrArg Int32.toInt64 hv)) (by decide) (by decide) dL_law_2740 dL_law_2743 dL_law_2745 dL_law_2746 dL_law_2749 dL_law_2751 dL_law_2756 dL_law_2758 dL_law_2761 dL_law_2762 dL_law_2763 dL_law_2764 dL_law_2766 dL_law_2767 dL_law_2768 dL_law_2773 ?_
  intro M2 hr
  exact kk _ _ _ _ _ (lw_fin hB rfl hc h0 h1 (fun _ _ => rfl) (fun q => hB) hr) hn (show ce + 2 ≤ ce + 100 by omega) (show sl + 12 ≤ sl + 2000 by omega)
theorem lw_c42 {b L : Nat} {xs : Nat → Int32} {i : Nat} {G : AG} {M : Nat → Nat → Int32} {n ce sl : Nat} (hL : L ≤ 3072) (hi : i + 6 ≤ L) (hR : Rel G M M n) (hn : 72 ≤ n) (hce : ce ≤ 400000) (hsl : sl ≤ 6000000) (kk : LK b L xs i ce sl) : AW TL QL (CL b L xs) 2776 (LO i none none) [] (wld G M) n ce sl := by
  obtain ⟨nc, ns, nz, nb, nr, t, hS, hI⟩ := hR.1
  refine aw_aload_n (T := TL) dL_law_2776 rfl ?_
  refine lw_arg (j := 1) hL hi rfl rfl rfl rfl dL_law_2777 dL_law_2778 dL_law_2780 dL_law_2781 dL_law_2782 ?_
  refine lw_arg (j := 2) hL hi rfl rfl rfl rfl dL_law_2783 dL_law_2784 dL_law_2786 dL_law_2787 dL_law_2788 ?_
  refine lw_arg (j := 3) hL hi rfl rfl rfl rfl dL_law_2789 dL_law_2790 dL_law_2792 dL_law_2793 dL_law_2794 ?_
  refine aw_aload_n (T := TL) dL_law_2795 rfl ?_
  refine lw_help hn kl_L_311 kt_L_311 kow_L_occupancyNumerator (c_L_occupancyNumerator hn hS.1 (xs (i + 1)) (xs (i + 2)) (xs (i + 3))) dL_law_2796 dL_law_2799 rfl rfl ⟨by decide, by decide, show ce + 3 ≤ 601024 by omega, show sl + 18 ≤ 7293034 by omega⟩ ?_
  intro w M' w0 h0 h1
  have hq := lw_hq h0 h1 (fun _ _ _ => rfl)
  have hB := rel_B2 hR hq
  have hS2 : Same M M' nc ns nz nb nr t := same_cg hS (fun _ _ _ => rfl) (hq 64 (by decide) (by decide))
  obtain ⟨D, hD⟩ := q_occ hS2 (xs (i + 1)) (xs (i + 2)) (xs (i + 3)) 1
  have hc := s_occ hS2 (xs (i + 1)) (xs (i + 2)) (xs (i + 3)) 1
  refine aw_aload_n (T := TL) dL_law_2801 rfl ?_
  refine lw_arg (j := 1) hL hi rfl rfl rfl rfl dL_law_2802 dL_law_2803 dL_law_2805 dL_law_2806 dL_law_2807 ?_
  refine lw_arg (j := 2) hL hi rfl rfl rfl rfl dL_law_2808 dL_law_2809 dL_law_2811 dL_law_2812 dL_law_2813 ?_
  refine lw_arg (j := 3) hL hi rfl rfl rfl rfl dL_law_2814 dL_law_2815 dL_law_2817 dL_law_2818 dL_law_2819 ?_
  refine lw_ref hn (show ce + 3 ≤ 500000 by omega) (show sl + 18 ≤ 7000000 by omega) rfl rfl kv_L_313 ko_X10_occupancyNumerator (c_X10_occupancyNumerator hn hS2.2.1 (xs (i + 1)) (xs (i + 2)) (xs (i + 3)) hD) rfl rfl rfl rfl rfl hc (by unfold cd_occupancyNumerator; (repeat' split) <;> decide) (fun q => (w0 (hc.trans q)).trans (congrArg Int32.toInt64 (q_occN hS2 (xs (i + 1)) (xs (i + 2)) (xs (i + 3)) q (hD q)))) (by decide) (by decide) dL_law_2820 dL_law_2823 dL_law_2825 dL_law_2826 dL_law_2829 dL_law_2831 dL_law_2836 dL_law_2838 dL_law_2841 dL_law_2842 dL_law_2843 dL_law_2844 dL_law_2846 dL_law_2847 dL_law_2848 dL_law_2853 ?_
  intro M2 hr
  exact kk _ _ _ _ _ (lw_fin hB rfl hc h0 h1 (fun _ _ => rfl) (fun q => hB) hr) hn (show ce + 3 ≤ ce + 100 by omega) (show sl + 18 ≤ sl + 2000 by omega)
theorem lw_c43 {b L : Nat} {xs : Nat → Int32} {i : Nat} {G : AG} {M : Nat → Nat → Int32} {n ce sl : Nat} (hL : L ≤ 3072) (hi : i + 6 ≤ L) (hR : Rel G M M n) (hn : 72 ≤ n) (hce : ce ≤ 400000) (hsl : sl ≤ 6000000) (kk : LK b L xs i ce sl) : AW TL QL (CL b L xs) 2856 (LO i none none) [] (wld G M) n ce sl := by
  obtain ⟨nc, ns, nz, nb, nr, t, hS, hI⟩ := hR.1
  refine aw_aload_n (T := TL) dL_law_2856 rfl ?_
  refine lw_arg (j := 1) hL hi rfl rfl rfl rfl dL_law_2857 dL_law_2858 dL_law_2860 dL_law_2861 dL_law_2862 ?_
  refine lw_arg (j := 2) hL hi rfl rfl rfl rfl dL_law_2863 dL_law_2864 dL_law_2866 dL_law_2867 dL_law_2868 ?_
  refine lw_arg (j := 3) hL hi rfl rfl rfl rfl dL_law_2869 dL_law_2870 dL_law_2872 dL_law_2873 dL_law_2874 ?_
  refine aw_aload_n (T := TL) dL_law_2875 rfl ?_
  refine lw_help hn kl_L_314 kt_L_314 kow_L_occupancyDenominator (c_L_occupancyDenominator hn hS.1 (xs (i + 1)) (xs (i + 2)) (xs (i + 3))) dL_law_2876 dL_law_2879 rfl rfl ⟨by decide, by decide, show ce + 3 ≤ 601024 by omega, show sl + 18 ≤ 7293034 by omega⟩ ?_
  intro w M' w0 h0 h1
  have hq := lw_hq h0 h1 (fun _ _ _ => rfl)
  have hB := rel_B2 hR hq
  have hS2 : Same M M' nc ns nz nb nr t := same_cg hS (fun _ _ _ => rfl) (hq 64 (by decide) (by decide))
  obtain ⟨D, hD⟩ := q_occ hS2 (xs (i + 1)) (xs (i + 2)) (xs (i + 3)) 0
  have hc := s_occ hS2 (xs (i + 1)) (xs (i + 2)) (xs (i + 3)) 0
  refine aw_aload_n (T := TL) dL_law_2881 rfl ?_
  refine lw_arg (j := 1) hL hi rfl rfl rfl rfl dL_law_2882 dL_law_2883 dL_law_2885 dL_law_2886 dL_law_2887 ?_
  refine lw_arg (j := 2) hL hi rfl rfl rfl rfl dL_law_2888 dL_law_2889 dL_law_2891 dL_law_2892 dL_law_2893 ?_
  refine lw_arg (j := 3) hL hi rfl rfl rfl rfl dL_law_2894 dL_law_2895 dL_law_2897 dL_law_2898 dL_law_2899 ?_
  refine lw_ref hn (show ce + 3 ≤ 500000 by omega) (show sl + 18 ≤ 7000000 by omega) rfl rfl kv_L_316 ko_X10_occupancyDenominator (c_X10_occupancyDenominator hn hS2.2.1 (xs (i + 1)) (xs (i + 2)) (xs (i + 3)) hD) rfl rfl rfl rfl rfl hc (by unfold cd_occupancyDenominator; (repeat' split) <;> decide) (fun q => (w0 (hc.trans q)).trans (congrArg Int32.toInt64 (q_occD hS2 (xs (i + 1)) (xs (i + 2)) (xs (i + 3)) q (hD q)))) (by decide) (by decide) dL_law_2900 dL_law_2903 dL_law_2905 dL_law_2906 dL_law_2909 dL_law_2911 dL_law_2916 dL_law_2918 dL_law_2921 dL_law_2922 dL_law_2923 dL_law_2924 dL_law_2926 dL_law_2927 dL_law_2928 dL_law_2933 ?_
  intro M2 hr
  exact kk _ _ _ _ _ (lw_fin hB rfl hc h0 h1 (fun _ _ => rfl) (fun q => hB) hr) hn (show ce + 3 ≤ ce + 100 by omega) (show sl + 18 ≤ sl + 2000 by omega)
theorem lw_c44 {b L : Nat} {xs : Nat → Int32} {i : Nat} {G : AG} {M : Nat → Nat → Int32} {n ce sl : Nat} (hL : L ≤ 3072) (hi : i + 6 ≤ L) (hR : Rel G M M n) (hn : 72 ≤ n) (hce : ce ≤ 400000) (hsl : sl ≤ 6000000) (kk : LK b L xs i ce sl) : AW TL QL (CL b L xs) 2936 (LO i none none) [] (wld G M) n ce sl := by
  obtain ⟨nc, ns, nz, nb, nr, t, hS, hI⟩ := hR.1
  refine aw_aload_n (T := TL) dL_law_2936 rfl ?_
  refine lw_arg (j := 1) hL hi rfl rfl rfl rfl dL_law_2937 dL_law_2938 dL_law_2940 dL_law_2941 dL_law_2942 ?_
  refine lw_arg (j := 2) hL hi rfl rfl rfl rfl dL_law_2943 dL_law_2944 dL_law_2946 dL_law_2947 dL_law_2948 ?_
  refine lw_arg (j := 3) hL hi rfl rfl rfl rfl dL_law_2949 dL_law_2950 dL_law_2952 dL_law_2953 dL_law_2954 ?_
  refine lw_bool (by decide) (by decide) dL_law_2955 dL_law_2958 dL_law_2959 dL_law_2962 ?_
  refine aw_aload_n (T := TL) dL_law_2963 rfl ?_
  refine lw_help hn kl_L_317 kt_L_317 kow_L_expected (c_L_expected hn hS.1 (xs (i + 1)) (xs (i + 2)) (if xs (i + 3) = 0 then 0 else 1)) dL_law_2964 dL_law_2967 rfl rfl ⟨by decide, by decide, show ce + 2 ≤ 601024 by omega, show sl + 12 ≤ 7293034 by omega⟩ ?_
  intro w M' w0 h0 h1
  have hq := lw_hq h0 h1 (fun _ _ _ => rfl)
  have hB := rel_B2 hR hq
  have hS2 : Same M M' nc ns nz nb nr t := same_cg hS (fun _ _ _ => rfl) (hq 64 (by decide) (by decide))
  obtain ⟨hc, hv⟩ := q_expected hS2 (xs (i + 1)) (xs (i + 2)) (if xs (i + 3) = 0 then 0 else 1)
  refine aw_aload_n (T := TL) dL_law_2969 rfl ?_
  refine lw_arg (j := 1) hL hi rfl rfl rfl rfl dL_law_2970 dL_law_2971 dL_law_2973 dL_law_2974 dL_law_2975 ?_
  refine lw_arg (j := 2) hL hi rfl rfl rfl rfl dL_law_2976 dL_law_2977 dL_law_2979 dL_law_2980 dL_law_2981 ?_
  refine lw_arg (j := 3) hL hi rfl rfl rfl rfl dL_law_2982 dL_law_2983 dL_law_2985 dL_law_2986 dL_law_2987 ?_
  refine lw_bool (by decide) (by decide) dL_law_2988 dL_law_2991 dL_law_2992 dL_law_2995 ?_
  refine lw_ref hn (show ce + 2 ≤ 500000 by omega) (show sl + 12 ≤ 7000000 by omega) rfl rfl kv_L_320 ko_X10_expected (c_X10_expected hn hS2.2.1 (xs (i + 1)) (xs (i + 2)) (if xs (i + 3) = 0 then 0 else 1)) rfl rfl rfl rfl rfl hc (by unfold cd_expected; (repeat' split) <;> decide) (fun q => (w0 (hc.trans q)).trans (congrArg Int32.toInt64 (hv q))) (by decide) (by decide) dL_law_2996 dL_law_2999 dL_law_3001 dL_law_3002 dL_law_3005 dL_law_3007 dL_law_3012 dL_law_3014 dL_law_3017 dL_law_3018 dL_law_3019 dL_law_3020 dL_law_3022 dL_law_3023 dL_law_3024 dL_law_3029 ?_
  intro M2 hr
  exact kk _ _ _ _ _ (lw_fin hB rfl hc h0 h1 (fun _ _ => rfl) (fun q => hB) hr) hn (show ce + 2 ≤ ce + 100 by omega) (show sl + 12 ≤ sl + 2000 by omega)
theorem lw_c45 {b L : Nat} {xs : Nat → Int32} {i : Nat} {G : AG} {M : Nat → Nat → Int32} {n ce sl : Nat} (hL : L ≤ 3072) (hi : i + 6 ≤ L) (hR : Rel G M M n) (hn : 72 ≤ n) (hce : ce ≤ 400000) (hsl : sl ≤ 6000000) (kk : LK b L xs i ce sl) : AW TL QL (CL b L xs) 3032 (LO i none none) [] (wld G M) n ce sl := by
  obtain ⟨nc, ns, nz, nb, nr, t, hS, hI⟩ := hR.1
  refine aw_aload_n (T := TL) dL_law_3032 rfl ?_
  refine lw_arg (j := 1) hL hi rfl rfl rfl rfl dL_law_3033 dL_law_3034 dL_law_3036 dL_law_3037 dL_law_3038 ?_
  refine aw_aload_n (T := TL) dL_law_3039 rfl ?_
  refine lw_help hn kl_L_321 kt_L_321 kow_L_dearestBooking (c_L_dearestBooking hn hS.1 (xs (i + 1))) dL_law_3040 dL_law_3043 rfl rfl ⟨by decide, by decide, show ce + 1 ≤ 601024 by omega, show sl + 6 ≤ 7293034 by omega⟩ ?_
  intro w M' w0 h0 h1
  have hq := lw_hq h0 h1 (fun _ _ _ => rfl)
  have hB := rel_B2 hR hq
  have hS2 : Same M M' nc ns nz nb nr t := same_cg hS (fun _ _ _ => rfl) (hq 64 (by decide) (by decide))
  obtain ⟨hc, hv⟩ := q_dearestBooking hS2 hI (xs (i + 1))
  refine aw_aload_n (T := TL) dL_law_3045 rfl ?_
  refine lw_arg (j := 1) hL hi rfl rfl rfl rfl dL_law_3046 dL_law_3047 dL_law_3049 dL_law_3050 dL_law_3051 ?_
  refine lw_ref hn (show ce + 1 ≤ 500000 by omega) (show sl + 6 ≤ 7000000 by omega) rfl rfl kv_L_323 ko_X10_dearestBooking (c_X10_dearestBooking hn hS2.2.1 (xs (i + 1))) rfl rfl rfl rfl rfl hc (by unfold cd_dearestBooking; (repeat' split) <;> decide) (fun q => (w0 (hc.trans q)).trans (congrArg Int32.toInt64 (hv q))) (by decide) (by decide) dL_law_3052 dL_law_3055 dL_law_3057 dL_law_3058 dL_law_3061 dL_law_3063 dL_law_3068 dL_law_3070 dL_law_3073 dL_law_3074 dL_law_3075 dL_law_3076 dL_law_3078 dL_law_3079 dL_law_3080 dL_law_3085 ?_
  intro M2 hr
  exact kk _ _ _ _ _ (lw_fin hB rfl hc h0 h1 (fun _ _ => rfl) (fun q => hB) hr) hn (show ce + 1 ≤ ce + 100 by omega) (show sl + 6 ≤ sl + 2000 by omega)
theorem lw_c46 {b L : Nat} {xs : Nat → Int32} {i : Nat} {G : AG} {M : Nat → Nat → Int32} {n ce sl : Nat} (hL : L ≤ 3072) (hi : i + 6 ≤ L) (hR : Rel G M M n) (hn : 72 ≤ n) (hce : ce ≤ 400000) (hsl : sl ≤ 6000000) (kk : LK b L xs i ce sl) : AW TL QL (CL b L xs) 3088 (LO i none none) [] (wld G M) n ce sl := by
  obtain ⟨nc, ns, nz, nb, nr, t, hS, hI⟩ := hR.1
  refine aw_aload_n (T := TL) dL_law_3088 rfl ?_
  refine lw_arg (j := 1) hL hi rfl rfl rfl rfl dL_law_3089 dL_law_3090 dL_law_3092 dL_law_3093 dL_law_3094 ?_
  refine lw_arg (j := 2) hL hi rfl rfl rfl rfl dL_law_3095 dL_law_3096 dL_law_3098 dL_law_3099 dL_law_3100 ?_
  refine lw_arg (j := 3) hL hi rfl rfl rfl rfl dL_law_3101 dL_law_3102 dL_law_3104 dL_law_3105 dL_law_3106 ?_
  refine aw_aload_n (T := TL) dL_law_3107 rfl ?_
  refine lw_help hn kl_L_324 kt_L_324 kow_L_busiestNight (c_L_busiestNight hn hS.1 (xs (i + 1)) (xs (i + 2)) (xs (i + 3))) dL_law_3108 dL_law_3111 rfl rfl ⟨by decide, by decide, show ce + 3 ≤ 601024 by omega, show sl + 18 ≤ 7293034 by omega⟩ ?_
  intro w M' w0 h0 h1
  have hq := lw_hq h0 h1 (fun _ _ _ => rfl)
  have hB := rel_B2 hR hq
  have hS2 : Same M M' nc ns nz nb nr t := same_cg hS (fun _ _ _ => rfl) (hq 64 (by decide) (by decide))
  obtain ⟨hc, hv⟩ := q_busiestNight hS2 (xs (i + 1)) (xs (i + 2)) (xs (i + 3))
  refine aw_aload_n (T := TL) dL_law_3113 rfl ?_
  refine lw_arg (j := 1) hL hi rfl rfl rfl rfl dL_law_3114 dL_law_3115 dL_law_3117 dL_law_3118 dL_law_3119 ?_
  refine lw_arg (j := 2) hL hi rfl rfl rfl rfl dL_law_3120 dL_law_3121 dL_law_3123 dL_law_3124 dL_law_3125 ?_
  refine lw_arg (j := 3) hL hi rfl rfl rfl rfl dL_law_3126 dL_law_3127 dL_law_3129 dL_law_3130 dL_law_3131 ?_
  refine lw_ref hn (show ce + 3 ≤ 500000 by omega) (show sl + 18 ≤ 7000000 by omega) rfl rfl kv_L_326 ko_X10_busiestNight (c_X10_busiestNight hn hS2.2.1 (xs (i + 1)) (xs (i + 2)) (xs (i + 3))) rfl rfl rfl rfl rfl hc (by unfold cd_busiestNight; (repeat' split) <;> decide) (fun q => (w0 (hc.trans q)).trans (congrArg Int32.toInt64 (hv q))) (by decide) (by decide) dL_law_3132 dL_law_3135 dL_law_3137 dL_law_3138 dL_law_3141 dL_law_3143 dL_law_3148 dL_law_3150 dL_law_3153 dL_law_3154 dL_law_3155 dL_law_3156 dL_law_3158 dL_law_3159 dL_law_3160 dL_law_3165 ?_
  intro M2 hr
  exact kk _ _ _ _ _ (lw_fin hB rfl hc h0 h1 (fun _ _ => rfl) (fun q => hB) hr) hn (show ce + 3 ≤ ce + 100 by omega) (show sl + 18 ≤ sl + 2000 by omega)
theorem lw_c47 {b L : Nat} {xs : Nat → Int32} {i : Nat} {G : AG} {M : Nat → Nat → Int32} {n ce sl : Nat} (hL : L ≤ 3072) (hi : i + 6 ≤ L) (hR : Rel G M M n) (hn : 72 ≤ n) (hce : ce ≤ 400000) (hsl : sl ≤ 6000000) (kk : LK b L xs i ce sl) : AW TL QL (CL b L xs) 3168 (LO i none none) [] (wld G M) n ce sl := by
  obtain ⟨nc, ns, nz, nb, nr, t, hS, hI⟩ := hR.1
  refine lw_dir hn hce hsl rfl rfl rfl rfl kv_L_327 ko_X9_revenue (c_X9_revenue hn hS.1.2.2.2.2.2.2.1 hS.1.2.2.2.2.2.2.2.1) kv_L_330 ko_X10_revenue (c_X10_revenue hn hS.2.1) rfl rfl rfl rfl rfl rfl (by unfold cr_revenue; rfl) ((q_revenue hS).symm) (by decide) dL_law_3168 dL_law_3169 dL_law_3172 dL_law_3173 dL_law_3176 ?_
  intro M2 hr
  exact kk _ _ _ _ _ (rel_rs hR hr) hn (by omega) (by omega)
theorem lw_c48 {b L : Nat} {xs : Nat → Int32} {i : Nat} {G : AG} {M : Nat → Nat → Int32} {n ce sl : Nat} (hL : L ≤ 3072) (hi : i + 6 ≤ L) (hR : Rel G M M n) (hn : 72 ≤ n) (hce : ce ≤ 400000) (hsl : sl ≤ 6000000) (kk : LK b L xs i ce sl) : AW TL QL (CL b L xs) 3181 (LO i none none) [] (wld G M) n ce sl := by
  obtain ⟨nc, ns, nz, nb, nr, t, hS, hI⟩ := hR.1
  obtain ⟨k, ek, -, hk5, -, -⟩ := u_appendText hR (xs (i + 1))
  refine aw_aload_n (T := TL) dL_law_3181 rfl ?_
  refine lw_arg (j := 1) hL hi rfl rfl rfl rfl dL_law_3182 dL_law_3183 dL_law_3185 dL_law_3186 dL_law_3187 ?_
  refine aw_aload_n (T := TL) dL_law_3188 rfl ?_
  refine lw_help hn kl_L_331 kt_L_331 kow_L_appendText (c_L_appendText hn ek hk5 (xs (i + 1))) dL_law_3189 dL_law_3192 rfl rfl ⟨by decide, by decide, show ce + 1 ≤ 601024 by omega, show sl + 6 ≤ 7293034 by omega⟩ ?_
  intro w M' w0 h0 h1
  have hq := lw_hq h0 h1 (fun i a c => kq_ap (by omega))
  have hB := rel_B2 hR hq
  have hS2 : Same M M' nc ns nz nb nr t := same_cg hS (fun _ _ _ => rfl) (hq 64 (by decide) (by decide))
  obtain ⟨k2, ek2, ek3, hk52, hc, hv⟩ := u_appendText hB (xs (i + 1))
  have ek4 : k2 = k := (nI_eq (by omega) (by omega)).mp (ek2.symm.trans ek)
  subst ek4
  refine aw_aload_n (T := TL) dL_law_3194 rfl ?_
  refine lw_arg (j := 1) hL hi rfl rfl rfl rfl dL_law_3195 dL_law_3196 dL_law_3198 dL_law_3199 dL_law_3200 ?_
  refine lw_ref hn (show ce + 1 ≤ 500000 by omega) (show sl + 6 ≤ 7000000 by omega) rfl rfl kv_L_333 ko_X10_appendText (c_X10_appendText hn ek3 hk52 (xs (i + 1))) rfl rfl rfl rfl rfl hc (by unfold cd_appendText; (repeat' split) <;> decide) (fun q => (w0 (hc.trans q)).trans (rfl)) (by decide) (by decide) dL_law_3201 dL_law_3204 dL_law_3206 dL_law_3207 dL_law_3210 dL_law_3212 dL_law_3217 dL_law_3219 dL_law_3222 dL_law_3223 dL_law_3224 dL_law_3225 dL_law_3227 dL_law_3228 dL_law_3229 dL_law_3234 ?_
  intro M2 hr
  exact kk _ _ _ _ _ (lw_fin hB rfl hc h0 h1 (fun i a => kr_at (by omega)) (fun q => hv q) hr) hn (show ce + 1 ≤ ce + 100 by omega) (show sl + 6 ≤ sl + 2000 by omega)
theorem lw_c49 {b L : Nat} {xs : Nat → Int32} {i : Nat} {G : AG} {M : Nat → Nat → Int32} {n ce sl : Nat} (hL : L ≤ 3072) (hi : i + 6 ≤ L) (hR : Rel G M M n) (hn : 72 ≤ n) (hce : ce ≤ 400000) (hsl : sl ≤ 6000000) (kk : LK b L xs i ce sl) : AW TL QL (CL b L xs) 3237 (LO i none none) [] (wld G M) n ce sl := by
  obtain ⟨nc, ns, nz, nb, nr, t, hS, hI⟩ := hR.1
  refine aw_aload_n (T := TL) dL_law_3237 rfl ?_
  refine lw_arg (j := 1) hL hi rfl rfl rfl rfl dL_law_3238 dL_law_3239 dL_law_3241 dL_law_3242 dL_law_3243 ?_
  refine aw_aload_n (T := TL) dL_law_3244 rfl ?_
  refine lw_help hn kl_L_334 kt_L_334 kow_L_truncateText (c_L_truncateText hn (xs (i + 1))) dL_law_3245 dL_law_3248 rfl rfl ⟨by decide, by decide, show ce + 1 ≤ 601024 by omega, show sl + 6 ≤ 7293034 by omega⟩ ?_
  intro w M' w0 h0 h1
  have hq := lw_hq h0 h1 (fun i a c => updM_n (by omega))
  have hB := rel_B2 hR hq
  have hS2 : Same M M' nc ns nz nb nr t := same_cg hS (fun _ _ _ => rfl) (hq 64 (by decide) (by decide))
  obtain ⟨hc, hv⟩ := u_truncateText hB (xs (i + 1))
  refine aw_aload_n (T := TL) dL_law_3250 rfl ?_
  refine lw_arg (j := 1) hL hi rfl rfl rfl rfl dL_law_3251 dL_law_3252 dL_law_3254 dL_law_3255 dL_law_3256 ?_
  refine lw_ref hn (show ce + 1 ≤ 500000 by omega) (show sl + 6 ≤ 7000000 by omega) rfl rfl kv_L_336 ko_X10_truncateText (c_X10_truncateText hn (xs (i + 1))) rfl rfl rfl rfl rfl hc (by unfold cd_truncateText; (repeat' split) <;> decide) (fun q => (w0 (hc.trans q)).trans (rfl)) (by decide) (by decide) dL_law_3257 dL_law_3260 dL_law_3262 dL_law_3263 dL_law_3266 dL_law_3268 dL_law_3273 dL_law_3275 dL_law_3278 dL_law_3279 dL_law_3280 dL_law_3281 dL_law_3283 dL_law_3284 dL_law_3285 dL_law_3290 ?_
  intro M2 hr
  exact kk _ _ _ _ _ (lw_fin hB rfl hc h0 h1 (fun i a => updM_n (by omega)) (fun q => hv q) hr) hn (show ce + 1 ≤ ce + 100 by omega) (show sl + 6 ≤ sl + 2000 by omega)
theorem lw_c51 {b L : Nat} {xs : Nat → Int32} {i : Nat} {G : AG} {M : Nat → Nat → Int32} {n ce sl : Nat} (hL : L ≤ 3072) (hi : i + 6 ≤ L) (hR : Rel G M M n) (hn : 72 ≤ n) (hce : ce ≤ 400000) (hsl : sl ≤ 6000000) (kk : LK b L xs i ce sl) : AW TL QL (CL b L xs) 3306 (LO i none none) [] (wld G M) n ce sl := by
  obtain ⟨nc, ns, nz, nb, nr, t, hS, hI⟩ := hR.1
  refine lw_dir hn hce hsl rfl rfl rfl rfl kv_L_341 ko_X9_errorCode (c_X9_errorCode hn) kv_L_344 ko_X10_errorCode (c_X10_errorCode hn hS.2.1) rfl rfl rfl rfl rfl rfl (by unfold cr_errorCode; rfl) (hR.2.2.1.1.symm) (by decide) dL_law_3306 dL_law_3307 dL_law_3310 dL_law_3311 dL_law_3314 ?_
  intro M2 hr
  exact kk _ _ _ _ _ (rel_rs hR hr) hn (by omega) (by omega)
theorem lw_c52 {b L : Nat} {xs : Nat → Int32} {i : Nat} {G : AG} {M : Nat → Nat → Int32} {n ce sl : Nat} (hL : L ≤ 3072) (hi : i + 6 ≤ L) (hR : Rel G M M n) (hn : 72 ≤ n) (hce : ce ≤ 400000) (hsl : sl ≤ 6000000) (kk : LK b L xs i ce sl) : AW TL QL (CL b L xs) 3319 (LO i none none) [] (wld G M) n ce sl := by
  obtain ⟨nc, ns, nz, nb, nr, t, hS, hI⟩ := hR.1
  refine lw_dir hn hce hsl rfl rfl rfl rfl kv_L_345 ko_X9_errorPosition (c_X9_errorPosition hn) kv_L_348 ko_X10_errorPosition (c_X10_errorPosition hn hS.2.1) rfl rfl rfl rfl rfl rfl (by unfold cr_errorPosition; rfl) (hR.2.2.1.2.symm) (by decide) dL_law_3319 dL_law_3320 dL_law_3323 dL_law_3324 dL_law_3327 ?_
  intro M2 hr
  exact kk _ _ _ _ _ (rel_rs hR hr) hn (by omega) (by omega)
theorem lw_c53 {b L : Nat} {xs : Nat → Int32} {i : Nat} {G : AG} {M : Nat → Nat → Int32} {n ce sl : Nat} (hL : L ≤ 3072) (hi : i + 6 ≤ L) (hR : Rel G M M n) (hn : 72 ≤ n) (hce : ce ≤ 400000) (hsl : sl ≤ 6000000) (kk : LK b L xs i ce sl) : AW TL QL (CL b L xs) 3332 (LO i none none) [] (wld G M) n ce sl := by
  have hc : cd_save (xs (i + 1)) = cr_save (xs (i + 1)) := c_sv _
  refine aw_aload_n (T := TL) dL_law_3332 rfl ?_
  refine lw_arg (j := 1) hL hi rfl rfl rfl rfl dL_law_3333 dL_law_3334 dL_law_3336 dL_law_3337 dL_law_3338 ?_
  refine lw_helps hn kl_L_349 kt_L_349 kow_L_save (c_L_save2 hn (gs_of hR.2.2.2) (xs (i + 1)) (fun z1 z2 => gn_of hR.2.2.2 (sv_lt z1) z2)) dL_law_3339 dL_law_3342 rfl rfl ⟨by decide, by decide, show ce + 28 ≤ 601024 by omega, show sl + 602 ≤ 7293034 by omega⟩ ?_
  intro h1 n1 hp
  rcases hp.2 with ⟨q0, rfl, rfl⟩ | ⟨q0, b1, M0, rfl, q1, q2⟩
  · refine aw_aload_n (T := TL) dL_law_3344 rfl ?_
    refine lw_arg (j := 1) hL hi rfl rfl rfl rfl dL_law_3345 dL_law_3346 dL_law_3348 dL_law_3349 dL_law_3350 ?_
    refine lw_refv hn (show ce + 28 ≤ 500000 by omega) (show sl + 602 ≤ 7000000 by omega) rfl rfl kv_L_351 ko_X10_save (c_X10_save hn (xs (i + 1))) rfl rfl rfl rfl rfl hc (by decide) dL_law_3351 dL_law_3354 dL_law_3355 dL_law_3358 dL_law_3360 dL_law_3365 ?_
    intro M2 hr
    rw [if_neg (by rw [← hc, q0]; decide)] at hr
    exact kk _ _ _ _ _ (rel_rs hR hr) hn (show ce + 28 ≤ ce + 100 by omega) (show sl + 602 ≤ sl + 2000 by omega)
  · have hn1 : 72 ≤ n1 := by rcases q1 with ⟨-, q, -⟩ | ⟨-, -, q, -⟩ <;> omega
    refine aw_aload_n (T := TL) dL_law_3344 rfl ?_
    refine lw_arg (j := 1) hL hi rfl rfl rfl rfl dL_law_3345 dL_law_3346 dL_law_3348 dL_law_3349 dL_law_3350 ?_
    refine lw_refv hn1 (show ce + 28 ≤ 500000 by omega) (show sl + 602 ≤ 7000000 by omega) rfl rfl kv_L_351 ko_X10_save (c_X10_save hn1 (xs (i + 1))) rfl rfl rfl rfl rfl hc (by decide) dL_law_3351 dL_law_3354 dL_law_3355 dL_law_3358 dL_law_3360 dL_law_3365 ?_
    intro M2 hr
    rw [if_pos (hc.symm.trans q0)] at hr
    exact kk _ _ _ _ _ (r_save hR (sv_lt q0) q1 q2 hr) hn1 (show ce + 28 ≤ ce + 100 by omega) (show sl + 602 ≤ sl + 2000 by omega)
theorem lw_c54 {b L : Nat} {xs : Nat → Int32} {i : Nat} {G : AG} {M : Nat → Nat → Int32} {n ce sl : Nat} (hL : L ≤ 3072) (hi : i + 6 ≤ L) (hR : Rel G M M n) (hn : 72 ≤ n) (hce : ce ≤ 400000) (hsl : sl ≤ 6000000) (kk : LK b L xs i ce sl) : AW TL QL (CL b L xs) 3368 (LO i none none) [] (wld G M) n ce sl := by
  obtain ⟨nc, ns, nz, nb, nr, t, hS, hI⟩ := hR.1
  refine aw_aload_n (T := TL) dL_law_3368 rfl ?_
  refine lw_arg (j := 1) hL hi rfl rfl rfl rfl dL_law_3369 dL_law_3370 dL_law_3372 dL_law_3373 dL_law_3374 ?_
  refine lw_helpv hn kl_L_352 kt_L_352 kow_L_restore (c_L_restore hn (gs_of hR.2.2.2) (xs (i + 1))) dL_law_3375 dL_law_3378 rfl rfl ⟨by decide, by decide, show ce + 2 ≤ 601024 by omega, show sl + 12 ≤ 7293034 by omega⟩ ?_
  intro M' h0 h1
  have hq := lw_hq h0 h1 (fun i a c => kq_rs (by omega))
  have hB := rel_B2 hR hq
  have hS2 : Same M M' nc ns nz nb nr t := same_cg hS (fun _ _ _ => rfl) (hq 64 (by decide) (by decide))
  have hc := q_restore hB (xs (i + 1))
  refine aw_aload_n (T := TL) dL_law_3380 rfl ?_
  refine lw_arg (j := 1) hL hi rfl rfl rfl rfl dL_law_3381 dL_law_3382 dL_law_3384 dL_law_3385 dL_law_3386 ?_
  refine lw_refv hn (show ce + 2 ≤ 500000 by omega) (show sl + 12 ≤ 7000000 by omega) rfl rfl kv_L_354 ko_X10_restore (c_X10_restore hn (xs (i + 1))) rfl rfl rfl rfl rfl hc (by decide) dL_law_3387 dL_law_3390 dL_law_3391 dL_law_3394 dL_law_3396 dL_law_3401 ?_
  intro M2 hr
  exact kk _ _ _ _ _ (fin_restore (G2 := G) hR hB hc h0 h1 hr) hn (show ce + 2 ≤ ce + 100 by omega) (show sl + 12 ≤ sl + 2000 by omega)
