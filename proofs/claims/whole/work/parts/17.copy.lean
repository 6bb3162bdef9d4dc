set_option maxRecDepth 100000 in
theorem c_X9_copyRow {h : Nat → AE} {n i0 i1 len : Nat} {f g : Nat → Int32} (he0 : h i0 = .inl (0, len, .inl f)) (he1 : h i1 = .inl (0, len, .inl g)) (hi0 : i0 < n) (hi1 : i1 < n) (hl : Nat.ble len 2000 = true) : AMet tX9_copyRow yX9_copyRow [Cond.code yX9_copyRow cX9_copyRow 2 none] [.ref i0, .ref i1] h n (PD (.inl none) (hset h i1 (.inl (0, len, .inl (va_cpy f g 0 0 len)))) n) := by
  have hl2 : len ≤ 2000 := Nat.le_of_ble_eq_true hl
  refine am_of (lo := [_, _]) (by decide) rfl (fun q => by cases q) rfl rfl rfl ?_
  refine aw_aload_n dX9_copyRow_0 rfl ?_
  refine aw_iconst (v := 0) dX9_copyRow_1 (by decide) ?_
  refine aw_aload_n dX9_copyRow_2 rfl ?_
  refine aw_iconst (v := 0) dX9_copyRow_3 (by decide) ?_
  refine aw_aload_n dX9_copyRow_4 rfl ?_
  refine aw_alen (v := nI len) dX9_copyRow_5 he0 hi0 (by decide) rfl ?_
  refine aw_aload_n dX9_copyRow_6 rfl ?_
  refine aw_alen (v := nI len) dX9_copyRow_7 he1 hi1 (by decide) rfl ?_
  refine aw_mmin km_X9_326 dX9_copyRow_8 ⟨by decide, ble' rfl, by decide, by decide⟩ ?_
  rw [show (if nI len < nI len then nI len else nI len) = nI len by split <;> rfl]
  have hz : (0 : Int32).toNatClampNeg = 0 := by decide
  have hc : (nI len).toNatClampNeg = len := nI_clamp (by omega)
  refine aw_copy kc_X9_329 dX9_copyRow_11 he0 he1 hi0 hi1 (by decide) (by decide) (nI_pos (by omega)) (by rw [hz, hc]; omega) (by rw [hz, hc]; omega) ⟨by decide, ble' rfl⟩ rfl ?_
  refine aw_vret rfl dX9_copyRow_14 (ble' rfl) (ble' rfl) ?_
  exact pd_v (by rw [hz, hc])
theorem cpw {G : AG} {M : Nat → Nat → Int32} {n i0 i1 len : Nat} (e0 : ∀ r, ent G i0 r = .inl (0, len, .inl r)) (e1 : ∀ r, ent G i1 r = .inl (0, len, .inl r)) (hi0 : i0 < n) (hi1 : i1 < n) (hl : Nat.ble len 2000 = true) : AMet tX9_copyRow yX9_copyRow [Cond.code yX9_copyRow cX9_copyRow 2 none] [.ref i0, .ref i1] (wld G M) n (PD (.inl none) (wld G (updM M i1 (va_cpy (M i0) (M i1) 0 0 len))) n) := by
  have q := c_X9_copyRow (h := wld G M) (he0 := e0 (M i0)) (he1 := e1 (M i1)) hi0 hi1 hl
  rw [hset_wld (e1 _)] at q
  exact q
def cpX2_1_28 (M : Nat → Nat → Int32) : Nat → Nat → Int32 := updM (updM (updM (updM (M) 3 (va_cpy (M 30) (M 3) 0 0 4)) 4 (va_cpy (M 31) (M 4) 0 0 4)) 5 (va_cpy (M 32) (M 5) 0 0 4)) 2 (upd (M 2) 3 (M 29 3))
set_option maxRecDepth 100000 in
set_option maxHeartbeats 4000000 in
theorem c_X2_copyFrom_1_28 {G : AG} {M : Nat → Nat → Int32} {n : Nat} (hn : 72 ≤ n) : AMet tX2_copyFrom yX2_copyFrom [Cond.code yX2_copyFrom cX2_copyFrom 2 none] [.ref 2, .ref 29] (wld G M) n (PD (.inl none) (wld G (cpX2_1_28 M)) n) := by
  refine am_of (lo := [_, _]) (by decide) rfl (fun q => by cases q) rfl rfl rfl ?_
  refine aw_aload_n dX2_copyFrom_0 rfl ?_
  refine aw_get fl_X2_9 dX2_copyFrom_1 e_29 (lti rfl hn) rfl ?_
  refine aw_aload_n dX2_copyFrom_4 rfl ?_
  refine aw_get fl_X2_9 dX2_copyFrom_5 e_2 (lti rfl hn) rfl ?_
  refine ap_callSv ks_X2_25 ko_X9_copyRow (cpw (fun _ => rfl) (fun _ => rfl) (lti rfl hn) (lti rfl hn) rfl) dX2_copyFrom_8 rfl rfl (ble' rfl) (by decide) ?_
  refine aw_aload_n dX2_copyFrom_11 rfl ?_
  refine aw_get fl_X2_15 dX2_copyFrom_12 e_29 (lti rfl hn) rfl ?_
  refine aw_aload_n dX2_copyFrom_15 rfl ?_
  refine aw_get fl_X2_15 dX2_copyFrom_16 e_2 (lti rfl hn) rfl ?_
  refine ap_callSv ks_X2_25 ko_X9_copyRow (cpw (fun _ => rfl) (fun _ => rfl) (lti rfl hn) (lti rfl hn) rfl) dX2_copyFrom_19 rfl rfl (ble' rfl) (by decide) ?_
  refine aw_aload_n dX2_copyFrom_22 rfl ?_
  refine aw_get fl_X2_18 dX2_copyFrom_23 e_29 (lti rfl hn) rfl ?_
  refine aw_aload_n dX2_copyFrom_26 rfl ?_
  refine aw_get fl_X2_18 dX2_copyFrom_27 e_2 (lti rfl hn) rfl ?_
  refine ap_callSv ks_X2_25 ko_X9_copyRow (cpw (fun _ => rfl) (fun _ => rfl) (lti rfl hn) (lti rfl hn) rfl) dX2_copyFrom_30 rfl rfl (ble' rfl) (by decide) ?_
  refine aw_aload_n dX2_copyFrom_33 rfl ?_
  refine aw_aload_n dX2_copyFrom_34 rfl ?_
  refine aw_get fl_X2_21 dX2_copyFrom_35 e_29 (lti rfl hn) rfl ?_
  refine aw_put fp_X2_21_m dX2_copyFrom_38 e_2 (lti rfl hn) (ble' rfl) (fun _ => ⟨rfl, rfl⟩) (hwf rfl) ?_
  refine aw_vret rfl dX2_copyFrom_41 (ble' rfl) (ble' rfl) ?_
  exact pd_v rfl

def cpX7_1_28 (M : Nat → Nat → Int32) : Nat → Nat → Int32 := updM (updM (updM (M) 7 (va_cpy (M 34) (M 7) 0 0 16)) 8 (va_cpy (M 35) (M 8) 0 0 16)) 6 (upd (M 6) 2 (M 33 2))
set_option maxRecDepth 100000 in
set_option maxHeartbeats 4000000 in
theorem c_X7_copyFrom_1_28 {G : AG} {M : Nat → Nat → Int32} {n : Nat} (hn : 72 ≤ n) : AMet tX7_copyFrom yX7_copyFrom [Cond.code yX7_copyFrom cX7_copyFrom 2 none] [.ref 6, .ref 33] (wld G M) n (PD (.inl none) (wld G (cpX7_1_28 M)) n) := by
  refine am_of (lo := [_, _]) (by decide) rfl (fun q => by cases q) rfl rfl rfl ?_
  refine aw_aload_n dX7_copyFrom_0 rfl ?_
  refine aw_get fl_X7_9 dX7_copyFrom_1 e_33 (lti rfl hn) rfl ?_
  refine aw_aload_n dX7_copyFrom_4 rfl ?_
  refine aw_get fl_X7_9 dX7_copyFrom_5 e_6 (lti rfl hn) rfl ?_
  refine ap_callSv ks_X7_22 ko_X9_copyRow (cpw (fun _ => rfl) (fun _ => rfl) (lti rfl hn) (lti rfl hn) rfl) dX7_copyFrom_8 rfl rfl (ble' rfl) (by decide) ?_
  refine aw_aload_n dX7_copyFrom_11 rfl ?_
  refine aw_get fl_X7_15 dX7_copyFrom_12 e_33 (lti rfl hn) rfl ?_
  refine aw_aload_n dX7_copyFrom_15 rfl ?_
  refine aw_get fl_X7_15 dX7_copyFrom_16 e_6 (lti rfl hn) rfl ?_
  refine ap_callSv ks_X7_22 ko_X9_copyRow (cpw (fun _ => rfl) (fun _ => rfl) (lti rfl hn) (lti rfl hn) rfl) dX7_copyFrom_19 rfl rfl (ble' rfl) (by decide) ?_
  refine aw_aload_n dX7_copyFrom_22 rfl ?_
  refine aw_aload_n dX7_copyFrom_23 rfl ?_
  refine aw_get fl_X7_18 dX7_copyFrom_24 e_33 (lti rfl hn) rfl ?_
  refine aw_put fp_X7_18_m dX7_copyFrom_27 e_6 (lti rfl hn) (ble' rfl) (fun _ => ⟨rfl, rfl⟩) (hwf rfl) ?_
  refine aw_vret rfl dX7_copyFrom_30 (ble' rfl) (ble' rfl) ?_
  exact pd_v rfl

def cpX5_1_28 (M : Nat → Nat → Int32) : Nat → Nat → Int32 := updM (updM (updM (updM (updM (updM (M) 10 (va_cpy (M 37) (M 10) 0 0 12)) 11 (va_cpy (M 38) (M 11) 0 0 12)) 12 (va_cpy (M 39) (M 12) 0 0 12)) 13 (va_cpy (M 40) (M 13) 0 0 12)) 14 (va_cpy (M 41) (M 14) 0 0 12)) 9 (upd (M 9) 5 (M 36 5))
set_option maxRecDepth 100000 in
set_option maxHeartbeats 4000000 in
theorem c_X5_copyFrom_1_28 {G : AG} {M : Nat → Nat → Int32} {n : Nat} (hn : 72 ≤ n) : AMet tX5_copyFrom yX5_copyFrom [Cond.code yX5_copyFrom cX5_copyFrom 2 none] [.ref 9, .ref 36] (wld G M) n (PD (.inl none) (wld G (cpX5_1_28 M)) n) := by
  refine am_of (lo := [_, _]) (by decide) rfl (fun q => by cases q) rfl rfl rfl ?_
  refine aw_aload_n dX5_copyFrom_0 rfl ?_
  refine aw_get fl_X5_9 dX5_copyFrom_1 e_36 (lti rfl hn) rfl ?_
  refine aw_aload_n dX5_copyFrom_4 rfl ?_
  refine aw_get fl_X5_9 dX5_copyFrom_5 e_9 (lti rfl hn) rfl ?_
  refine ap_callSv ks_X5_38 ko_X9_copyRow (cpw (fun _ => rfl) (fun _ => rfl) (lti rfl hn) (lti rfl hn) rfl) dX5_copyFrom_8 rfl rfl (ble' rfl) (by decide) ?_
  refine aw_aload_n dX5_copyFrom_11 rfl ?_
  refine aw_get fl_X5_15 dX5_copyFrom_12 e_36 (lti rfl hn) rfl ?_
  refine aw_aload_n dX5_copyFrom_15 rfl ?_
  refine aw_get fl_X5_15 dX5_copyFrom_16 e_9 (lti rfl hn) rfl ?_
  refine ap_callSv ks_X5_38 ko_X9_copyRow (cpw (fun _ => rfl) (fun _ => rfl) (lti rfl hn) (lti rfl hn) rfl) dX5_copyFrom_19 rfl rfl (ble' rfl) (by decide) ?_
  refine aw_aload_n dX5_copyFrom_22 rfl ?_
  refine aw_get fl_X5_18 dX5_copyFrom_23 e_36 (lti rfl hn) rfl ?_
  refine aw_aload_n dX5_copyFrom_26 rfl ?_
  refine aw_get fl_X5_18 dX5_copyFrom_27 e_9 (lti rfl hn) rfl ?_
  refine ap_callSv ks_X5_38 ko_X9_copyRow (cpw (fun _ => rfl) (fun _ => rfl) (lti rfl hn) (lti rfl hn) rfl) dX5_copyFrom_30 rfl rfl (ble' rfl) (by decide) ?_
  refine aw_aload_n dX5_copyFrom_33 rfl ?_
  refine aw_get fl_X5_21 dX5_copyFrom_34 e_36 (lti rfl hn) rfl ?_
  refine aw_aload_n dX5_copyFrom_37 rfl ?_
  refine aw_get fl_X5_21 dX5_copyFrom_38 e_9 (lti rfl hn) rfl ?_
  refine ap_callSv ks_X5_38 ko_X9_copyRow (cpw (fun _ => rfl) (fun _ => rfl) (lti rfl hn) (lti rfl hn) rfl) dX5_copyFrom_41 rfl rfl (ble' rfl) (by decide) ?_
  refine aw_aload_n dX5_copyFrom_44 rfl ?_
  refine aw_get fl_X5_24 dX5_copyFrom_45 e_36 (lti rfl hn) rfl ?_
  refine aw_aload_n dX5_copyFrom_48 rfl ?_
  refine aw_get fl_X5_24 dX5_copyFrom_49 e_9 (lti rfl hn) rfl ?_
  refine ap_callSv ks_X5_38 ko_X9_copyRow (cpw (fun _ => rfl) (fun _ => rfl) (lti rfl hn) (lti rfl hn) rfl) dX5_copyFrom_52 rfl rfl (ble' rfl) (by decide) ?_
  refine aw_aload_n dX5_copyFrom_55 rfl ?_
  refine aw_aload_n dX5_copyFrom_56 rfl ?_
  refine aw_get fl_X5_27 dX5_copyFrom_57 e_36 (lti rfl hn) rfl ?_
  refine aw_put fp_X5_27_m dX5_copyFrom_60 e_9 (lti rfl hn) (ble' rfl) (fun _ => ⟨rfl, rfl⟩) (hwf rfl) ?_
  refine aw_vret rfl dX5_copyFrom_63 (ble' rfl) (ble' rfl) ?_
  exact pd_v rfl

def cpX0_1_28 (M : Nat → Nat → Int32) : Nat → Nat → Int32 := updM (updM (updM (updM (updM (updM (updM (M) 16 (va_cpy (M 43) (M 16) 0 0 60)) 17 (va_cpy (M 44) (M 17) 0 0 60)) 18 (va_cpy (M 45) (M 18) 0 0 60)) 19 (va_cpy (M 46) (M 19) 0 0 60)) 20 (va_cpy (M 47) (M 20) 0 0 60)) 21 (va_cpy (M 48) (M 21) 0 0 60)) 15 (upd (M 15) 6 (M 42 6))
set_option maxRecDepth 100000 in
set_option maxHeartbeats 4000000 in
theorem c_X0_copyFrom_1_28 {G : AG} {M : Nat → Nat → Int32} {n : Nat} (hn : 72 ≤ n) : AMet tX0_copyFrom yX0_copyFrom [Cond.code yX0_copyFrom cX0_copyFrom 2 none] [.ref 15, .ref 42] (wld G M) n (PD (.inl none) (wld G (cpX0_1_28 M)) n) := by
  refine am_of (lo := [_, _]) (by decide) rfl (fun q => by cases q) rfl rfl rfl ?_
  refine aw_aload_n dX0_copyFrom_0 rfl ?_
  refine aw_get fl_X0_9 dX0_copyFrom_1 e_42 (lti rfl hn) rfl ?_
  refine aw_aload_n dX0_copyFrom_4 rfl ?_
  refine aw_get fl_X0_9 dX0_copyFrom_5 e_15 (lti rfl hn) rfl ?_
  refine ap_callSv ks_X0_38 ko_X9_copyRow (cpw (fun _ => rfl) (fun _ => rfl) (lti rfl hn) (lti rfl hn) rfl) dX0_copyFrom_8 rfl rfl (ble' rfl) (by decide) ?_
  refine aw_aload_n dX0_copyFrom_11 rfl ?_
  refine aw_get fl_X0_15 dX0_copyFrom_12 e_42 (lti rfl hn) rfl ?_
  refine aw_aload_n dX0_copyFrom_15 rfl ?_
  refine aw_get fl_X0_15 dX0_copyFrom_16 e_15 (lti rfl hn) rfl ?_
  refine ap_callSv ks_X0_38 ko_X9_copyRow (cpw (fun _ => rfl) (fun _ => rfl) (lti rfl hn) (lti rfl hn) rfl) dX0_copyFrom_19 rfl rfl (ble' rfl) (by decide) ?_
  refine aw_aload_n dX0_copyFrom_22 rfl ?_
  refine aw_get fl_X0_18 dX0_copyFrom_23 e_42 (lti rfl hn) rfl ?_
  refine aw_aload_n dX0_copyFrom_26 rfl ?_
  refine aw_get fl_X0_18 dX0_copyFrom_27 e_15 (lti rfl hn) rfl ?_
  refine ap_callSv ks_X0_38 ko_X9_copyRow (cpw (fun _ => rfl) (fun _ => rfl) (lti rfl hn) (lti rfl hn) rfl) dX0_copyFrom_30 rfl rfl (ble' rfl) (by decide) ?_
  refine aw_aload_n dX0_copyFrom_33 rfl ?_
  refine aw_get fl_X0_21 dX0_copyFrom_34 e_42 (lti rfl hn) rfl ?_
  refine aw_aload_n dX0_copyFrom_37 rfl ?_
  refine aw_get fl_X0_21 dX0_copyFrom_38 e_15 (lti rfl hn) rfl ?_
  refine ap_callSv ks_X0_38 ko_X9_copyRow (cpw (fun _ => rfl) (fun _ => rfl) (lti rfl hn) (lti rfl hn) rfl) dX0_copyFrom_41 rfl rfl (ble' rfl) (by decide) ?_
  refine aw_aload_n dX0_copyFrom_44 rfl ?_
  refine aw_get fl_X0_24 dX0_copyFrom_45 e_42 (lti rfl hn) rfl ?_
  refine aw_aload_n dX0_copyFrom_48 rfl ?_
  refine aw_get fl_X0_24 dX0_copyFrom_49 e_15 (lti rfl hn) rfl ?_
  refine ap_callSv ks_X0_38 ko_X9_copyRow (cpw (fun _ => rfl) (fun _ => rfl) (lti rfl hn) (lti rfl hn) rfl) dX0_copyFrom_52 rfl rfl (ble' rfl) (by decide) ?_
  refine aw_aload_n dX0_copyFrom_55 rfl ?_
  refine aw_get fl_X0_27 dX0_copyFrom_56 e_42 (lti rfl hn) rfl ?_
  refine aw_aload_n dX0_copyFrom_59 rfl ?_
  refine aw_get fl_X0_27 dX0_copyFrom_60 e_15 (lti rfl hn) rfl ?_
  refine ap_callSv ks_X0_38 ko_X9_copyRow (cpw (fun _ => rfl) (fun _ => rfl) (lti rfl hn) (lti rfl hn) rfl) dX0_copyFrom_63 rfl rfl (ble' rfl) (by decide) ?_
  refine aw_aload_n dX0_copyFrom_66 rfl ?_
  refine aw_aload_n dX0_copyFrom_67 rfl ?_
  refine aw_get fl_X0_30 dX0_copyFrom_68 e_42 (lti rfl hn) rfl ?_
  refine aw_put fp_X0_30_m dX0_copyFrom_71 e_15 (lti rfl hn) (ble' rfl) (fun _ => ⟨rfl, rfl⟩) (hwf rfl) ?_
  refine aw_vret rfl dX0_copyFrom_74 (ble' rfl) (ble' rfl) ?_
  exact pd_v rfl

def cpX4_1_28 (M : Nat → Nat → Int32) : Nat → Nat → Int32 := updM (updM (updM (updM (updM (updM (M) 23 (va_cpy (M 50) (M 23) 0 0 20)) 24 (va_cpy (M 51) (M 24) 0 0 20)) 25 (va_cpy (M 52) (M 25) 0 0 20)) 26 (va_cpy (M 53) (M 26) 0 0 20)) 27 (va_cpy (M 54) (M 27) 0 0 20)) 22 (upd (M 22) 5 (M 49 5))
set_option maxRecDepth 100000 in
set_option maxHeartbeats 4000000 in
theorem c_X4_copyFrom_1_28 {G : AG} {M : Nat → Nat → Int32} {n : Nat} (hn : 72 ≤ n) : AMet tX4_copyFrom yX4_copyFrom [Cond.code yX4_copyFrom cX4_copyFrom 2 none] [.ref 22, .ref 49] (wld G M) n (PD (.inl none) (wld G (cpX4_1_28 M)) n) := by
  refine am_of (lo := [_, _]) (by decide) rfl (fun q => by cases q) rfl rfl rfl ?_
  refine aw_aload_n dX4_copyFrom_0 rfl ?_
  refine aw_get fl_X4_9 dX4_copyFrom_1 e_49 (lti rfl hn) rfl ?_
  refine aw_aload_n dX4_copyFrom_4 rfl ?_
  refine aw_get fl_X4_9 dX4_copyFrom_5 e_22 (lti rfl hn) rfl ?_
  refine ap_callSv ks_X4_31 ko_X9_copyRow (cpw (fun _ => rfl) (fun _ => rfl) (lti rfl hn) (lti rfl hn) rfl) dX4_copyFrom_8 rfl rfl (ble' rfl) (by decide) ?_
  refine aw_aload_n dX4_copyFrom_11 rfl ?_
  refine aw_get fl_X4_15 dX4_copyFrom_12 e_49 (lti rfl hn) rfl ?_
  refine aw_aload_n dX4_copyFrom_15 rfl ?_
  refine aw_get fl_X4_15 dX4_copyFrom_16 e_22 (lti rfl hn) rfl ?_
  refine ap_callSv ks_X4_31 ko_X9_copyRow (cpw (fun _ => rfl) (fun _ => rfl) (lti rfl hn) (lti rfl hn) rfl) dX4_copyFrom_19 rfl rfl (ble' rfl) (by decide) ?_
  refine aw_aload_n dX4_copyFrom_22 rfl ?_
  refine aw_get fl_X4_18 dX4_copyFrom_23 e_49 (lti rfl hn) rfl ?_
  refine aw_aload_n dX4_copyFrom_26 rfl ?_
  refine aw_get fl_X4_18 dX4_copyFrom_27 e_22 (lti rfl hn) rfl ?_
  refine ap_callSv ks_X4_31 ko_X9_copyRow (cpw (fun _ => rfl) (fun _ => rfl) (lti rfl hn) (lti rfl hn) rfl) dX4_copyFrom_30 rfl rfl (ble' rfl) (by decide) ?_
  refine aw_aload_n dX4_copyFrom_33 rfl ?_
  refine aw_get fl_X4_21 dX4_copyFrom_34 e_49 (lti rfl hn) rfl ?_
  refine aw_aload_n dX4_copyFrom_37 rfl ?_
  refine aw_get fl_X4_21 dX4_copyFrom_38 e_22 (lti rfl hn) rfl ?_
  refine ap_callSv ks_X4_31 ko_X9_copyRow (cpw (fun _ => rfl) (fun _ => rfl) (lti rfl hn) (lti rfl hn) rfl) dX4_copyFrom_41 rfl rfl (ble' rfl) (by decide) ?_
  refine aw_aload_n dX4_copyFrom_44 rfl ?_
  refine aw_get fl_X4_24 dX4_copyFrom_45 e_49 (lti rfl hn) rfl ?_
  refine aw_aload_n dX4_copyFrom_48 rfl ?_
  refine aw_get fl_X4_24 dX4_copyFrom_49 e_22 (lti rfl hn) rfl ?_
  refine ap_callSv ks_X4_31 ko_X9_copyRow (cpw (fun _ => rfl) (fun _ => rfl) (lti rfl hn) (lti rfl hn) rfl) dX4_copyFrom_52 rfl rfl (ble' rfl) (by decide) ?_
  refine aw_aload_n dX4_copyFrom_55 rfl ?_
  refine aw_aload_n dX4_copyFrom_56 rfl ?_
  refine aw_get fl_X4_27 dX4_copyFrom_57 e_49 (lti rfl hn) rfl ?_
  refine aw_put fp_X4_27_m dX4_copyFrom_60 e_22 (lti rfl hn) (ble' rfl) (fun _ => ⟨rfl, rfl⟩) (hwf rfl) ?_
  refine aw_vret rfl dX4_copyFrom_63 (ble' rfl) (ble' rfl) ?_
  exact pd_v rfl

/-- the camp 28 copied over the camp 1 -/
def cp_1_28 (M : Nat → Nat → Int32) : Nat → Nat → Int32 := updM (updM (updM (updM (updM (updM (updM (updM (updM (updM (updM (updM (updM (updM (updM (updM (updM (updM (updM (updM (updM (updM (updM (updM (updM (updM (updM (M) 3 (va_cpy (M 30) (M 3) 0 0 4)) 4 (va_cpy (M 31) (M 4) 0 0 4)) 5 (va_cpy (M 32) (M 5) 0 0 4)) 2 (upd (M 2) 3 (M 29 3))) 7 (va_cpy (M 34) (M 7) 0 0 16)) 8 (va_cpy (M 35) (M 8) 0 0 16)) 6 (upd (M 6) 2 (M 33 2))) 10 (va_cpy (M 37) (M 10) 0 0 12)) 11 (va_cpy (M 38) (M 11) 0 0 12)) 12 (va_cpy (M 39) (M 12) 0 0 12)) 13 (va_cpy (M 40) (M 13) 0 0 12)) 14 (va_cpy (M 41) (M 14) 0 0 12)) 9 (upd (M 9) 5 (M 36 5))) 16 (va_cpy (M 43) (M 16) 0 0 60)) 17 (va_cpy (M 44) (M 17) 0 0 60)) 18 (va_cpy (M 45) (M 18) 0 0 60)) 19 (va_cpy (M 46) (M 19) 0 0 60)) 20 (va_cpy (M 47) (M 20) 0 0 60)) 21 (va_cpy (M 48) (M 21) 0 0 60)) 15 (upd (M 15) 6 (M 42 6))) 23 (va_cpy (M 50) (M 23) 0 0 20)) 24 (va_cpy (M 51) (M 24) 0 0 20)) 25 (va_cpy (M 52) (M 25) 0 0 20)) 26 (va_cpy (M 53) (M 26) 0 0 20)) 27 (va_cpy (M 54) (M 27) 0 0 20)) 22 (upd (M 22) 5 (M 49 5))) 1 (upd (M 1) 5 (M 28 5))
set_option maxRecDepth 100000 in
set_option maxHeartbeats 4000000 in
theorem c_X1_copyFrom_1_28 {G : AG} {M : Nat → Nat → Int32} {n : Nat} (hn : 72 ≤ n) : AMet tX1_copyFrom yX1_copyFrom [Cond.code yX1_copyFrom cX1_copyFrom 2 none] [.ref 1, .ref 28] (wld G M) n (PD (.inl none) (wld G (cp_1_28 M)) n) := by
  refine am_of (lo := [_, _]) (by decide) rfl (fun q => by cases q) rfl rfl rfl ?_
  refine aw_aload_n dX1_copyFrom_0 rfl ?_
  refine aw_get fl_X1_12 dX1_copyFrom_1 e_1 (lti rfl hn) rfl ?_
  refine aw_aload_n dX1_copyFrom_4 rfl ?_
  refine aw_get fl_X1_12 dX1_copyFrom_5 e_28 (lti rfl hn) rfl ?_
  refine ap_callVv kv_X1_57 ko_X2_copyFrom (c_X2_copyFrom_1_28 hn) dX1_copyFrom_8 e_2 (lti rfl hn) rfl rfl rfl rfl (ble' rfl) (by decide) ?_
  refine aw_aload_n dX1_copyFrom_11 rfl ?_
  refine aw_get fl_X1_21 dX1_copyFrom_12 e_1 (lti rfl hn) rfl ?_
  refine aw_aload_n dX1_copyFrom_15 rfl ?_
  refine aw_get fl_X1_21 dX1_copyFrom_16 e_28 (lti rfl hn) rfl ?_
  refine ap_callVv kv_X1_61 ko_X7_copyFrom (c_X7_copyFrom_1_28 hn) dX1_copyFrom_19 e_6 (lti rfl hn) rfl rfl rfl rfl (ble' rfl) (by decide) ?_
  refine aw_aload_n dX1_copyFrom_22 rfl ?_
  refine aw_get fl_X1_28 dX1_copyFrom_23 e_1 (lti rfl hn) rfl ?_
  refine aw_aload_n dX1_copyFrom_26 rfl ?_
  refine aw_get fl_X1_28 dX1_copyFrom_27 e_28 (lti rfl hn) rfl ?_
  refine ap_callVv kv_X1_64 ko_X5_copyFrom (c_X5_copyFrom_1_28 hn) dX1_copyFrom_30 e_9 (lti rfl hn) rfl rfl rfl rfl (ble' rfl) (by decide) ?_
  refine aw_aload_n dX1_copyFrom_33 rfl ?_
  refine aw_get fl_X1_35 dX1_copyFrom_34 e_1 (lti rfl hn) rfl ?_
  refine aw_aload_n dX1_copyFrom_37 rfl ?_
  refine aw_get fl_X1_35 dX1_copyFrom_38 e_28 (lti rfl hn) rfl ?_
  refine ap_callVv kv_X1_67 ko_X0_copyFrom (c_X0_copyFrom_1_28 hn) dX1_copyFrom_41 e_15 (lti rfl hn) rfl rfl rfl rfl (ble' rfl) (by decide) ?_
  refine aw_aload_n dX1_copyFrom_44 rfl ?_
  refine aw_get fl_X1_42 dX1_copyFrom_45 e_1 (lti rfl hn) rfl ?_
  refine aw_aload_n dX1_copyFrom_48 rfl ?_
  refine aw_get fl_X1_42 dX1_copyFrom_49 e_28 (lti rfl hn) rfl ?_
  refine ap_callVv kv_X1_70 ko_X4_copyFrom (c_X4_copyFrom_1_28 hn) dX1_copyFrom_52 e_22 (lti rfl hn) rfl rfl rfl rfl (ble' rfl) (by decide) ?_
  refine aw_aload_n dX1_copyFrom_55 rfl ?_
  refine aw_aload_n dX1_copyFrom_56 rfl ?_
  refine aw_get fl_X1_46 dX1_copyFrom_57 e_28 (lti rfl hn) rfl ?_
  refine aw_put fp_X1_46_m dX1_copyFrom_60 e_1 (lti rfl hn) (ble' rfl) (fun _ => ⟨rfl, rfl⟩) (hwf rfl) ?_
  refine aw_vret rfl dX1_copyFrom_63 (ble' rfl) (ble' rfl) ?_
  exact pd_v rfl

def cpX2_72_1 (M : Nat → Nat → Int32) : Nat → Nat → Int32 := updM (updM (updM (updM (M) 74 (va_cpy (M 3) (M 74) 0 0 4)) 75 (va_cpy (M 4) (M 75) 0 0 4)) 76 (va_cpy (M 5) (M 76) 0 0 4)) 73 (upd (M 73) 3 (M 2 3))
set_option maxRecDepth 100000 in
set_option maxHeartbeats 4000000 in
theorem c_X2_copyFrom_72_1 {G : AG} {M : Nat → Nat → Int32} {n : Nat} (hn : 99 ≤ n) : AMet tX2_copyFrom yX2_copyFrom [Cond.code yX2_copyFrom cX2_copyFrom 2 none] [.ref 73, .ref 2] (wld G M) n (PD (.inl none) (wld G (cpX2_72_1 M)) n) := by
  refine am_of (lo := [_, _]) (by decide) rfl (fun q => by cases q) rfl rfl rfl ?_
  refine aw_aload_n dX2_copyFrom_0 rfl ?_
  refine aw_get fl_X2_9 dX2_copyFrom_1 e_2 (lti rfl hn) rfl ?_
  refine aw_aload_n dX2_copyFrom_4 rfl ?_
  refine aw_get fl_X2_9 dX2_copyFrom_5 e_73 (lti rfl hn) rfl ?_
  refine ap_callSv ks_X2_25 ko_X9_copyRow (cpw (fun _ => rfl) (fun _ => rfl) (lti rfl hn) (lti rfl hn) rfl) dX2_copyFrom_8 rfl rfl (ble' rfl) (by decide) ?_
  refine aw_aload_n dX2_copyFrom_11 rfl ?_
  refine aw_get fl_X2_15 dX2_copyFrom_12 e_2 (lti rfl hn) rfl ?_
  refine aw_aload_n dX2_copyFrom_15 rfl ?_
  refine aw_get fl_X2_15 dX2_copyFrom_16 e_73 (lti rfl hn) rfl ?_
  refine ap_callSv ks_X2_25 ko_X9_copyRow (cpw (fun _ => rfl) (fun _ => rfl) (lti rfl hn) (lti rfl hn) rfl) dX2_copyFrom_19 rfl rfl (ble' rfl) (by decide) ?_
  refine aw_aload_n dX2_copyFrom_22 rfl ?_
  refine aw_get fl_X2_18 dX2_copyFrom_23 e_2 (lti rfl hn) rfl ?_
  refine aw_aload_n dX2_copyFrom_26 rfl ?_
  refine aw_get fl_X2_18 dX2_copyFrom_27 e_73 (lti rfl hn) rfl ?_
  refine ap_callSv ks_X2_25 ko_X9_copyRow (cpw (fun _ => rfl) (fun _ => rfl) (lti rfl hn) (lti rfl hn) rfl) dX2_copyFrom_30 rfl rfl (ble' rfl) (by decide) ?_
  refine aw_aload_n dX2_copyFrom_33 rfl ?_
  refine aw_aload_n dX2_copyFrom_34 rfl ?_
  refine aw_get fl_X2_21 dX2_copyFrom_35 e_2 (lti rfl hn) rfl ?_
  refine aw_put fp_X2_21_m dX2_copyFrom_38 e_73 (lti rfl hn) (ble' rfl) (fun _ => ⟨rfl, rfl⟩) (hwf rfl) ?_
  refine aw_vret rfl dX2_copyFrom_41 (ble' rfl) (ble' rfl) ?_
  exact pd_v rfl

def cpX7_72_1 (M : Nat → Nat → Int32) : Nat → Nat → Int32 := updM (updM (updM (M) 78 (va_cpy (M 7) (M 78) 0 0 16)) 79 (va_cpy (M 8) (M 79) 0 0 16)) 77 (upd (M 77) 2 (M 6 2))
set_option maxRecDepth 100000 in
set_option maxHeartbeats 4000000 in
theorem c_X7_copyFrom_72_1 {G : AG} {M : Nat → Nat → Int32} {n : Nat} (hn : 99 ≤ n) : AMet tX7_copyFrom yX7_copyFrom [Cond.code yX7_copyFrom cX7_copyFrom 2 none] [.ref 77, .ref 6] (wld G M) n (PD (.inl none) (wld G (cpX7_72_1 M)) n) := by
  refine am_of (lo := [_, _]) (by decide) rfl (fun q => by cases q) rfl rfl rfl ?_
  refine aw_aload_n dX7_copyFrom_0 rfl ?_
  refine aw_get fl_X7_9 dX7_copyFrom_1 e_6 (lti rfl hn) rfl ?_
  refine aw_aload_n dX7_copyFrom_4 rfl ?_
  refine aw_get fl_X7_9 dX7_copyFrom_5 e_77 (lti rfl hn) rfl ?_
  refine ap_callSv ks_X7_22 ko_X9_copyRow (cpw (fun _ => rfl) (fun _ => rfl) (lti rfl hn) (lti rfl hn) rfl) dX7_copyFrom_8 rfl rfl (ble' rfl) (by decide) ?_
  refine aw_aload_n dX7_copyFrom_11 rfl ?_
  refine aw_get fl_X7_15 dX7_copyFrom_12 e_6 (lti rfl hn) rfl ?_
  refine aw_aload_n dX7_copyFrom_15 rfl ?_
  refine aw_get fl_X7_15 dX7_copyFrom_16 e_77 (lti rfl hn) rfl ?_
  refine ap_callSv ks_X7_22 ko_X9_copyRow (cpw (fun _ => rfl) (fun _ => rfl) (lti rfl hn) (lti rfl hn) rfl) dX7_copyFrom_19 rfl rfl (ble' rfl) (by decide) ?_
  refine aw_aload_n dX7_copyFrom_22 rfl ?_
  refine aw_aload_n dX7_copyFrom_23 rfl ?_
  refine aw_get fl_X7_18 dX7_copyFrom_24 e_6 (lti rfl hn) rfl ?_
  refine aw_put fp_X7_18_m dX7_copyFrom_27 e_77 (lti rfl hn) (ble' rfl) (fun _ => ⟨rfl, rfl⟩) (hwf rfl) ?_
  refine aw_vret rfl dX7_copyFrom_30 (ble' rfl) (ble' rfl) ?_
  exact pd_v rfl

def cpX5_72_1 (M : Nat → Nat → Int32) : Nat → Nat → Int32 := updM (updM (updM (updM (updM (updM (M) 81 (va_cpy (M 10) (M 81) 0 0 12)) 82 (va_cpy (M 11) (M 82) 0 0 12)) 83 (va_cpy (M 12) (M 83) 0 0 12)) 84 (va_cpy (M 13) (M 84) 0 0 12)) 85 (va_cpy (M 14) (M 85) 0 0 12)) 80 (upd (M 80) 5 (M 9 5))
set_option maxRecDepth 100000 in
set_option maxHeartbeats 4000000 in
theorem c_X5_copyFrom_72_1 {G : AG} {M : Nat → Nat → Int32} {n : Nat} (hn : 99 ≤ n) : AMet tX5_copyFrom yX5_copyFrom [Cond.code yX5_copyFrom cX5_copyFrom 2 none] [.ref 80, .ref 9] (wld G M) n (PD (.inl none) (wld G (cpX5_72_1 M)) n) := by
  refine am_of (lo := [_, _]) (by decide) rfl (fun q => by cases q) rfl rfl rfl ?_
  refine aw_aload_n dX5_copyFrom_0 rfl ?_
  refine aw_get fl_X5_9 dX5_copyFrom_1 e_9 (lti rfl hn) rfl ?_
  refine aw_aload_n dX5_copyFrom_4 rfl ?_
  refine aw_get fl_X5_9 dX5_copyFrom_5 e_80 (lti rfl hn) rfl ?_
  refine ap_callSv ks_X5_38 ko_X9_copyRow (cpw (fun _ => rfl) (fun _ => rfl) (lti rfl hn) (lti rfl hn) rfl) dX5_copyFrom_8 rfl rfl (ble' rfl) (by decide) ?_
  refine aw_aload_n dX5_copyFrom_11 rfl ?_
  refine aw_get fl_X5_15 dX5_copyFrom_12 e_9 (lti rfl hn) rfl ?_
  refine aw_aload_n dX5_copyFrom_15 rfl ?_
  refine aw_get fl_X5_15 dX5_copyFrom_16 e_80 (lti rfl hn) rfl ?_
  refine ap_callSv ks_X5_38 ko_X9_copyRow (cpw (fun _ => rfl) (fun _ => rfl) (lti rfl hn) (lti rfl hn) rfl) dX5_copyFrom_19 rfl rfl (ble' rfl) (by decide) ?_
  refine aw_aload_n dX5_copyFrom_22 rfl ?_
  refine aw_get fl_X5_18 dX5_copyFrom_23 e_9 (lti rfl hn) rfl ?_
  refine aw_aload_n dX5_copyFrom_26 rfl ?_
  refine aw_get fl_X5_18 dX5_copyFrom_27 e_80 (lti rfl hn) rfl ?_
  refine ap_callSv ks_X5_38 ko_X9_copyRow (cpw (fun _ => rfl) (fun _ => rfl) (lti rfl hn) (lti rfl hn) rfl) dX5_copyFrom_30 rfl rfl (ble' rfl) (by decide) ?_
  refine aw_aload_n dX5_copyFrom_33 rfl ?_
  refine aw_get fl_X5_21 dX5_copyFrom_34 e_9 (lti rfl hn) rfl ?_
  refine aw_aload_n dX5_copyFrom_37 rfl ?_
  refine aw_get fl_X5_21 dX5_copyFrom_38 e_80 (lti rfl hn) rfl ?_
  refine ap_callSv ks_X5_38 ko_X9_copyRow (cpw (fun _ => rfl) (fun _ => rfl) (lti rfl hn) (lti rfl hn) rfl) dX5_copyFrom_41 rfl rfl (ble' rfl) (by decide) ?_
  refine aw_aload_n dX5_copyFrom_44 rfl ?_
  refine aw_get fl_X5_24 dX5_copyFrom_45 e_9 (lti rfl hn) rfl ?_
  refine aw_aload_n dX5_copyFrom_48 rfl ?_
  refine aw_get fl_X5_24 dX5_copyFrom_49 e_80 (lti rfl hn) rfl ?_
  refine ap_callSv ks_X5_38 ko_X9_copyRow (cpw (fun _ => rfl) (fun _ => rfl) (lti rfl hn) (lti rfl hn) rfl) dX5_copyFrom_52 rfl rfl (ble' rfl) (by decide) ?_
  refine aw_aload_n dX5_copyFrom_55 rfl ?_
  refine aw_aload_n dX5_copyFrom_56 rfl ?_
  refine aw_get fl_X5_27 dX5_copyFrom_57 e_9 (lti rfl hn) rfl ?_
  refine aw_put fp_X5_27_m dX5_copyFrom_60 e_80 (lti rfl hn) (ble' rfl) (fun _ => ⟨rfl, rfl⟩) (hwf rfl) ?_
  refine aw_vret rfl dX5_copyFrom_63 (ble' rfl) (ble' rfl) ?_
  exact pd_v rfl

def cpX0_72_1 (M : Nat → Nat → Int32) : Nat → Nat → Int32 := updM (updM (updM (updM (updM (updM (updM (M) 87 (va_cpy (M 16) (M 87) 0 0 60)) 88 (va_cpy (M 17) (M 88) 0 0 60)) 89 (va_cpy (M 18) (M 89) 0 0 60)) 90 (va_cpy (M 19) (M 90) 0 0 60)) 91 (va_cpy (M 20) (M 91) 0 0 60)) 92 (va_cpy (M 21) (M 92) 0 0 60)) 86 (upd (M 86) 6 (M 15 6))
set_option maxRecDepth 100000 in
set_option maxHeartbeats 4000000 in
theorem c_X0_copyFrom_72_1 {G : AG} {M : Nat → Nat → Int32} {n : Nat} (hn : 99 ≤ n) : AMet tX0_copyFrom yX0_copyFrom [Cond.code yX0_copyFrom cX0_copyFrom 2 none] [.ref 86, .ref 15] (wld G M) n (PD (.inl none) (wld G (cpX0_72_1 M)) n) := by
  refine am_of (lo := [_, _]) (by decide) rfl (fun q => by cases q) rfl rfl rfl ?_
  refine aw_aload_n dX0_copyFrom_0 rfl ?_
  refine aw_get fl_X0_9 dX0_copyFrom_1 e_15 (lti rfl hn) rfl ?_
  refine aw_aload_n dX0_copyFrom_4 rfl ?_
  refine aw_get fl_X0_9 dX0_copyFrom_5 e_86 (lti rfl hn) rfl ?_
  refine ap_callSv ks_X0_38 ko_X9_copyRow (cpw (fun _ => rfl) (fun _ => rfl) (lti rfl hn) (lti rfl hn) rfl) dX0_copyFrom_8 rfl rfl (ble' rfl) (by decide) ?_
  refine aw_aload_n dX0_copyFrom_11 rfl ?_
  refine aw_get fl_X0_15 dX0_copyFrom_12 e_15 (lti rfl hn) rfl ?_
  refine aw_aload_n dX0_copyFrom_15 rfl ?_
  refine aw_get fl_X0_15 dX0_copyFrom_16 e_86 (lti rfl hn) rfl ?_
  refine ap_callSv ks_X0_38 ko_X9_copyRow (cpw (fun _ => rfl) (fun _ => rfl) (lti rfl hn) (lti rfl hn) rfl) dX0_copyFrom_19 rfl rfl (ble' rfl) (by decide) ?_
  refine aw_aload_n dX0_copyFrom_22 rfl ?_
  refine aw_get fl_X0_18 dX0_copyFrom_23 e_15 (lti rfl hn) rfl ?_
  refine aw_aload_n dX0_copyFrom_26 rfl ?_
  refine aw_get fl_X0_18 dX0_copyFrom_27 e_86 (lti rfl hn) rfl ?_
  refine ap_callSv ks_X0_38 ko_X9_copyRow (cpw (fun _ => rfl) (fun _ => rfl) (lti rfl hn) (lti rfl hn) rfl) dX0_copyFrom_30 rfl rfl (ble' rfl) (by decide) ?_
  refine aw_aload_n dX0_copyFrom_33 rfl ?_
  refine aw_get fl_X0_21 dX0_copyFrom_34 e_15 (lti rfl hn) rfl ?_
  refine aw_aload_n dX0_copyFrom_37 rfl ?_
  refine aw_get fl_X0_21 dX0_copyFrom_38 e_86 (lti rfl hn) rfl ?_
  refine ap_callSv ks_X0_38 ko_X9_copyRow (cpw (fun _ => rfl) (fun _ => rfl) (lti rfl hn) (lti rfl hn) rfl) dX0_copyFrom_41 rfl rfl (ble' rfl) (by decide) ?_
  refine aw_aload_n dX0_copyFrom_44 rfl ?_
  refine aw_get fl_X0_24 dX0_copyFrom_45 e_15 (lti rfl hn) rfl ?_
  refine aw_aload_n dX0_copyFrom_48 rfl ?_
  refine aw_get fl_X0_24 dX0_copyFrom_49 e_86 (lti rfl hn) rfl ?_
  refine ap_callSv ks_X0_38 ko_X9_copyRow (cpw (fun _ => rfl) (fun _ => rfl) (lti rfl hn) (lti rfl hn) rfl) dX0_copyFrom_52 rfl rfl (ble' rfl) (by decide) ?_
  refine aw_aload_n dX0_copyFrom_55 rfl ?_
  refine aw_get fl_X0_27 dX0_copyFrom_56 e_15 (lti rfl hn) rfl ?_
  refine aw_aload_n dX0_copyFrom_59 rfl ?_
  refine aw_get fl_X0_27 dX0_copyFrom_60 e_86 (lti rfl hn) rfl ?_
  refine ap_callSv ks_X0_38 ko_X9_copyRow (cpw (fun _ => rfl) (fun _ => rfl) (lti rfl hn) (lti rfl hn) rfl) dX0_copyFrom_63 rfl rfl (ble' rfl) (by decide) ?_
  refine aw_aload_n dX0_copyFrom_66 rfl ?_
  refine aw_aload_n dX0_copyFrom_67 rfl ?_
  refine aw_get fl_X0_30 dX0_copyFrom_68 e_15 (lti rfl hn) rfl ?_
  refine aw_put fp_X0_30_m dX0_copyFrom_71 e_86 (lti rfl hn) (ble' rfl) (fun _ => ⟨rfl, rfl⟩) (hwf rfl) ?_
  refine aw_vret rfl dX0_copyFrom_74 (ble' rfl) (ble' rfl) ?_
  exact pd_v rfl

def cpX4_72_1 (M : Nat → Nat → Int32) : Nat → Nat → Int32 := updM (updM (updM (updM (updM (updM (M) 94 (va_cpy (M 23) (M 94) 0 0 20)) 95 (va_cpy (M 24) (M 95) 0 0 20)) 96 (va_cpy (M 25) (M 96) 0 0 20)) 97 (va_cpy (M 26) (M 97) 0 0 20)) 98 (va_cpy (M 27) (M 98) 0 0 20)) 93 (upd (M 93) 5 (M 22 5))
set_option maxRecDepth 100000 in
set_option maxHeartbeats 4000000 in
theorem c_X4_copyFrom_72_1 {G : AG} {M : Nat → Nat → Int32} {n : Nat} (hn : 99 ≤ n) : AMet tX4_copyFrom yX4_copyFrom [Cond.code yX4_copyFrom cX4_copyFrom 2 none] [.ref 93, .ref 22] (wld G M) n (PD (.inl none) (wld G (cpX4_72_1 M)) n) := by
  refine am_of (lo := [_, _]) (by decide) rfl (fun q => by cases q) rfl rfl rfl ?_
  refine aw_aload_n dX4_copyFrom_0 rfl ?_
  refine aw_get fl_X4_9 dX4_copyFrom_1 e_22 (lti rfl hn) rfl ?_
  refine aw_aload_n dX4_copyFrom_4 rfl ?_
  refine aw_get fl_X4_9 dX4_copyFrom_5 e_93 (lti rfl hn) rfl ?_
  refine ap_callSv ks_X4_31 ko_X9_copyRow (cpw (fun _ => rfl) (fun _ => rfl) (lti rfl hn) (lti rfl hn) rfl) dX4_copyFrom_8 rfl rfl (ble' rfl) (by decide) ?_
  refine aw_aload_n dX4_copyFrom_11 rfl ?_
  refine aw_get fl_X4_15 dX4_copyFrom_12 e_22 (lti rfl hn) rfl ?_
  refine aw_aload_n dX4_copyFrom_15 rfl ?_
  refine aw_get fl_X4_15 dX4_copyFrom_16 e_93 (lti rfl hn) rfl ?_
  refine ap_callSv ks_X4_31 ko_X9_copyRow (cpw (fun _ => rfl) (fun _ => rfl) (lti rfl hn) (lti rfl hn) rfl) dX4_copyFrom_19 rfl rfl (ble' rfl) (by decide) ?_
  refine aw_aload_n dX4_copyFrom_22 rfl ?_
  refine aw_get fl_X4_18 dX4_copyFrom_23 e_22 (lti rfl hn) rfl ?_
  refine aw_aload_n dX4_copyFrom_26 rfl ?_
  refine aw_get fl_X4_18 dX4_copyFrom_27 e_93 (lti rfl hn) rfl ?_
  refine ap_callSv ks_X4_31 ko_X9_copyRow (cpw (fun _ => rfl) (fun _ => rfl) (lti rfl hn) (lti rfl hn) rfl) dX4_copyFrom_30 rfl rfl (ble' rfl) (by decide) ?_
  refine aw_aload_n dX4_copyFrom_33 rfl ?_
  refine aw_get fl_X4_21 dX4_copyFrom_34 e_22 (lti rfl hn) rfl ?_
  refine aw_aload_n dX4_copyFrom_37 rfl ?_
  refine aw_get fl_X4_21 dX4_copyFrom_38 e_93 (lti rfl hn) rfl ?_
  refine ap_callSv ks_X4_31 ko_X9_copyRow (cpw (fun _ => rfl) (fun _ => rfl) (lti rfl hn) (lti rfl hn) rfl) dX4_copyFrom_41 rfl rfl (ble' rfl) (by decide) ?_
  refine aw_aload_n dX4_copyFrom_44 rfl ?_
  refine aw_get fl_X4_24 dX4_copyFrom_45 e_22 (lti rfl hn) rfl ?_
  refine aw_aload_n dX4_copyFrom_48 rfl ?_
  refine aw_get fl_X4_24 dX4_copyFrom_49 e_93 (lti rfl hn) rfl ?_
  refine ap_callSv ks_X4_31 ko_X9_copyRow (cpw (fun _ => rfl) (fun _ => rfl) (lti rfl hn) (lti rfl hn) rfl) dX4_copyFrom_52 rfl rfl (ble' rfl) (by decide) ?_
  refine aw_aload_n dX4_copyFrom_55 rfl ?_
  refine aw_aload_n dX4_copyFrom_56 rfl ?_
  refine aw_get fl_X4_27 dX4_copyFrom_57 e_22 (lti rfl hn) rfl ?_
  refine aw_put fp_X4_27_m dX4_copyFrom_60 e_93 (lti rfl hn) (ble' rfl) (fun _ => ⟨rfl, rfl⟩) (hwf rfl) ?_
  refine aw_vret rfl dX4_copyFrom_63 (ble' rfl) (ble' rfl) ?_
  exact pd_v rfl

/-- the camp 1 copied over the camp 72 -/
def cp_72_1 (M : Nat → Nat → Int32) : Nat → Nat → Int32 := updM (updM (updM (updM (updM (updM (updM (updM (updM (updM (updM (updM (updM (updM (updM (updM (updM (updM (updM (updM (updM (updM (updM (updM (updM (updM (updM (M) 74 (va_cpy (M 3) (M 74) 0 0 4)) 75 (va_cpy (M 4) (M 75) 0 0 4)) 76 (va_cpy (M 5) (M 76) 0 0 4)) 73 (upd (M 73) 3 (M 2 3))) 78 (va_cpy (M 7) (M 78) 0 0 16)) 79 (va_cpy (M 8) (M 79) 0 0 16)) 77 (upd (M 77) 2 (M 6 2))) 81 (va_cpy (M 10) (M 81) 0 0 12)) 82 (va_cpy (M 11) (M 82) 0 0 12)) 83 (va_cpy (M 12) (M 83) 0 0 12)) 84 (va_cpy (M 13) (M 84) 0 0 12)) 85 (va_cpy (M 14) (M 85) 0 0 12)) 80 (upd (M 80) 5 (M 9 5))) 87 (va_cpy (M 16) (M 87) 0 0 60)) 88 (va_cpy (M 17) (M 88) 0 0 60)) 89 (va_cpy (M 18) (M 89) 0 0 60)) 90 (va_cpy (M 19) (M 90) 0 0 60)) 91 (va_cpy (M 20) (M 91) 0 0 60)) 92 (va_cpy (M 21) (M 92) 0 0 60)) 86 (upd (M 86) 6 (M 15 6))) 94 (va_cpy (M 23) (M 94) 0 0 20)) 95 (va_cpy (M 24) (M 95) 0 0 20)) 96 (va_cpy (M 25) (M 96) 0 0 20)) 97 (va_cpy (M 26) (M 97) 0 0 20)) 98 (va_cpy (M 27) (M 98) 0 0 20)) 93 (upd (M 93) 5 (M 22 5))) 72 (upd (M 72) 5 (M 1 5))
set_option maxRecDepth 100000 in
set_option maxHeartbeats 4000000 in
theorem c_X1_copyFrom_72_1 {G : AG} {M : Nat → Nat → Int32} {n : Nat} (hn : 99 ≤ n) : AMet tX1_copyFrom yX1_copyFrom [Cond.code yX1_copyFrom cX1_copyFrom 2 none] [.ref 72, .ref 1] (wld G M) n (PD (.inl none) (wld G (cp_72_1 M)) n) := by
  refine am_of (lo := [_, _]) (by decide) rfl (fun q => by cases q) rfl rfl rfl ?_
  refine aw_aload_n dX1_copyFrom_0 rfl ?_
  refine aw_get fl_X1_12 dX1_copyFrom_1 e_72 (lti rfl hn) rfl ?_
  refine aw_aload_n dX1_copyFrom_4 rfl ?_
  refine aw_get fl_X1_12 dX1_copyFrom_5 e_1 (lti rfl hn) rfl ?_
  refine ap_callVv kv_X1_57 ko_X2_copyFrom (c_X2_copyFrom_72_1 hn) dX1_copyFrom_8 e_73 (lti rfl hn) rfl rfl rfl rfl (ble' rfl) (by decide) ?_
  refine aw_aload_n dX1_copyFrom_11 rfl ?_
  refine aw_get fl_X1_21 dX1_copyFrom_12 e_72 (lti rfl hn) rfl ?_
  refine aw_aload_n dX1_copyFrom_15 rfl ?_
  refine aw_get fl_X1_21 dX1_copyFrom_16 e_1 (lti rfl hn) rfl ?_
  refine ap_callVv kv_X1_61 ko_X7_copyFrom (c_X7_copyFrom_72_1 hn) dX1_copyFrom_19 e_77 (lti rfl hn) rfl rfl rfl rfl (ble' rfl) (by decide) ?_
  refine aw_aload_n dX1_copyFrom_22 rfl ?_
  refine aw_get fl_X1_28 dX1_copyFrom_23 e_72 (lti rfl hn) rfl ?_
  refine aw_aload_n dX1_copyFrom_26 rfl ?_
  refine aw_get fl_X1_28 dX1_copyFrom_27 e_1 (lti rfl hn) rfl ?_
  refine ap_callVv kv_X1_64 ko_X5_copyFrom (c_X5_copyFrom_72_1 hn) dX1_copyFrom_30 e_80 (lti rfl hn) rfl rfl rfl rfl (ble' rfl) (by decide) ?_
  refine aw_aload_n dX1_copyFrom_33 rfl ?_
  refine aw_get fl_X1_35 dX1_copyFrom_34 e_72 (lti rfl hn) rfl ?_
  refine aw_aload_n dX1_copyFrom_37 rfl ?_
  refine aw_get fl_X1_35 dX1_copyFrom_38 e_1 (lti rfl hn) rfl ?_
  refine ap_callVv kv_X1_67 ko_X0_copyFrom (c_X0_copyFrom_72_1 hn) dX1_copyFrom_41 e_86 (lti rfl hn) rfl rfl rfl rfl (ble' rfl) (by decide) ?_
  refine aw_aload_n dX1_copyFrom_44 rfl ?_
  refine aw_get fl_X1_42 dX1_copyFrom_45 e_72 (lti rfl hn) rfl ?_
  refine aw_aload_n dX1_copyFrom_48 rfl ?_
  refine aw_get fl_X1_42 dX1_copyFrom_49 e_1 (lti rfl hn) rfl ?_
  refine ap_callVv kv_X1_70 ko_X4_copyFrom (c_X4_copyFrom_72_1 hn) dX1_copyFrom_52 e_93 (lti rfl hn) rfl rfl rfl rfl (ble' rfl) (by decide) ?_
  refine aw_aload_n dX1_copyFrom_55 rfl ?_
  refine aw_aload_n dX1_copyFrom_56 rfl ?_
  refine aw_get fl_X1_46 dX1_copyFrom_57 e_1 (lti rfl hn) rfl ?_
  refine aw_put fp_X1_46_m dX1_copyFrom_60 e_72 (lti rfl hn) (ble' rfl) (fun _ => ⟨rfl, rfl⟩) (hwf rfl) ?_
  refine aw_vret rfl dX1_copyFrom_63 (ble' rfl) (ble' rfl) ?_
  exact pd_v rfl

def cpX2_99_1 (M : Nat → Nat → Int32) : Nat → Nat → Int32 := updM (updM (updM (updM (M) 101 (va_cpy (M 3) (M 101) 0 0 4)) 102 (va_cpy (M 4) (M 102) 0 0 4)) 103 (va_cpy (M 5) (M 103) 0 0 4)) 100 (upd (M 100) 3 (M 2 3))
set_option maxRecDepth 100000 in
set_option maxHeartbeats 4000000 in
theorem c_X2_copyFrom_99_1 {G : AG} {M : Nat → Nat → Int32} {n : Nat} (hn : 126 ≤ n) : AMet tX2_copyFrom yX2_copyFrom [Cond.code yX2_copyFrom cX2_copyFrom 2 none] [.ref 100, .ref 2] (wld G M) n (PD (.inl none) (wld G (cpX2_99_1 M)) n) := by
  refine am_of (lo := [_, _]) (by decide) rfl (fun q => by cases q) rfl rfl rfl ?_
  refine aw_aload_n dX2_copyFrom_0 rfl ?_
  refine aw_get fl_X2_9 dX2_copyFrom_1 e_2 (lti rfl hn) rfl ?_
  refine aw_aload_n dX2_copyFrom_4 rfl ?_
  refine aw_get fl_X2_9 dX2_copyFrom_5 e_100 (lti rfl hn) rfl ?_
  refine ap_callSv ks_X2_25 ko_X9_copyRow (cpw (fun _ => rfl) (fun _ => rfl) (lti rfl hn) (lti rfl hn) rfl) dX2_copyFrom_8 rfl rfl (ble' rfl) (by decide) ?_
  refine aw_aload_n dX2_copyFrom_11 rfl ?_
  refine aw_get fl_X2_15 dX2_copyFrom_12 e_2 (lti rfl hn) rfl ?_
  refine aw_aload_n dX2_copyFrom_15 rfl ?_
  refine aw_get fl_X2_15 dX2_copyFrom_16 e_100 (lti rfl hn) rfl ?_
  refine ap_callSv ks_X2_25 ko_X9_copyRow (cpw (fun _ => rfl) (fun _ => rfl) (lti rfl hn) (lti rfl hn) rfl) dX2_copyFrom_19 rfl rfl (ble' rfl) (by decide) ?_
  refine aw_aload_n dX2_copyFrom_22 rfl ?_
  refine aw_get fl_X2_18 dX2_copyFrom_23 e_2 (lti rfl hn) rfl ?_
  refine aw_aload_n dX2_copyFrom_26 rfl ?_
  refine aw_get fl_X2_18 dX2_copyFrom_27 e_100 (lti rfl hn) rfl ?_
  refine ap_callSv ks_X2_25 ko_X9_copyRow (cpw (fun _ => rfl) (fun _ => rfl) (lti rfl hn) (lti rfl hn) rfl) dX2_copyFrom_30 rfl rfl (ble' rfl) (by decide) ?_
  refine aw_aload_n dX2_copyFrom_33 rfl ?_
  refine aw_aload_n dX2_copyFrom_34 rfl ?_
  refine aw_get fl_X2_21 dX2_copyFrom_35 e_2 (lti rfl hn) rfl ?_
  refine aw_put fp_X2_21_m dX2_copyFrom_38 e_100 (lti rfl hn) (ble' rfl) (fun _ => ⟨rfl, rfl⟩) (hwf rfl) ?_
  refine aw_vret rfl dX2_copyFrom_41 (ble' rfl) (ble' rfl) ?_
  exact pd_v rfl

def cpX7_99_1 (M : Nat → Nat → Int32) : Nat → Nat → Int32 := updM (updM (updM (M) 105 (va_cpy (M 7) (M 105) 0 0 16)) 106 (va_cpy (M 8) (M 106) 0 0 16)) 104 (upd (M 104) 2 (M 6 2))
set_option maxRecDepth 100000 in
set_option maxHeartbeats 4000000 in
theorem c_X7_copyFrom_99_1 {G : AG} {M : Nat → Nat → Int32} {n : Nat} (hn : 126 ≤ n) : AMet tX7_copyFrom yX7_copyFrom [Cond.code yX7_copyFrom cX7_copyFrom 2 none] [.ref 104, .ref 6] (wld G M) n (PD (.inl none) (wld G (cpX7_99_1 M)) n) := by
  refine am_of (lo := [_, _]) (by decide) rfl (fun q => by cases q) rfl rfl rfl ?_
  refine aw_aload_n dX7_copyFrom_0 rfl ?_
  refine aw_get fl_X7_9 dX7_copyFrom_1 e_6 (lti rfl hn) rfl ?_
  refine aw_aload_n dX7_copyFrom_4 rfl ?_
  refine aw_get fl_X7_9 dX7_copyFrom_5 e_104 (lti rfl hn) rfl ?_
  refine ap_callSv ks_X7_22 ko_X9_copyRow (cpw (fun _ => rfl) (fun _ => rfl) (lti rfl hn) (lti rfl hn) rfl) dX7_copyFrom_8 rfl rfl (ble' rfl) (by decide) ?_
  refine aw_aload_n dX7_copyFrom_11 rfl ?_
  refine aw_get fl_X7_15 dX7_copyFrom_12 e_6 (lti rfl hn) rfl ?_
  refine aw_aload_n dX7_copyFrom_15 rfl ?_
  refine aw_get fl_X7_15 dX7_copyFrom_16 e_104 (lti rfl hn) rfl ?_
  refine ap_callSv ks_X7_22 ko_X9_copyRow (cpw (fun _ => rfl) (fun _ => rfl) (lti rfl hn) (lti rfl hn) rfl) dX7_copyFrom_19 rfl rfl (ble' rfl) (by decide) ?_
  refine aw_aload_n dX7_copyFrom_22 rfl ?_
  refine aw_aload_n dX7_copyFrom_23 rfl ?_
  refine aw_get fl_X7_18 dX7_copyFrom_24 e_6 (lti rfl hn) rfl ?_
  refine aw_put fp_X7_18_m dX7_copyFrom_27 e_104 (lti rfl hn) (ble' rfl) (fun _ => ⟨rfl, rfl⟩) (hwf rfl) ?_
  refine aw_vret rfl dX7_copyFrom_30 (ble' rfl) (ble' rfl) ?_
  exact pd_v rfl

def cpX5_99_1 (M : Nat → Nat → Int32) : Nat → Nat → Int32 := updM (updM (updM (updM (updM (updM (M) 108 (va_cpy (M 10) (M 108) 0 0 12)) 109 (va_cpy (M 11) (M 109) 0 0 12)) 110 (va_cpy (M 12) (M 110) 0 0 12)) 111 (va_cpy (M 13) (M 111) 0 0 12)) 112 (va_cpy (M 14) (M 112) 0 0 12)) 107 (upd (M 107) 5 (M 9 5))
set_option maxRecDepth 100000 in
set_option maxHeartbeats 4000000 in
theorem c_X5_copyFrom_99_1 {G : AG} {M : Nat → Nat → Int32} {n : Nat} (hn : 126 ≤ n) : AMet tX5_copyFrom yX5_copyFrom [Cond.code yX5_copyFrom cX5_copyFrom 2 none] [.ref 107, .ref 9] (wld G M) n (PD (.inl none) (wld G (cpX5_99_1 M)) n) := by
  refine am_of (lo := [_, _]) (by decide) rfl (fun q => by cases q) rfl rfl rfl ?_
  refine aw_aload_n dX5_copyFrom_0 rfl ?_
  refine aw_get fl_X5_9 dX5_copyFrom_1 e_9 (lti rfl hn) rfl ?_
  refine aw_aload_n dX5_copyFrom_4 rfl ?_
  refine aw_get fl_X5_9 dX5_copyFrom_5 e_107 (lti rfl hn) rfl ?_
  refine ap_callSv ks_X5_38 ko_X9_copyRow (cpw (fun _ => rfl) (fun _ => rfl) (lti rfl hn) (lti rfl hn) rfl) dX5_copyFrom_8 rfl rfl (ble' rfl) (by decide) ?_
  refine aw_aload_n dX5_copyFrom_11 rfl ?_
  refine aw_get fl_X5_15 dX5_copyFrom_12 e_9 (lti rfl hn) rfl ?_
  refine aw_aload_n dX5_copyFrom_15 rfl ?_
  refine aw_get fl_X5_15 dX5_copyFrom_16 e_107 (lti rfl hn) rfl ?_
  refine ap_callSv ks_X5_38 ko_X9_copyRow (cpw (fun _ => rfl) (fun _ => rfl) (lti rfl hn) (lti rfl hn) rfl) dX5_copyFrom_19 rfl rfl (ble' rfl) (by decide) ?_
  refine aw_aload_n dX5_copyFrom_22 rfl ?_
  refine aw_get fl_X5_18 dX5_copyFrom_23 e_9 (lti rfl hn) rfl ?_
  refine aw_aload_n dX5_copyFrom_26 rfl ?_
  refine aw_get fl_X5_18 dX5_copyFrom_27 e_107 (lti rfl hn) rfl ?_
  refine ap_callSv ks_X5_38 ko_X9_copyRow (cpw (fun _ => rfl) (fun _ => rfl) (lti rfl hn) (lti rfl hn) rfl) dX5_copyFrom_30 rfl rfl (ble' rfl) (by decide) ?_
  refine aw_aload_n dX5_copyFrom_33 rfl ?_
  refine aw_get fl_X5_21 dX5_copyFrom_34 e_9 (lti rfl hn) rfl ?_
  refine aw_aload_n dX5_copyFrom_37 rfl ?_
  refine aw_get fl_X5_21 dX5_copyFrom_38 e_107 (lti rfl hn) rfl ?_
  refine ap_callSv ks_X5_38 ko_X9_copyRow (cpw (fun _ => rfl) (fun _ => rfl) (lti rfl hn) (lti rfl hn) rfl) dX5_copyFrom_41 rfl rfl (ble' rfl) (by decide) ?_
  refine aw_aload_n dX5_copyFrom_44 rfl ?_
  refine aw_get fl_X5_24 dX5_copyFrom_45 e_9 (lti rfl hn) rfl ?_
  refine aw_aload_n dX5_copyFrom_48 rfl ?_
  refine aw_get fl_X5_24 dX5_copyFrom_49 e_107 (lti rfl hn) rfl ?_
  refine ap_callSv ks_X5_38 ko_X9_copyRow (cpw (fun _ => rfl) (fun _ => rfl) (lti rfl hn) (lti rfl hn) rfl) dX5_copyFrom_52 rfl rfl (ble' rfl) (by decide) ?_
  refine aw_aload_n dX5_copyFrom_55 rfl ?_
  refine aw_aload_n dX5_copyFrom_56 rfl ?_
  refine aw_get fl_X5_27 dX5_copyFrom_57 e_9 (lti rfl hn) rfl ?_
  refine aw_put fp_X5_27_m dX5_copyFrom_60 e_107 (lti rfl hn) (ble' rfl) (fun _ => ⟨rfl, rfl⟩) (hwf rfl) ?_
  refine aw_vret rfl dX5_copyFrom_63 (ble' rfl) (ble' rfl) ?_
  exact pd_v rfl

def cpX0_99_1 (M : Nat → Nat → Int32) : Nat → Nat → Int32 := updM (updM (updM (updM (updM (updM (updM (M) 114 (va_cpy (M 16) (M 114) 0 0 60)) 115 (va_cpy (M 17) (M 115) 0 0 60)) 116 (va_cpy (M 18) (M 116) 0 0 60)) 117 (va_cpy (M 19) (M 117) 0 0 60)) 118 (va_cpy (M 20) (M 118) 0 0 60)) 119 (va_cpy (M 21) (M 119) 0 0 60)) 113 (upd (M 113) 6 (M 15 6))
set_option maxRecDepth 100000 in
set_option maxHeartbeats 4000000 in
theorem c_X0_copyFrom_99_1 {G : AG} {M : Nat → Nat → Int32} {n : Nat} (hn : 126 ≤ n) : AMet tX0_copyFrom yX0_copyFrom [Cond.code yX0_copyFrom cX0_copyFrom 2 none] [.ref 113, .ref 15] (wld G M) n (PD (.inl none) (wld G (cpX0_99_1 M)) n) := by
  refine am_of (lo := [_, _]) (by decide) rfl (fun q => by cases q) rfl rfl rfl ?_
  refine aw_aload_n dX0_copyFrom_0 rfl ?_
  refine aw_get fl_X0_9 dX0_copyFrom_1 e_15 (lti rfl hn) rfl ?_
  refine aw_aload_n dX0_copyFrom_4 rfl ?_
  refine aw_get fl_X0_9 dX0_copyFrom_5 e_113 (lti rfl hn) rfl ?_
  refine ap_callSv ks_X0_38 ko_X9_copyRow (cpw (fun _ => rfl) (fun _ => rfl) (lti rfl hn) (lti rfl hn) rfl) dX0_copyFrom_8 rfl rfl (ble' rfl) (by decide) ?_
  refine aw_aload_n dX0_copyFrom_11 rfl ?_
  refine aw_get fl_X0_15 dX0_copyFrom_12 e_15 (lti rfl hn) rfl ?_
  refine aw_aload_n dX0_copyFrom_15 rfl ?_
  refine aw_get fl_X0_15 dX0_copyFrom_16 e_113 (lti rfl hn) rfl ?_
  refine ap_callSv ks_X0_38 ko_X9_copyRow (cpw (fun _ => rfl) (fun _ => rfl) (lti rfl hn) (lti rfl hn) rfl) dX0_copyFrom_19 rfl rfl (ble' rfl) (by decide) ?_
  refine aw_aload_n dX0_copyFrom_22 rfl ?_
  refine aw_get fl_X0_18 dX0_copyFrom_23 e_15 (lti rfl hn) rfl ?_
  refine aw_aload_n dX0_copyFrom_26 rfl ?_
  refine aw_get fl_X0_18 dX0_copyFrom_27 e_113 (lti rfl hn) rfl ?_
  refine ap_callSv ks_X0_38 ko_X9_copyRow (cpw (fun _ => rfl) (fun _ => rfl) (lti rfl hn) (lti rfl hn) rfl) dX0_copyFrom_30 rfl rfl (ble' rfl) (by decide) ?_
  refine aw_aload_n dX0_copyFrom_33 rfl ?_
  refine aw_get fl_X0_21 dX0_copyFrom_34 e_15 (lti rfl hn) rfl ?_
  refine aw_aload_n dX0_copyFrom_37 rfl ?_
  refine aw_get fl_X0_21 dX0_copyFrom_38 e_113 (lti rfl hn) rfl ?_
  refine ap_callSv ks_X0_38 ko_X9_copyRow (cpw (fun _ => rfl) (fun _ => rfl) (lti rfl hn) (lti rfl hn) rfl) dX0_copyFrom_41 rfl rfl (ble' rfl) (by decide) ?_
  refine aw_aload_n dX0_copyFrom_44 rfl ?_
  refine aw_get fl_X0_24 dX0_copyFrom_45 e_15 (lti rfl hn) rfl ?_
  refine aw_aload_n dX0_copyFrom_48 rfl ?_
  refine aw_get fl_X0_24 dX0_copyFrom_49 e_113 (lti rfl hn) rfl ?_
  refine ap_callSv ks_X0_38 ko_X9_copyRow (cpw (fun _ => rfl) (fun _ => rfl) (lti rfl hn) (lti rfl hn) rfl) dX0_copyFrom_52 rfl rfl (ble' rfl) (by decide) ?_
  refine aw_aload_n dX0_copyFrom_55 rfl ?_
  refine aw_get fl_X0_27 dX0_copyFrom_56 e_15 (lti rfl hn) rfl ?_
  refine aw_aload_n dX0_copyFrom_59 rfl ?_
  refine aw_get fl_X0_27 dX0_copyFrom_60 e_113 (lti rfl hn) rfl ?_
  refine ap_callSv ks_X0_38 ko_X9_copyRow (cpw (fun _ => rfl) (fun _ => rfl) (lti rfl hn) (lti rfl hn) rfl) dX0_copyFrom_63 rfl rfl (ble' rfl) (by decide) ?_
  refine aw_aload_n dX0_copyFrom_66 rfl ?_
  refine aw_aload_n dX0_copyFrom_67 rfl ?_
  refine aw_get fl_X0_30 dX0_copyFrom_68 e_15 (lti rfl hn) rfl ?_
  refine aw_put fp_X0_30_m dX0_copyFrom_71 e_113 (lti rfl hn) (ble' rfl) (fun _ => ⟨rfl, rfl⟩) (hwf rfl) ?_
  refine aw_vret rfl dX0_copyFrom_74 (ble' rfl) (ble' rfl) ?_
  exact pd_v rfl

def cpX4_99_1 (M : Nat → Nat → Int32) : Nat → Nat → Int32 := updM (updM (updM (updM (updM (updM (M) 121 (va_cpy (M 23) (M 121) 0 0 20)) 122 (va_cpy (M 24) (M 122) 0 0 20)) 123 (va_cpy (M 25) (M 123) 0 0 20)) 124 (va_cpy (M 26) (M 124) 0 0 20)) 125 (va_cpy (M 27) (M 125) 0 0 20)) 120 (upd (M 120) 5 (M 22 5))
set_option maxRecDepth 100000 in
set_option maxHeartbeats 4000000 in
theorem c_X4_copyFrom_99_1 {G : AG} {M : Nat → Nat → Int32} {n : Nat} (hn : 126 ≤ n) : AMet tX4_copyFrom yX4_copyFrom [Cond.code yX4_copyFrom cX4_copyFrom 2 none] [.ref 120, .ref 22] (wld G M) n (PD (.inl none) (wld G (cpX4_99_1 M)) n) := by
  refine am_of (lo := [_, _]) (by decide) rfl (fun q => by cases q) rfl rfl rfl ?_
  refine aw_aload_n dX4_copyFrom_0 rfl ?_
  refine aw_get fl_X4_9 dX4_copyFrom_1 e_22 (lti rfl hn) rfl ?_
  refine aw_aload_n dX4_copyFrom_4 rfl ?_
  refine aw_get fl_X4_9 dX4_copyFrom_5 e_120 (lti rfl hn) rfl ?_
  refine ap_callSv ks_X4_31 ko_X9_copyRow (cpw (fun _ => rfl) (fun _ => rfl) (lti rfl hn) (lti rfl hn) rfl) dX4_copyFrom_8 rfl rfl (ble' rfl) (by decide) ?_
  refine aw_aload_n dX4_copyFrom_11 rfl ?_
  refine aw_get fl_X4_15 dX4_copyFrom_12 e_22 (lti rfl hn) rfl ?_
  refine aw_aload_n dX4_copyFrom_15 rfl ?_
  refine aw_get fl_X4_15 dX4_copyFrom_16 e_120 (lti rfl hn) rfl ?_
  refine ap_callSv ks_X4_31 ko_X9_copyRow (cpw (fun _ => rfl) (fun _ => rfl) (lti rfl hn) (lti rfl hn) rfl) dX4_copyFrom_19 rfl rfl (ble' rfl) (by decide) ?_
  refine aw_aload_n dX4_copyFrom_22 rfl ?_
  refine aw_get fl_X4_18 dX4_copyFrom_23 e_22 (lti rfl hn) rfl ?_
  refine aw_aload_n dX4_copyFrom_26 rfl ?_
  refine aw_get fl_X4_18 dX4_copyFrom_27 e_120 (lti rfl hn) rfl ?_
  refine ap_callSv ks_X4_31 ko_X9_copyRow (cpw (fun _ => rfl) (fun _ => rfl) (lti rfl hn) (lti rfl hn) rfl) dX4_copyFrom_30 rfl rfl (ble' rfl) (by decide) ?_
  refine aw_aload_n dX4_copyFrom_33 rfl ?_
  refine aw_get fl_X4_21 dX4_copyFrom_34 e_22 (lti rfl hn) rfl ?_
  refine aw_aload_n dX4_copyFrom_37 rfl ?_
  refine aw_get fl_X4_21 dX4_copyFrom_38 e_120 (lti rfl hn) rfl ?_
  refine ap_callSv ks_X4_31 ko_X9_copyRow (cpw (fun _ => rfl) (fun _ => rfl) (lti rfl hn) (lti rfl hn) rfl) dX4_copyFrom_41 rfl rfl (ble' rfl) (by decide) ?_
  refine aw_aload_n dX4_copyFrom_44 rfl ?_
  refine aw_get fl_X4_24 dX4_copyFrom_45 e_22 (lti rfl hn) rfl ?_
  refine aw_aload_n dX4_copyFrom_48 rfl ?_
  refine aw_get fl_X4_24 dX4_copyFrom_49 e_120 (lti rfl hn) rfl ?_
  refine ap_callSv ks_X4_31 ko_X9_copyRow (cpw (fun _ => rfl) (fun _ => rfl) (lti rfl hn) (lti rfl hn) rfl) dX4_copyFrom_52 rfl rfl (ble' rfl) (by decide) ?_
  refine aw_aload_n dX4_copyFrom_55 rfl ?_
  refine aw_aload_n dX4_copyFrom_56 rfl ?_
  refine aw_get fl_X4_27 dX4_copyFrom_57 e_22 (lti rfl hn) rfl ?_
  refine aw_put fp_X4_27_m dX4_copyFrom_60 e_120 (lti rfl hn) (ble' rfl) (fun _ => ⟨rfl, rfl⟩) (hwf rfl) ?_
  refine aw_vret rfl dX4_copyFrom_63 (ble' rfl) (ble' rfl) ?_
  exact pd_v rfl

/-- the camp 1 copied over the camp 99 -/
def cp_99_1 (M : Nat → Nat → Int32) : Nat → Nat → Int32 := updM (updM (updM (updM (updM (updM (updM (updM (updM (updM (updM (updM (updM (updM (updM (updM (updM (updM (updM (updM (updM (updM (updM (updM (updM (updM (updM (M) 101 (va_cpy (M 3) (M 101) 0 0 4)) 102 (va_cpy (M 4) (M 102) 0 0 4)) 103 (va_cpy (M 5) (M 103) 0 0 4)) 100 (upd (M 100) 3 (M 2 3))) 105 (va_cpy (M 7) (M 105) 0 0 16)) 106 (va_cpy (M 8) (M 106) 0 0 16)) 104 (upd (M 104) 2 (M 6 2))) 108 (va_cpy (M 10) (M 108) 0 0 12)) 109 (va_cpy (M 11) (M 109) 0 0 12)) 110 (va_cpy (M 12) (M 110) 0 0 12)) 111 (va_cpy (M 13) (M 111) 0 0 12)) 112 (va_cpy (M 14) (M 112) 0 0 12)) 107 (upd (M 107) 5 (M 9 5))) 114 (va_cpy (M 16) (M 114) 0 0 60)) 115 (va_cpy (M 17) (M 115) 0 0 60)) 116 (va_cpy (M 18) (M 116) 0 0 60)) 117 (va_cpy (M 19) (M 117) 0 0 60)) 118 (va_cpy (M 20) (M 118) 0 0 60)) 119 (va_cpy (M 21) (M 119) 0 0 60)) 113 (upd (M 113) 6 (M 15 6))) 121 (va_cpy (M 23) (M 121) 0 0 20)) 122 (va_cpy (M 24) (M 122) 0 0 20)) 123 (va_cpy (M 25) (M 123) 0 0 20)) 124 (va_cpy (M 26) (M 124) 0 0 20)) 125 (va_cpy (M 27) (M 125) 0 0 20)) 120 (upd (M 120) 5 (M 22 5))) 99 (upd (M 99) 5 (M 1 5))
set_option maxRecDepth 100000 in
set_option maxHeartbeats 4000000 in
theorem c_X1_copyFrom_99_1 {G : AG} {M : Nat → Nat → Int32} {n : Nat} (hn : 126 ≤ n) : AMet tX1_copyFrom yX1_copyFrom [Cond.code yX1_copyFrom cX1_copyFrom 2 none] [.ref 99, .ref 1] (wld G M) n (PD (.inl none) (wld G (cp_99_1 M)) n) := by
  refine am_of (lo := [_, _]) (by decide) rfl (fun q => by cases q) rfl rfl rfl ?_
  refine aw_aload_n dX1_copyFrom_0 rfl ?_
  refine aw_get fl_X1_12 dX1_copyFrom_1 e_99 (lti rfl hn) rfl ?_
  refine aw_aload_n dX1_copyFrom_4 rfl ?_
  refine aw_get fl_X1_12 dX1_copyFrom_5 e_1 (lti rfl hn) rfl ?_
  refine ap_callVv kv_X1_57 ko_X2_copyFrom (c_X2_copyFrom_99_1 hn) dX1_copyFrom_8 e_100 (lti rfl hn) rfl rfl rfl rfl (ble' rfl) (by decide) ?_
  refine aw_aload_n dX1_copyFrom_11 rfl ?_
  refine aw_get fl_X1_21 dX1_copyFrom_12 e_99 (lti rfl hn) rfl ?_
  refine aw_aload_n dX1_copyFrom_15 rfl ?_
  refine aw_get fl_X1_21 dX1_copyFrom_16 e_1 (lti rfl hn) rfl ?_
  refine ap_callVv kv_X1_61 ko_X7_copyFrom (c_X7_copyFrom_99_1 hn) dX1_copyFrom_19 e_104 (lti rfl hn) rfl rfl rfl rfl (ble' rfl) (by decide) ?_
  refine aw_aload_n dX1_copyFrom_22 rfl ?_
  refine aw_get fl_X1_28 dX1_copyFrom_23 e_99 (lti rfl hn) rfl ?_
  refine aw_aload_n dX1_copyFrom_26 rfl ?_
  refine aw_get fl_X1_28 dX1_copyFrom_27 e_1 (lti rfl hn) rfl ?_
  refine ap_callVv kv_X1_64 ko_X5_copyFrom (c_X5_copyFrom_99_1 hn) dX1_copyFrom_30 e_107 (lti rfl hn) rfl rfl rfl rfl (ble' rfl) (by decide) ?_
  refine aw_aload_n dX1_copyFrom_33 rfl ?_
  refine aw_get fl_X1_35 dX1_copyFrom_34 e_99 (lti rfl hn) rfl ?_
  refine aw_aload_n dX1_copyFrom_37 rfl ?_
  refine aw_get fl_X1_35 dX1_copyFrom_38 e_1 (lti rfl hn) rfl ?_
  refine ap_callVv kv_X1_67 ko_X0_copyFrom (c_X0_copyFrom_99_1 hn) dX1_copyFrom_41 e_113 (lti rfl hn) rfl rfl rfl rfl (ble' rfl) (by decide) ?_
  refine aw_aload_n dX1_copyFrom_44 rfl ?_
  refine aw_get fl_X1_42 dX1_copyFrom_45 e_99 (lti rfl hn) rfl ?_
  refine aw_aload_n dX1_copyFrom_48 rfl ?_
  refine aw_get fl_X1_42 dX1_copyFrom_49 e_1 (lti rfl hn) rfl ?_
  refine ap_callVv kv_X1_70 ko_X4_copyFrom (c_X4_copyFrom_99_1 hn) dX1_copyFrom_52 e_120 (lti rfl hn) rfl rfl rfl rfl (ble' rfl) (by decide) ?_
  refine aw_aload_n dX1_copyFrom_55 rfl ?_
  refine aw_aload_n dX1_copyFrom_56 rfl ?_
  refine aw_get fl_X1_46 dX1_copyFrom_57 e_1 (lti rfl hn) rfl ?_
  refine aw_put fp_X1_46_m dX1_copyFrom_60 e_99 (lti rfl hn) (ble' rfl) (fun _ => ⟨rfl, rfl⟩) (hwf rfl) ?_
  refine aw_vret rfl dX1_copyFrom_63 (ble' rfl) (ble' rfl) ?_
  exact pd_v rfl

def cpX2_1_72 (M : Nat → Nat → Int32) : Nat → Nat → Int32 := updM (updM (updM (updM (M) 3 (va_cpy (M 74) (M 3) 0 0 4)) 4 (va_cpy (M 75) (M 4) 0 0 4)) 5 (va_cpy (M 76) (M 5) 0 0 4)) 2 (upd (M 2) 3 (M 73 3))
set_option maxRecDepth 100000 in
set_option maxHeartbeats 4000000 in
theorem c_X2_copyFrom_1_72 {G : AG} {M : Nat → Nat → Int32} {n : Nat} (hn : 99 ≤ n) : AMet tX2_copyFrom yX2_copyFrom [Cond.code yX2_copyFrom cX2_copyFrom 2 none] [.ref 2, .ref 73] (wld G M) n (PD (.inl none) (wld G (cpX2_1_72 M)) n) := by
  refine am_of (lo := [_, _]) (by decide) rfl (fun q => by cases q) rfl rfl rfl ?_
  refine aw_aload_n dX2_copyFrom_0 rfl ?_
  refine aw_get fl_X2_9 dX2_copyFrom_1 e_73 (lti rfl hn) rfl ?_
  refine aw_aload_n dX2_copyFrom_4 rfl ?_
  refine aw_get fl_X2_9 dX2_copyFrom_5 e_2 (lti rfl hn) rfl ?_
  refine ap_callSv ks_X2_25 ko_X9_copyRow (cpw (fun _ => rfl) (fun _ => rfl) (lti rfl hn) (lti rfl hn) rfl) dX2_copyFrom_8 rfl rfl (ble' rfl) (by decide) ?_
  refine aw_aload_n dX2_copyFrom_11 rfl ?_
  refine aw_get fl_X2_15 dX2_copyFrom_12 e_73 (lti rfl hn) rfl ?_
  refine aw_aload_n dX2_copyFrom_15 rfl ?_
  refine aw_get fl_X2_15 dX2_copyFrom_16 e_2 (lti rfl hn) rfl ?_
  refine ap_callSv ks_X2_25 ko_X9_copyRow (cpw (fun _ => rfl) (fun _ => rfl) (lti rfl hn) (lti rfl hn) rfl) dX2_copyFrom_19 rfl rfl (ble' rfl) (by decide) ?_
  refine aw_aload_n dX2_copyFrom_22 rfl ?_
  refine aw_get fl_X2_18 dX2_copyFrom_23 e_73 (lti rfl hn) rfl ?_
  refine aw_aload_n dX2_copyFrom_26 rfl ?_
  refine aw_get fl_X2_18 dX2_copyFrom_27 e_2 (lti rfl hn) rfl ?_
  refine ap_callSv ks_X2_25 ko_X9_copyRow (cpw (fun _ => rfl) (fun _ => rfl) (lti rfl hn) (lti rfl hn) rfl) dX2_copyFrom_30 rfl rfl (ble' rfl) (by decide) ?_
  refine aw_aload_n dX2_copyFrom_33 rfl ?_
  refine aw_aload_n dX2_copyFrom_34 rfl ?_
  refine aw_get fl_X2_21 dX2_copyFrom_35 e_73 (lti rfl hn) rfl ?_
  refine aw_put fp_X2_21_m dX2_copyFrom_38 e_2 (lti rfl hn) (ble' rfl) (fun _ => ⟨rfl, rfl⟩) (hwf rfl) ?_
  refine aw_vret rfl dX2_copyFrom_41 (ble' rfl) (ble' rfl) ?_
  exact pd_v rfl

def cpX7_1_72 (M : Nat → Nat → Int32) : Nat → Nat → Int32 := updM (updM (updM (M) 7 (va_cpy (M 78) (M 7) 0 0 16)) 8 (va_cpy (M 79) (M 8) 0 0 16)) 6 (upd (M 6) 2 (M 77 2))
set_option maxRecDepth 100000 in
set_option maxHeartbeats 4000000 in
theorem c_X7_copyFrom_1_72 {G : AG} {M : Nat → Nat → Int32} {n : Nat} (hn : 99 ≤ n) : AMet tX7_copyFrom yX7_copyFrom [Cond.code yX7_copyFrom cX7_copyFrom 2 none] [.ref 6, .ref 77] (wld G M) n (PD (.inl none) (wld G (cpX7_1_72 M)) n) := by
  refine am_of (lo := [_, _]) (by decide) rfl (fun q => by cases q) rfl rfl rfl ?_
  refine aw_aload_n dX7_copyFrom_0 rfl ?_
  refine aw_get fl_X7_9 dX7_copyFrom_1 e_77 (lti rfl hn) rfl ?_
  refine aw_aload_n dX7_copyFrom_4 rfl ?_
  refine aw_get fl_X7_9 dX7_copyFrom_5 e_6 (lti rfl hn) rfl ?_
  refine ap_callSv ks_X7_22 ko_X9_copyRow (cpw (fun _ => rfl) (fun _ => rfl) (lti rfl hn) (lti rfl hn) rfl) dX7_copyFrom_8 rfl rfl (ble' rfl) (by decide) ?_
  refine aw_aload_n dX7_copyFrom_11 rfl ?_
  refine aw_get fl_X7_15 dX7_copyFrom_12 e_77 (lti rfl hn) rfl ?_
  refine aw_aload_n dX7_copyFrom_15 rfl ?_
  refine aw_get fl_X7_15 dX7_copyFrom_16 e_6 (lti rfl hn) rfl ?_
  refine ap_callSv ks_X7_22 ko_X9_copyRow (cpw (fun _ => rfl) (fun _ => rfl) (lti rfl hn) (lti rfl hn) rfl) dX7_copyFrom_19 rfl rfl (ble' rfl) (by decide) ?_
  refine aw_aload_n dX7_copyFrom_22 rfl ?_
  refine aw_aload_n dX7_copyFrom_23 rfl ?_
  refine aw_get fl_X7_18 dX7_copyFrom_24 e_77 (lti rfl hn) rfl ?_
  refine aw_put fp_X7_18_m dX7_copyFrom_27 e_6 (lti rfl hn) (ble' rfl) (fun _ => ⟨rfl, rfl⟩) (hwf rfl) ?_
  refine aw_vret rfl dX7_copyFrom_30 (ble' rfl) (ble' rfl) ?_
  exact pd_v rfl

def cpX5_1_72 (M : Nat → Nat → Int32) : Nat → Nat → Int32 := updM (updM (updM (updM (updM (updM (M) 10 (va_cpy (M 81) (M 10) 0 0 12)) 11 (va_cpy (M 82) (M 11) 0 0 12)) 12 (va_cpy (M 83) (M 12) 0 0 12)) 13 (va_cpy (M 84) (M 13) 0 0 12)) 14 (va_cpy (M 85) (M 14) 0 0 12)) 9 (upd (M 9) 5 (M 80 5))
set_option maxRecDepth 100000 in
set_option maxHeartbeats 4000000 in
theorem c_X5_copyFrom_1_72 {G : AG} {M : Nat → Nat → Int32} {n : Nat} (hn : 99 ≤ n) : AMet tX5_copyFrom yX5_copyFrom [Cond.code yX5_copyFrom cX5_copyFrom 2 none] [.ref 9, .ref 80] (wld G M) n (PD (.inl none) (wld G (cpX5_1_72 M)) n) := by
  refine am_of (lo := [_, _]) (by decide) rfl (fun q => by cases q) rfl rfl rfl ?_
  refine aw_aload_n dX5_copyFrom_0 rfl ?_
  refine aw_get fl_X5_9 dX5_copyFrom_1 e_80 (lti rfl hn) rfl ?_
  refine aw_aload_n dX5_copyFrom_4 rfl ?_
  refine aw_get fl_X5_9 dX5_copyFrom_5 e_9 (lti rfl hn) rfl ?_
  refine ap_callSv ks_X5_38 ko_X9_copyRow (cpw (fun _ => rfl) (fun _ => rfl) (lti rfl hn) (lti rfl hn) rfl) dX5_copyFrom_8 rfl rfl (ble' rfl) (by decide) ?_
  refine aw_aload_n dX5_copyFrom_11 rfl ?_
  refine aw_get fl_X5_15 dX5_copyFrom_12 e_80 (lti rfl hn) rfl ?_
  refine aw_aload_n dX5_copyFrom_15 rfl ?_
  refine aw_get fl_X5_15 dX5_copyFrom_16 e_9 (lti rfl hn) rfl ?_
  refine ap_callSv ks_X5_38 ko_X9_copyRow (cpw (fun _ => rfl) (fun _ => rfl) (lti rfl hn) (lti rfl hn) rfl) dX5_copyFrom_19 rfl rfl (ble' rfl) (by decide) ?_
  refine aw_aload_n dX5_copyFrom_22 rfl ?_
  refine aw_get fl_X5_18 dX5_copyFrom_23 e_80 (lti rfl hn) rfl ?_
  refine aw_aload_n dX5_copyFrom_26 rfl ?_
  refine aw_get fl_X5_18 dX5_copyFrom_27 e_9 (lti rfl hn) rfl ?_
  refine ap_callSv ks_X5_38 ko_X9_copyRow (cpw (fun _ => rfl) (fun _ => rfl) (lti rfl hn) (lti rfl hn) rfl) dX5_copyFrom_30 rfl rfl (ble' rfl) (by decide) ?_
  refine aw_aload_n dX5_copyFrom_33 rfl ?_
  refine aw_get fl_X5_21 dX5_copyFrom_34 e_80 (lti rfl hn) rfl ?_
  refine aw_aload_n dX5_copyFrom_37 rfl ?_
  refine aw_get fl_X5_21 dX5_copyFrom_38 e_9 (lti rfl hn) rfl ?_
  refine ap_callSv ks_X5_38 ko_X9_copyRow (cpw (fun _ => rfl) (fun _ => rfl) (lti rfl hn) (lti rfl hn) rfl) dX5_copyFrom_41 rfl rfl (ble' rfl) (by decide) ?_
  refine aw_aload_n dX5_copyFrom_44 rfl ?_
  refine aw_get fl_X5_24 dX5_copyFrom_45 e_80 (lti rfl hn) rfl ?_
  refine aw_aload_n dX5_copyFrom_48 rfl ?_
  refine aw_get fl_X5_24 dX5_copyFrom_49 e_9 (lti rfl hn) rfl ?_
  refine ap_callSv ks_X5_38 ko_X9_copyRow (cpw (fun _ => rfl) (fun _ => rfl) (lti rfl hn) (lti rfl hn) rfl) dX5_copyFrom_52 rfl rfl (ble' rfl) (by decide) ?_
  refine aw_aload_n dX5_copyFrom_55 rfl ?_
  refine aw_aload_n dX5_copyFrom_56 rfl ?_
  refine aw_get fl_X5_27 dX5_copyFrom_57 e_80 (lti rfl hn) rfl ?_
  refine aw_put fp_X5_27_m dX5_copyFrom_60 e_9 (lti rfl hn) (ble' rfl) (fun _ => ⟨rfl, rfl⟩) (hwf rfl) ?_
  refine aw_vret rfl dX5_copyFrom_63 (ble' rfl) (ble' rfl) ?_
  exact pd_v rfl

def cpX0_1_72 (M : Nat → Nat → Int32) : Nat → Nat → Int32 := updM (updM (updM (updM (updM (updM (updM (M) 16 (va_cpy (M 87) (M 16) 0 0 60)) 17 (va_cpy (M 88) (M 17) 0 0 60)) 18 (va_cpy (M 89) (M 18) 0 0 60)) 19 (va_cpy (M 90) (M 19) 0 0 60)) 20 (va_cpy (M 91) (M 20) 0 0 60)) 21 (va_cpy (M 92) (M 21) 0 0 60)) 15 (upd (M 15) 6 (M 86 6))
set_option maxRecDepth 100000 in
set_option maxHeartbeats 4000000 in
theorem c_X0_copyFrom_1_72 {G : AG} {M : Nat → Nat → Int32} {n : Nat} (hn : 99 ≤ n) : AMet tX0_copyFrom yX0_copyFrom [Cond.code yX0_copyFrom cX0_copyFrom 2 none] [.ref 15, .ref 86] (wld G M) n (PD (.inl none) (wld G (cpX0_1_72 M)) n) := by
  refine am_of (lo := [_, _]) (by decide) rfl (fun q => by cases q) rfl rfl rfl ?_
  refine aw_aload_n dX0_copyFrom_0 rfl ?_
  refine aw_get fl_X0_9 dX0_copyFrom_1 e_86 (lti rfl hn) rfl ?_
  refine aw_aload_n dX0_copyFrom_4 rfl ?_
  refine aw_get fl_X0_9 dX0_copyFrom_5 e_15 (lti rfl hn) rfl ?_
  refine ap_callSv ks_X0_38 ko_X9_copyRow (cpw (fun _ => rfl) (fun _ => rfl) (lti rfl hn) (lti rfl hn) rfl) dX0_copyFrom_8 rfl rfl (ble' rfl) (by decide) ?_
  refine aw_aload_n dX0_copyFrom_11 rfl ?_
  refine aw_get fl_X0_15 dX0_copyFrom_12 e_86 (lti rfl hn) rfl ?_
  refine aw_aload_n dX0_copyFrom_15 rfl ?_
  refine aw_get fl_X0_15 dX0_copyFrom_16 e_15 (lti rfl hn) rfl ?_
  refine ap_callSv ks_X0_38 ko_X9_copyRow (cpw (fun _ => rfl) (fun _ => rfl) (lti rfl hn) (lti rfl hn) rfl) dX0_copyFrom_19 rfl rfl (ble' rfl) (by decide) ?_
  refine aw_aload_n dX0_copyFrom_22 rfl ?_
  refine aw_get fl_X0_18 dX0_copyFrom_23 e_86 (lti rfl hn) rfl ?_
  refine aw_aload_n dX0_copyFrom_26 rfl ?_
  refine aw_get fl_X0_18 dX0_copyFrom_27 e_15 (lti rfl hn) rfl ?_
  refine ap_callSv ks_X0_38 ko_X9_copyRow (cpw (fun _ => rfl) (fun _ => rfl) (lti rfl hn) (lti rfl hn) rfl) dX0_copyFrom_30 rfl rfl (ble' rfl) (by decide) ?_
  refine aw_aload_n dX0_copyFrom_33 rfl ?_
  refine aw_get fl_X0_21 dX0_copyFrom_34 e_86 (lti rfl hn) rfl ?_
  refine aw_aload_n dX0_copyFrom_37 rfl ?_
  refine aw_get fl_X0_21 dX0_copyFrom_38 e_15 (lti rfl hn) rfl ?_
  refine ap_callSv ks_X0_38 ko_X9_copyRow (cpw (fun _ => rfl) (fun _ => rfl) (lti rfl hn) (lti rfl hn) rfl) dX0_copyFrom_41 rfl rfl (ble' rfl) (by decide) ?_
  refine aw_aload_n dX0_copyFrom_44 rfl ?_
  refine aw_get fl_X0_24 dX0_copyFrom_45 e_86 (lti rfl hn) rfl ?_
  refine aw_aload_n dX0_copyFrom_48 rfl ?_
  refine aw_get fl_X0_24 dX0_copyFrom_49 e_15 (lti rfl hn) rfl ?_
  refine ap_callSv ks_X0_38 ko_X9_copyRow (cpw (fun _ => rfl) (fun _ => rfl) (lti rfl hn) (lti rfl hn) rfl) dX0_copyFrom_52 rfl rfl (ble' rfl) (by decide) ?_
  refine aw_aload_n dX0_copyFrom_55 rfl ?_
  refine aw_get fl_X0_27 dX0_copyFrom_56 e_86 (lti rfl hn) rfl ?_
  refine aw_aload_n dX0_copyFrom_59 rfl ?_
  refine aw_get fl_X0_27 dX0_copyFrom_60 e_15 (lti rfl hn) rfl ?_
  refine ap_callSv ks_X0_38 ko_X9_copyRow (cpw (fun _ => rfl) (fun _ => rfl) (lti rfl hn) (lti rfl hn) rfl) dX0_copyFrom_63 rfl rfl (ble' rfl) (by decide) ?_
  refine aw_aload_n dX0_copyFrom_66 rfl ?_
  refine aw_aload_n dX0_copyFrom_67 rfl ?_
  refine aw_get fl_X0_30 dX0_copyFrom_68 e_86 (lti rfl hn) rfl ?_
  refine aw_put fp_X0_30_m dX0_copyFrom_71 e_15 (lti rfl hn) (ble' rfl) (fun _ => ⟨rfl, rfl⟩) (hwf rfl) ?_
  refine aw_vret rfl dX0_copyFrom_74 (ble' rfl) (ble' rfl) ?_
  exact pd_v rfl

def cpX4_1_72 (M : Nat → Nat → Int32) : Nat → Nat → Int32 := updM (updM (updM (updM (updM (updM (M) 23 (va_cpy (M 94) (M 23) 0 0 20)) 24 (va_cpy (M 95) (M 24) 0 0 20)) 25 (va_cpy (M 96) (M 25) 0 0 20)) 26 (va_cpy (M 97) (M 26) 0 0 20)) 27 (va_cpy (M 98) (M 27) 0 0 20)) 22 (upd (M 22) 5 (M 93 5))
set_option maxRecDepth 100000 in
set_option maxHeartbeats 4000000 in
theorem c_X4_copyFrom_1_72 {G : AG} {M : Nat → Nat → Int32} {n : Nat} (hn : 99 ≤ n) : AMet tX4_copyFrom yX4_copyFrom [Cond.code yX4_copyFrom cX4_copyFrom 2 none] [.ref 22, .ref 93] (wld G M) n (PD (.inl none) (wld G (cpX4_1_72 M)) n) := by
  refine am_of (lo := [_, _]) (by decide) rfl (fun q => by cases q) rfl rfl rfl ?_
  refine aw_aload_n dX4_copyFrom_0 rfl ?_
  refine aw_get fl_X4_9 dX4_copyFrom_1 e_93 (lti rfl hn) rfl ?_
  refine aw_aload_n dX4_copyFrom_4 rfl ?_
  refine aw_get fl_X4_9 dX4_copyFrom_5 e_22 (lti rfl hn) rfl ?_
  refine ap_callSv ks_X4_31 ko_X9_copyRow (cpw (fun _ => rfl) (fun _ => rfl) (lti rfl hn) (lti rfl hn) rfl) dX4_copyFrom_8 rfl rfl (ble' rfl) (by decide) ?_
  refine aw_aload_n dX4_copyFrom_11 rfl ?_
  refine aw_get fl_X4_15 dX4_copyFrom_12 e_93 (lti rfl hn) rfl ?_
  refine aw_aload_n dX4_copyFrom_15 rfl ?_
  refine aw_get fl_X4_15 dX4_copyFrom_16 e_22 (lti rfl hn) rfl ?_
  refine ap_callSv ks_X4_31 ko_X9_copyRow (cpw (fun _ => rfl) (fun _ => rfl) (lti rfl hn) (lti rfl hn) rfl) dX4_copyFrom_19 rfl rfl (ble' rfl) (by decide) ?_
  refine aw_aload_n dX4_copyFrom_22 rfl ?_
  refine aw_get fl_X4_18 dX4_copyFrom_23 e_93 (lti rfl hn) rfl ?_
  refine aw_aload_n dX4_copyFrom_26 rfl ?_
  refine aw_get fl_X4_18 dX4_copyFrom_27 e_22 (lti rfl hn) rfl ?_
  refine ap_callSv ks_X4_31 ko_X9_copyRow (cpw (fun _ => rfl) (fun _ => rfl) (lti rfl hn) (lti rfl hn) rfl) dX4_copyFrom_30 rfl rfl (ble' rfl) (by decide) ?_
  refine aw_aload_n dX4_copyFrom_33 rfl ?_
  refine aw_get fl_X4_21 dX4_copyFrom_34 e_93 (lti rfl hn) rfl ?_
  refine aw_aload_n dX4_copyFrom_37 rfl ?_
  refine aw_get fl_X4_21 dX4_copyFrom_38 e_22 (lti rfl hn) rfl ?_
  refine ap_callSv ks_X4_31 ko_X9_copyRow (cpw (fun _ => rfl) (fun _ => rfl) (lti rfl hn) (lti rfl hn) rfl) dX4_copyFrom_41 rfl rfl (ble' rfl) (by decide) ?_
  refine aw_aload_n dX4_copyFrom_44 rfl ?_
  refine aw_get fl_X4_24 dX4_copyFrom_45 e_93 (lti rfl hn) rfl ?_
  refine aw_aload_n dX4_copyFrom_48 rfl ?_
  refine aw_get fl_X4_24 dX4_copyFrom_49 e_22 (lti rfl hn) rfl ?_
  refine ap_callSv ks_X4_31 ko_X9_copyRow (cpw (fun _ => rfl) (fun _ => rfl) (lti rfl hn) (lti rfl hn) rfl) dX4_copyFrom_52 rfl rfl (ble' rfl) (by decide) ?_
  refine aw_aload_n dX4_copyFrom_55 rfl ?_
  refine aw_aload_n dX4_copyFrom_56 rfl ?_
  refine aw_get fl_X4_27 dX4_copyFrom_57 e_93 (lti rfl hn) rfl ?_
  refine aw_put fp_X4_27_m dX4_copyFrom_60 e_22 (lti rfl hn) (ble' rfl) (fun _ => ⟨rfl, rfl⟩) (hwf rfl) ?_
  refine aw_vret rfl dX4_copyFrom_63 (ble' rfl) (ble' rfl) ?_
  exact pd_v rfl

/-- the camp 72 copied over the camp 1 -/
def cp_1_72 (M : Nat → Nat → Int32) : Nat → Nat → Int32 := updM (updM (updM (updM (updM (updM (updM (updM (updM (updM (updM (updM (updM (updM (updM (updM (updM (updM (updM (updM (updM (updM (updM (updM (updM (updM (updM (M) 3 (va_cpy (M 74) (M 3) 0 0 4)) 4 (va_cpy (M 75) (M 4) 0 0 4)) 5 (va_cpy (M 76) (M 5) 0 0 4)) 2 (upd (M 2) 3 (M 73 3))) 7 (va_cpy (M 78) (M 7) 0 0 16)) 8 (va_cpy (M 79) (M 8) 0 0 16)) 6 (upd (M 6) 2 (M 77 2))) 10 (va_cpy (M 81) (M 10) 0 0 12)) 11 (va_cpy (M 82) (M 11) 0 0 12)) 12 (va_cpy (M 83) (M 12) 0 0 12)) 13 (va_cpy (M 84) (M 13) 0 0 12)) 14 (va_cpy (M 85) (M 14) 0 0 12)) 9 (upd (M 9) 5 (M 80 5))) 16 (va_cpy (M 87) (M 16) 0 0 60)) 17 (va_cpy (M 88) (M 17) 0 0 60)) 18 (va_cpy (M 89) (M 18) 0 0 60)) 19 (va_cpy (M 90) (M 19) 0 0 60)) 20 (va_cpy (M 91) (M 20) 0 0 60)) 21 (va_cpy (M 92) (M 21) 0 0 60)) 15 (upd (M 15) 6 (M 86 6))) 23 (va_cpy (M 94) (M 23) 0 0 20)) 24 (va_cpy (M 95) (M 24) 0 0 20)) 25 (va_cpy (M 96) (M 25) 0 0 20)) 26 (va_cpy (M 97) (M 26) 0 0 20)) 27 (va_cpy (M 98) (M 27) 0 0 20)) 22 (upd (M 22) 5 (M 93 5))) 1 (upd (M 1) 5 (M 72 5))
set_option maxRecDepth 100000 in
set_option maxHeartbeats 4000000 in
theorem c_X1_copyFrom_1_72 {G : AG} {M : Nat → Nat → Int32} {n : Nat} (hn : 99 ≤ n) : AMet tX1_copyFrom yX1_copyFrom [Cond.code yX1_copyFrom cX1_copyFrom 2 none] [.ref 1, .ref 72] (wld G M) n (PD (.inl none) (wld G (cp_1_72 M)) n) := by
  refine am_of (lo := [_, _]) (by decide) rfl (fun q => by cases q) rfl rfl rfl ?_
  refine aw_aload_n dX1_copyFrom_0 rfl ?_
  refine aw_get fl_X1_12 dX1_copyFrom_1 e_1 (lti rfl hn) rfl ?_
  refine aw_aload_n dX1_copyFrom_4 rfl ?_
  refine aw_get fl_X1_12 dX1_copyFrom_5 e_72 (lti rfl hn) rfl ?_
  refine ap_callVv kv_X1_57 ko_X2_copyFrom (c_X2_copyFrom_1_72 hn) dX1_copyFrom_8 e_2 (lti rfl hn) rfl rfl rfl rfl (ble' rfl) (by decide) ?_
  refine aw_aload_n dX1_copyFrom_11 rfl ?_
  refine aw_get fl_X1_21 dX1_copyFrom_12 e_1 (lti rfl hn) rfl ?_
  refine aw_aload_n dX1_copyFrom_15 rfl ?_
  refine aw_get fl_X1_21 dX1_copyFrom_16 e_72 (lti rfl hn) rfl ?_
  refine ap_callVv kv_X1_61 ko_X7_copyFrom (c_X7_copyFrom_1_72 hn) dX1_copyFrom_19 e_6 (lti rfl hn) rfl rfl rfl rfl (ble' rfl) (by decide) ?_
  refine aw_aload_n dX1_copyFrom_22 rfl ?_
  refine aw_get fl_X1_28 dX1_copyFrom_23 e_1 (lti rfl hn) rfl ?_
  refine aw_aload_n dX1_copyFrom_26 rfl ?_
  refine aw_get fl_X1_28 dX1_copyFrom_27 e_72 (lti rfl hn) rfl ?_
  refine ap_callVv kv_X1_64 ko_X5_copyFrom (c_X5_copyFrom_1_72 hn) dX1_copyFrom_30 e_9 (lti rfl hn) rfl rfl rfl rfl (ble' rfl) (by decide) ?_
  refine aw_aload_n dX1_copyFrom_33 rfl ?_
  refine aw_get fl_X1_35 dX1_copyFrom_34 e_1 (lti rfl hn) rfl ?_
  refine aw_aload_n dX1_copyFrom_37 rfl ?_
  refine aw_get fl_X1_35 dX1_copyFrom_38 e_72 (lti rfl hn) rfl ?_
  refine ap_callVv kv_X1_67 ko_X0_copyFrom (c_X0_copyFrom_1_72 hn) dX1_copyFrom_41 e_15 (lti rfl hn) rfl rfl rfl rfl (ble' rfl) (by decide) ?_
  refine aw_aload_n dX1_copyFrom_44 rfl ?_
  refine aw_get fl_X1_42 dX1_copyFrom_45 e_1 (lti rfl hn) rfl ?_
  refine aw_aload_n dX1_copyFrom_48 rfl ?_
  refine aw_get fl_X1_42 dX1_copyFrom_49 e_72 (lti rfl hn) rfl ?_
  refine ap_callVv kv_X1_70 ko_X4_copyFrom (c_X4_copyFrom_1_72 hn) dX1_copyFrom_52 e_22 (lti rfl hn) rfl rfl rfl rfl (ble' rfl) (by decide) ?_
  refine aw_aload_n dX1_copyFrom_55 rfl ?_
  refine aw_aload_n dX1_copyFrom_56 rfl ?_
  refine aw_get fl_X1_46 dX1_copyFrom_57 e_72 (lti rfl hn) rfl ?_
  refine aw_put fp_X1_46_m dX1_copyFrom_60 e_1 (lti rfl hn) (ble' rfl) (fun _ => ⟨rfl, rfl⟩) (hwf rfl) ?_
  refine aw_vret rfl dX1_copyFrom_63 (ble' rfl) (ble' rfl) ?_
  exact pd_v rfl

def cpX2_1_99 (M : Nat → Nat → Int32) : Nat → Nat → Int32 := updM (updM (updM (updM (M) 3 (va_cpy (M 101) (M 3) 0 0 4)) 4 (va_cpy (M 102) (M 4) 0 0 4)) 5 (va_cpy (M 103) (M 5) 0 0 4)) 2 (upd (M 2) 3 (M 100 3))
set_option maxRecDepth 100000 in
set_option maxHeartbeats 4000000 in
theorem c_X2_copyFrom_1_99 {G : AG} {M : Nat → Nat → Int32} {n : Nat} (hn : 126 ≤ n) : AMet tX2_copyFrom yX2_copyFrom [Cond.code yX2_copyFrom cX2_copyFrom 2 none] [.ref 2, .ref 100] (wld G M) n (PD (.inl none) (wld G (cpX2_1_99 M)) n) := by
  refine am_of (lo := [_, _]) (by decide) rfl (fun q => by cases q) rfl rfl rfl ?_
  refine aw_aload_n dX2_copyFrom_0 rfl ?_
  refine aw_get fl_X2_9 dX2_copyFrom_1 e_100 (lti rfl hn) rfl ?_
  refine aw_aload_n dX2_copyFrom_4 rfl ?_
  refine aw_get fl_X2_9 dX2_copyFrom_5 e_2 (lti rfl hn) rfl ?_
  refine ap_callSv ks_X2_25 ko_X9_copyRow (cpw (fun _ => rfl) (fun _ => rfl) (lti rfl hn) (lti rfl hn) rfl) dX2_copyFrom_8 rfl rfl (ble' rfl) (by decide) ?_
  refine aw_aload_n dX2_copyFrom_11 rfl ?_
  refine aw_get fl_X2_15 dX2_copyFrom_12 e_100 (lti rfl hn) rfl ?_
  refine aw_aload_n dX2_copyFrom_15 rfl ?_
  refine aw_get fl_X2_15 dX2_copyFrom_16 e_2 (lti rfl hn) rfl ?_
  refine ap_callSv ks_X2_25 ko_X9_copyRow (cpw (fun _ => rfl) (fun _ => rfl) (lti rfl hn) (lti rfl hn) rfl) dX2_copyFrom_19 rfl rfl (ble' rfl) (by decide) ?_
  refine aw_aload_n dX2_copyFrom_22 rfl ?_
  refine aw_get fl_X2_18 dX2_copyFrom_23 e_100 (lti rfl hn) rfl ?_
  refine aw_aload_n dX2_copyFrom_26 rfl ?_
  refine aw_get fl_X2_18 dX2_copyFrom_27 e_2 (lti rfl hn) rfl ?_
  refine ap_callSv ks_X2_25 ko_X9_copyRow (cpw (fun _ => rfl) (fun _ => rfl) (lti rfl hn) (lti rfl hn) rfl) dX2_copyFrom_30 rfl rfl (ble' rfl) (by decide) ?_
  refine aw_aload_n dX2_copyFrom_33 rfl ?_
  refine aw_aload_n dX2_copyFrom_34 rfl ?_
  refine aw_get fl_X2_21 dX2_copyFrom_35 e_100 (lti rfl hn) rfl ?_
  refine aw_put fp_X2_21_m dX2_copyFrom_38 e_2 (lti rfl hn) (ble' rfl) (fun _ => ⟨rfl, rfl⟩) (hwf rfl) ?_
  refine aw_vret rfl dX2_copyFrom_41 (ble' rfl) (ble' rfl) ?_
  exact pd_v rfl

def cpX7_1_99 (M : Nat → Nat → Int32) : Nat → Nat → Int32 := updM (updM (updM (M) 7 (va_cpy (M 105) (M 7) 0 0 16)) 8 (va_cpy (M 106) (M 8) 0 0 16)) 6 (upd (M 6) 2 (M 104 2))
set_option maxRecDepth 100000 in
set_option maxHeartbeats 4000000 in
theorem c_X7_copyFrom_1_99 {G : AG} {M : Nat → Nat → Int32} {n : Nat} (hn : 126 ≤ n) : AMet tX7_copyFrom yX7_copyFrom [Cond.code yX7_copyFrom cX7_copyFrom 2 none] [.ref 6, .ref 104] (wld G M) n (PD (.inl none) (wld G (cpX7_1_99 M)) n) := by
  refine am_of (lo := [_, _]) (by decide) rfl (fun q => by cases q) rfl rfl rfl ?_
  refine aw_aload_n dX7_copyFrom_0 rfl ?_
  refine aw_get fl_X7_9 dX7_copyFrom_1 e_104 (lti rfl hn) rfl ?_
  refine aw_aload_n dX7_copyFrom_4 rfl ?_
  refine aw_get fl_X7_9 dX7_copyFrom_5 e_6 (lti rfl hn) rfl ?_
  refine ap_callSv ks_X7_22 ko_X9_copyRow (cpw (fun _ => rfl) (fun _ => rfl) (lti rfl hn) (lti rfl hn) rfl) dX7_copyFrom_8 rfl rfl (ble' rfl) (by decide) ?_
  refine aw_aload_n dX7_copyFrom_11 rfl ?_
  refine aw_get fl_X7_15 dX7_copyFrom_12 e_104 (lti rfl hn) rfl ?_
  refine aw_aload_n dX7_copyFrom_15 rfl ?_
  refine aw_get fl_X7_15 dX7_copyFrom_16 e_6 (lti rfl hn) rfl ?_
  refine ap_callSv ks_X7_22 ko_X9_copyRow (cpw (fun _ => rfl) (fun _ => rfl) (lti rfl hn) (lti rfl hn) rfl) dX7_copyFrom_19 rfl rfl (ble' rfl) (by decide) ?_
  refine aw_aload_n dX7_copyFrom_22 rfl ?_
  refine aw_aload_n dX7_copyFrom_23 rfl ?_
  refine aw_get fl_X7_18 dX7_copyFrom_24 e_104 (lti rfl hn) rfl ?_
  refine aw_put fp_X7_18_m dX7_copyFrom_27 e_6 (lti rfl hn) (ble' rfl) (fun _ => ⟨rfl, rfl⟩) (hwf rfl) ?_
  refine aw_vret rfl dX7_copyFrom_30 (ble' rfl) (ble' rfl) ?_
  exact pd_v rfl

def cpX5_1_99 (M : Nat → Nat → Int32) : Nat → Nat → Int32 := updM (updM (updM (updM (updM (updM (M) 10 (va_cpy (M 108) (M 10) 0 0 12)) 11 (va_cpy (M 109) (M 11) 0 0 12)) 12 (va_cpy (M 110) (M 12) 0 0 12)) 13 (va_cpy (M 111) (M 13) 0 0 12)) 14 (va_cpy (M 112) (M 14) 0 0 12)) 9 (upd (M 9) 5 (M 107 5))
set_option maxRecDepth 100000 in
set_option maxHeartbeats 4000000 in
theorem c_X5_copyFrom_1_99 {G : AG} {M : Nat → Nat → Int32} {n : Nat} (hn : 126 ≤ n) : AMet tX5_copyFrom yX5_copyFrom [Cond.code yX5_copyFrom cX5_copyFrom 2 none] [.ref 9, .ref 107] (wld G M) n (PD (.inl none) (wld G (cpX5_1_99 M)) n) := by
  refine am_of (lo := [_, _]) (by decide) rfl (fun q => by cases q) rfl rfl rfl ?_
  refine aw_aload_n dX5_copyFrom_0 rfl ?_
  refine aw_get fl_X5_9 dX5_copyFrom_1 e_107 (lti rfl hn) rfl ?_
  refine aw_aload_n dX5_copyFrom_4 rfl ?_
  refine aw_get fl_X5_9 dX5_copyFrom_5 e_9 (lti rfl hn) rfl ?_
  refine ap_callSv ks_X5_38 ko_X9_copyRow (cpw (fun _ => rfl) (fun _ => rfl) (lti rfl hn) (lti rfl hn) rfl) dX5_copyFrom_8 rfl rfl (ble' rfl) (by decide) ?_
  refine aw_aload_n dX5_copyFrom_11 rfl ?_
  refine aw_get fl_X5_15 dX5_copyFrom_12 e_107 (lti rfl hn) rfl ?_
  refine aw_aload_n dX5_copyFrom_15 rfl ?_
  refine aw_get fl_X5_15 dX5_copyFrom_16 e_9 (lti rfl hn) rfl ?_
  refine ap_callSv ks_X5_38 ko_X9_copyRow (cpw (fun _ => rfl) (fun _ => rfl) (lti rfl hn) (lti rfl hn) rfl) dX5_copyFrom_19 rfl rfl (ble' rfl) (by decide) ?_
  refine aw_aload_n dX5_copyFrom_22 rfl ?_
  refine aw_get fl_X5_18 dX5_copyFrom_23 e_107 (lti rfl hn) rfl ?_
  refine aw_aload_n dX5_copyFrom_26 rfl ?_
  refine aw_get fl_X5_18 dX5_copyFrom_27 e_9 (lti rfl hn) rfl ?_
  refine ap_callSv ks_X5_38 ko_X9_copyRow (cpw (fun _ => rfl) (fun _ => rfl) (lti rfl hn) (lti rfl hn) rfl) dX5_copyFrom_30 rfl rfl (ble' rfl) (by decide) ?_
  refine aw_aload_n dX5_copyFrom_33 rfl ?_
  refine aw_get fl_X5_21 dX5_copyFrom_34 e_107 (lti rfl hn) rfl ?_
  refine aw_aload_n dX5_copyFrom_37 rfl ?_
  refine aw_get fl_X5_21 dX5_copyFrom_38 e_9 (lti rfl hn) rfl ?_
  refine ap_callSv ks_X5_38 ko_X9_copyRow (cpw (fun _ => rfl) (fun _ => rfl) (lti rfl hn) (lti rfl hn) rfl) dX5_copyFrom_41 rfl rfl (ble' rfl) (by decide) ?_
  refine aw_aload_n dX5_copyFrom_44 rfl ?_
  refine aw_get fl_X5_24 dX5_copyFrom_45 e_107 (lti rfl hn) rfl ?_
  refine aw_aload_n dX5_copyFrom_48 rfl ?_
  refine aw_get fl_X5_24 dX5_copyFrom_49 e_9 (lti rfl hn) rfl ?_
  refine ap_callSv ks_X5_38 ko_X9_copyRow (cpw (fun _ => rfl) (fun _ => rfl) (lti rfl hn) (lti rfl hn) rfl) dX5_copyFrom_52 rfl rfl (ble' rfl) (by decide) ?_
  refine aw_aload_n dX5_copyFrom_55 rfl ?_
  refine aw_aload_n dX5_copyFrom_56 rfl ?_
  refine aw_get fl_X5_27 dX5_copyFrom_57 e_107 (lti rfl hn) rfl ?_
  refine aw_put fp_X5_27_m dX5_copyFrom_60 e_9 (lti rfl hn) (ble' rfl) (fun _ => ⟨rfl, rfl⟩) (hwf rfl) ?_
  refine aw_vret rfl dX5_copyFrom_63 (ble' rfl) (ble' rfl) ?_
  exact pd_v rfl

def cpX0_1_99 (M : Nat → Nat → Int32) : Nat → Nat → Int32 := updM (updM (updM (updM (updM (updM (updM (M) 16 (va_cpy (M 114) (M 16) 0 0 60)) 17 (va_cpy (M 115) (M 17) 0 0 60)) 18 (va_cpy (M 116) (M 18) 0 0 60)) 19 (va_cpy (M 117) (M 19) 0 0 60)) 20 (va_cpy (M 118) (M 20) 0 0 60)) 21 (va_cpy (M 119) (M 21) 0 0 60)) 15 (upd (M 15) 6 (M 113 6))
set_option maxRecDepth 100000 in
set_option maxHeartbeats 4000000 in
theorem c_X0_copyFrom_1_99 {G : AG} {M : Nat → Nat → Int32} {n : Nat} (hn : 126 ≤ n) : AMet tX0_copyFrom yX0_copyFrom [Cond.code yX0_copyFrom cX0_copyFrom 2 none] [.ref 15, .ref 113] (wld G M) n (PD (.inl none) (wld G (cpX0_1_99 M)) n) := by
  refine am_of (lo := [_, _]) (by decide) rfl (fun q => by cases q) rfl rfl rfl ?_
  refine aw_aload_n dX0_copyFrom_0 rfl ?_
  refine aw_get fl_X0_9 dX0_copyFrom_1 e_113 (lti rfl hn) rfl ?_
  refine aw_aload_n dX0_copyFrom_4 rfl ?_
  refine aw_get fl_X0_9 dX0_copyFrom_5 e_15 (lti rfl hn) rfl ?_
  refine ap_callSv ks_X0_38 ko_X9_copyRow (cpw (fun _ => rfl) (fun _ => rfl) (lti rfl hn) (lti rfl hn) rfl) dX0_copyFrom_8 rfl rfl (ble' rfl) (by decide) ?_
  refine aw_aload_n dX0_copyFrom_11 rfl ?_
  refine aw_get fl_X0_15 dX0_copyFrom_12 e_113 (lti rfl hn) rfl ?_
  refine aw_aload_n dX0_copyFrom_15 rfl ?_
  refine aw_get fl_X0_15 dX0_copyFrom_16 e_15 (lti rfl hn) rfl ?_
  refine ap_callSv ks_X0_38 ko_X9_copyRow (cpw (fun _ => rfl) (fun _ => rfl) (lti rfl hn) (lti rfl hn) rfl) dX0_copyFrom_19 rfl rfl (ble' rfl) (by decide) ?_
  refine aw_aload_n dX0_copyFrom_22 rfl ?_
  refine aw_get fl_X0_18 dX0_copyFrom_23 e_113 (lti rfl hn) rfl ?_
  refine aw_aload_n dX0_copyFrom_26 rfl ?_
  refine aw_get fl_X0_18 dX0_copyFrom_27 e_15 (lti rfl hn) rfl ?_
  refine ap_callSv ks_X0_38 ko_X9_copyRow (cpw (fun _ => rfl) (fun _ => rfl) (lti rfl hn) (lti rfl hn) rfl) dX0_copyFrom_30 rfl rfl (ble' rfl) (by decide) ?_
  refine aw_aload_n dX0_copyFrom_33 rfl ?_
  refine aw_get fl_X0_21 dX0_copyFrom_34 e_113 (lti rfl hn) rfl ?_
  refine aw_aload_n dX0_copyFrom_37 rfl ?_
  refine aw_get fl_X0_21 dX0_copyFrom_38 e_15 (lti rfl hn) rfl ?_
  refine ap_callSv ks_X0_38 ko_X9_copyRow (cpw (fun _ => rfl) (fun _ => rfl) (lti rfl hn) (lti rfl hn) rfl) dX0_copyFrom_41 rfl rfl (ble' rfl) (by decide) ?_
  refine aw_aload_n dX0_copyFrom_44 rfl ?_
  refine aw_get fl_X0_24 dX0_copyFrom_45 e_113 (lti rfl hn) rfl ?_
  refine aw_aload_n dX0_copyFrom_48 rfl ?_
  refine aw_get fl_X0_24 dX0_copyFrom_49 e_15 (lti rfl hn) rfl ?_
  refine ap_callSv ks_X0_38 ko_X9_copyRow (cpw (fun _ => rfl) (fun _ => rfl) (lti rfl hn) (lti rfl hn) rfl) dX0_copyFrom_52 rfl rfl (ble' rfl) (by decide) ?_
  refine aw_aload_n dX0_copyFrom_55 rfl ?_
  refine aw_get fl_X0_27 dX0_copyFrom_56 e_113 (lti rfl hn) rfl ?_
  refine aw_aload_n dX0_copyFrom_59 rfl ?_
  refine aw_get fl_X0_27 dX0_copyFrom_60 e_15 (lti rfl hn) rfl ?_
  refine ap_callSv ks_X0_38 ko_X9_copyRow (cpw (fun _ => rfl) (fun _ => rfl) (lti rfl hn) (lti rfl hn) rfl) dX0_copyFrom_63 rfl rfl (ble' rfl) (by decide) ?_
  refine aw_aload_n dX0_copyFrom_66 rfl ?_
  refine aw_aload_n dX0_copyFrom_67 rfl ?_
  refine aw_get fl_X0_30 dX0_copyFrom_68 e_113 (lti rfl hn) rfl ?_
  refine aw_put fp_X0_30_m dX0_copyFrom_71 e_15 (lti rfl hn) (ble' rfl) (fun _ => ⟨rfl, rfl⟩) (hwf rfl) ?_
  refine aw_vret rfl dX0_copyFrom_74 (ble' rfl) (ble' rfl) ?_
  exact pd_v rfl

def cpX4_1_99 (M : Nat → Nat → Int32) : Nat → Nat → Int32 := updM (updM (updM (updM (updM (updM (M) 23 (va_cpy (M 121) (M 23) 0 0 20)) 24 (va_cpy (M 122) (M 24) 0 0 20)) 25 (va_cpy (M 123) (M 25) 0 0 20)) 26 (va_cpy (M 124) (M 26) 0 0 20)) 27 (va_cpy (M 125) (M 27) 0 0 20)) 22 (upd (M 22) 5 (M 120 5))
set_option maxRecDepth 100000 in
set_option maxHeartbeats 4000000 in
theorem c_X4_copyFrom_1_99 {G : AG} {M : Nat → Nat → Int32} {n : Nat} (hn : 126 ≤ n) : AMet tX4_copyFrom yX4_copyFrom [Cond.code yX4_copyFrom cX4_copyFrom 2 none] [.ref 22, .ref 120] (wld G M) n (PD (.inl none) (wld G (cpX4_1_99 M)) n) := by
  refine am_of (lo := [_, _]) (by decide) rfl (fun q => by cases q) rfl rfl rfl ?_
  refine aw_aload_n dX4_copyFrom_0 rfl ?_
  refine aw_get fl_X4_9 dX4_copyFrom_1 e_120 (lti rfl hn) rfl ?_
  refine aw_aload_n dX4_copyFrom_4 rfl ?_
  refine aw_get fl_X4_9 dX4_copyFrom_5 e_22 (lti rfl hn) rfl ?_
  refine ap_callSv ks_X4_31 ko_X9_copyRow (cpw (fun _ => rfl) (fun _ => rfl) (lti rfl hn) (lti rfl hn) rfl) dX4_copyFrom_8 rfl rfl (ble' rfl) (by decide) ?_
  refine aw_aload_n dX4_copyFrom_11 rfl ?_
  refine aw_get fl_X4_15 dX4_copyFrom_12 e_120 (lti rfl hn) rfl ?_
  refine aw_aload_n dX4_copyFrom_15 rfl ?_
  refine aw_get fl_X4_15 dX4_copyFrom_16 e_22 (lti rfl hn) rfl ?_
  refine ap_callSv ks_X4_31 ko_X9_copyRow (cpw (fun _ => rfl) (fun _ => rfl) (lti rfl hn) (lti rfl hn) rfl) dX4_copyFrom_19 rfl rfl (ble' rfl) (by decide) ?_
  refine aw_aload_n dX4_copyFrom_22 rfl ?_
  refine aw_get fl_X4_18 dX4_copyFrom_23 e_120 (lti rfl hn) rfl ?_
  refine aw_aload_n dX4_copyFrom_26 rfl ?_
  refine aw_get fl_X4_18 dX4_copyFrom_27 e_22 (lti rfl hn) rfl ?_
  refine ap_callSv ks_X4_31 ko_X9_copyRow (cpw (fun _ => rfl) (fun _ => rfl) (lti rfl hn) (lti rfl hn) rfl) dX4_copyFrom_30 rfl rfl (ble' rfl) (by decide) ?_
  refine aw_aload_n dX4_copyFrom_33 rfl ?_
  refine aw_get fl_X4_21 dX4_copyFrom_34 e_120 (lti rfl hn) rfl ?_
  refine aw_aload_n dX4_copyFrom_37 rfl ?_
  refine aw_get fl_X4_21 dX4_copyFrom_38 e_22 (lti rfl hn) rfl ?_
  refine ap_callSv ks_X4_31 ko_X9_copyRow (cpw (fun _ => rfl) (fun _ => rfl) (lti rfl hn) (lti rfl hn) rfl) dX4_copyFrom_41 rfl rfl (ble' rfl) (by decide) ?_
  refine aw_aload_n dX4_copyFrom_44 rfl ?_
  refine aw_get fl_X4_24 dX4_copyFrom_45 e_120 (lti rfl hn) rfl ?_
  refine aw_aload_n dX4_copyFrom_48 rfl ?_
  refine aw_get fl_X4_24 dX4_copyFrom_49 e_22 (lti rfl hn) rfl ?_
  refine ap_callSv ks_X4_31 ko_X9_copyRow (cpw (fun _ => rfl) (fun _ => rfl) (lti rfl hn) (lti rfl hn) rfl) dX4_copyFrom_52 rfl rfl (ble' rfl) (by decide) ?_
  refine aw_aload_n dX4_copyFrom_55 rfl ?_
  refine aw_aload_n dX4_copyFrom_56 rfl ?_
  refine aw_get fl_X4_27 dX4_copyFrom_57 e_120 (lti rfl hn) rfl ?_
  refine aw_put fp_X4_27_m dX4_copyFrom_60 e_22 (lti rfl hn) (ble' rfl) (fun _ => ⟨rfl, rfl⟩) (hwf rfl) ?_
  refine aw_vret rfl dX4_copyFrom_63 (ble' rfl) (ble' rfl) ?_
  exact pd_v rfl

/-- the camp 99 copied over the camp 1 -/
def cp_1_99 (M : Nat → Nat → Int32) : Nat → Nat → Int32 := updM (updM (updM (updM (updM (updM (updM (updM (updM (updM (updM (updM (updM (updM (updM (updM (updM (updM (updM (updM (updM (updM (updM (updM (updM (updM (updM (M) 3 (va_cpy (M 101) (M 3) 0 0 4)) 4 (va_cpy (M 102) (M 4) 0 0 4)) 5 (va_cpy (M 103) (M 5) 0 0 4)) 2 (upd (M 2) 3 (M 100 3))) 7 (va_cpy (M 105) (M 7) 0 0 16)) 8 (va_cpy (M 106) (M 8) 0 0 16)) 6 (upd (M 6) 2 (M 104 2))) 10 (va_cpy (M 108) (M 10) 0 0 12)) 11 (va_cpy (M 109) (M 11) 0 0 12)) 12 (va_cpy (M 110) (M 12) 0 0 12)) 13 (va_cpy (M 111) (M 13) 0 0 12)) 14 (va_cpy (M 112) (M 14) 0 0 12)) 9 (upd (M 9) 5 (M 107 5))) 16 (va_cpy (M 114) (M 16) 0 0 60)) 17 (va_cpy (M 115) (M 17) 0 0 60)) 18 (va_cpy (M 116) (M 18) 0 0 60)) 19 (va_cpy (M 117) (M 19) 0 0 60)) 20 (va_cpy (M 118) (M 20) 0 0 60)) 21 (va_cpy (M 119) (M 21) 0 0 60)) 15 (upd (M 15) 6 (M 113 6))) 23 (va_cpy (M 121) (M 23) 0 0 20)) 24 (va_cpy (M 122) (M 24) 0 0 20)) 25 (va_cpy (M 123) (M 25) 0 0 20)) 26 (va_cpy (M 124) (M 26) 0 0 20)) 27 (va_cpy (M 125) (M 27) 0 0 20)) 22 (upd (M 22) 5 (M 120 5))) 1 (upd (M 1) 5 (M 99 5))
set_option maxRecDepth 100000 in
set_option maxHeartbeats 4000000 in
theorem c_X1_copyFrom_1_99 {G : AG} {M : Nat → Nat → Int32} {n : Nat} (hn : 126 ≤ n) : AMet tX1_copyFrom yX1_copyFrom [Cond.code yX1_copyFrom cX1_copyFrom 2 none] [.ref 1, .ref 99] (wld G M) n (PD (.inl none) (wld G (cp_1_99 M)) n) := by
  refine am_of (lo := [_, _]) (by decide) rfl (fun q => by cases q) rfl rfl rfl ?_
  refine aw_aload_n dX1_copyFrom_0 rfl ?_
  refine aw_get fl_X1_12 dX1_copyFrom_1 e_1 (lti rfl hn) rfl ?_
  refine aw_aload_n dX1_copyFrom_4 rfl ?_
  refine aw_get fl_X1_12 dX1_copyFrom_5 e_99 (lti rfl hn) rfl ?_
  refine ap_callVv kv_X1_57 ko_X2_copyFrom (c_X2_copyFrom_1_99 hn) dX1_copyFrom_8 e_2 (lti rfl hn) rfl rfl rfl rfl (ble' rfl) (by decide) ?_
  refine aw_aload_n dX1_copyFrom_11 rfl ?_
  refine aw_get fl_X1_21 dX1_copyFrom_12 e_1 (lti rfl hn) rfl ?_
  refine aw_aload_n dX1_copyFrom_15 rfl ?_
  refine aw_get fl_X1_21 dX1_copyFrom_16 e_99 (lti rfl hn) rfl ?_
  refine ap_callVv kv_X1_61 ko_X7_copyFrom (c_X7_copyFrom_1_99 hn) dX1_copyFrom_19 e_6 (lti rfl hn) rfl rfl rfl rfl (ble' rfl) (by decide) ?_
  refine aw_aload_n dX1_copyFrom_22 rfl ?_
  refine aw_get fl_X1_28 dX1_copyFrom_23 e_1 (lti rfl hn) rfl ?_
  refine aw_aload_n dX1_copyFrom_26 rfl ?_
  refine aw_get fl_X1_28 dX1_copyFrom_27 e_99 (lti rfl hn) rfl ?_
  refine ap_callVv kv_X1_64 ko_X5_copyFrom (c_X5_copyFrom_1_99 hn) dX1_copyFrom_30 e_9 (lti rfl hn) rfl rfl rfl rfl (ble' rfl) (by decide) ?_
  refine aw_aload_n dX1_copyFrom_33 rfl ?_
  refine aw_get fl_X1_35 dX1_copyFrom_34 e_1 (lti rfl hn) rfl ?_
  refine aw_aload_n dX1_copyFrom_37 rfl ?_
  refine aw_get fl_X1_35 dX1_copyFrom_38 e_99 (lti rfl hn) rfl ?_
  refine ap_callVv kv_X1_67 ko_X0_copyFrom (c_X0_copyFrom_1_99 hn) dX1_copyFrom_41 e_15 (lti rfl hn) rfl rfl rfl rfl (ble' rfl) (by decide) ?_
  refine aw_aload_n dX1_copyFrom_44 rfl ?_
  refine aw_get fl_X1_42 dX1_copyFrom_45 e_1 (lti rfl hn) rfl ?_
  refine aw_aload_n dX1_copyFrom_48 rfl ?_
  refine aw_get fl_X1_42 dX1_copyFrom_49 e_99 (lti rfl hn) rfl ?_
  refine ap_callVv kv_X1_70 ko_X4_copyFrom (c_X4_copyFrom_1_99 hn) dX1_copyFrom_52 e_22 (lti rfl hn) rfl rfl rfl rfl (ble' rfl) (by decide) ?_
  refine aw_aload_n dX1_copyFrom_55 rfl ?_
  refine aw_aload_n dX1_copyFrom_56 rfl ?_
  refine aw_get fl_X1_46 dX1_copyFrom_57 e_99 (lti rfl hn) rfl ?_
  refine aw_put fp_X1_46_m dX1_copyFrom_60 e_1 (lti rfl hn) (ble' rfl) (fun _ => ⟨rfl, rfl⟩) (hwf rfl) ?_
  refine aw_vret rfl dX1_copyFrom_63 (ble' rfl) (ble' rfl) ?_
  exact pd_v rfl

def clrD (M : Nat → Nat → Int32) : Nat → Nat → Int32 := updM (updM (updM (updM (updM (updM (M) 29 (upd (M 29) 3 0)) 33 (upd (M 33) 2 0)) 36 (upd (M 36) 5 0)) 42 (upd (M 42) 6 0)) 49 (upd (M 49) 5 0)) 28 (upd (M 28) 5 0)
set_option maxRecDepth 100000 in
set_option maxHeartbeats 4000000 in
theorem c_X1_clear {G : AG} {M : Nat → Nat → Int32} {n : Nat} (hn : 72 ≤ n) : AMet tX1_clear yX1_clear [Cond.code yX1_clear cX1_clear 1 none] [.ref 28] (wld G M) n (PD (.inl none) (wld G (clrD M)) n) := by
  refine am_of (lo := [_]) (by decide) rfl (fun q => by cases q) rfl rfl rfl ?_
  refine aw_aload_n dX1_clear_0 rfl ?_
  refine aw_get fl_X1_12 dX1_clear_1 e_28 (l_28 hn) rfl ?_
  refine aw_iconst (v := 0) dX1_clear_4 (by decide) ?_
  refine aw_put fp_X1_50_m dX1_clear_5 e_29 (l_29 hn) (ble' rfl) (fun _ => ⟨rfl, rfl⟩) (hwf rfl) ?_
  refine aw_aload_n dX1_clear_8 rfl ?_
  refine aw_get fl_X1_21 dX1_clear_9 e_28 (l_28 hn) rfl ?_
  refine aw_iconst (v := 0) dX1_clear_12 (by decide) ?_
  refine aw_put fp_X1_53_m dX1_clear_13 e_33 (l_33 hn) (ble' rfl) (fun _ => ⟨rfl, rfl⟩) (hwf rfl) ?_
  refine aw_aload_n dX1_clear_16 rfl ?_
  refine aw_get fl_X1_28 dX1_clear_17 e_28 (l_28 hn) rfl ?_
  refine aw_iconst (v := 0) dX1_clear_20 (by decide) ?_
  refine aw_put fp_X1_54_m dX1_clear_21 e_36 (l_36 hn) (ble' rfl) (fun _ => ⟨rfl, rfl⟩) (hwf rfl) ?_
  refine aw_aload_n dX1_clear_24 rfl ?_
  refine aw_get fl_X1_35 dX1_clear_25 e_28 (l_28 hn) rfl ?_
  refine aw_iconst (v := 0) dX1_clear_28 (by decide) ?_
  refine aw_put fp_X1_55_m dX1_clear_29 e_42 (l_42 hn) (ble' rfl) (fun _ => ⟨rfl, rfl⟩) (hwf rfl) ?_
  refine aw_aload_n dX1_clear_32 rfl ?_
  refine aw_get fl_X1_42 dX1_clear_33 e_28 (l_28 hn) rfl ?_
  refine aw_iconst (v := 0) dX1_clear_36 (by decide) ?_
  refine aw_put fp_X1_56_m dX1_clear_37 e_49 (l_49 hn) (ble' rfl) (fun _ => ⟨rfl, rfl⟩) (hwf rfl) ?_
  refine aw_aload_n dX1_clear_40 rfl ?_
  refine aw_iconst (v := 0) dX1_clear_41 (by decide) ?_
  refine aw_put fp_X1_46_m dX1_clear_42 e_28 (l_28 hn) (ble' rfl) (fun _ => ⟨rfl, rfl⟩) (hwf rfl) ?_
  refine aw_vret rfl dX1_clear_45 (ble' rfl) (ble' rfl) ?_
  exact pd_v rfl
