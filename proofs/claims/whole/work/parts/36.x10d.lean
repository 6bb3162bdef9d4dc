theorem upd_n {f : Nat → Int32} {i j : Nat} {x : Int32} (h : j ≠ i) : upd f i x j = f j := if_neg h
theorem upd_s {f : Nat → Int32} {i : Nat} {x : Int32} : upd f i x i = x := if_pos rfl
/-- one place of the reference's camp written -/
def w64 (M : Nat → Nat → Int32) (i : Nat) (x : Int32) : Nat → Nat → Int32 := updM M 64 (upd (M 64) i x)
theorem w64_at {M : Nat → Nat → Int32} {i j : Nat} {x : Int32} (h : j ≠ i) : w64 M i x 64 j = M 64 j := by unfold w64; rw [updM_s]; exact if_neg h
theorem w64_s {M : Nat → Nat → Int32} {i : Nat} {x : Int32} : w64 M i x 64 i = x := by unfold w64; rw [updM_s]; exact if_pos rfl
theorem w64_63 {M : Nat → Nat → Int32} {i : Nat} {x : Int32} : w64 M i x 63 = M 63 := updM_n (by decide)
theorem hw64 {G : AG} {M : Nat → Nat → Int32} {i : Nat} {x : Int32} : hset (wld G M) 64 (.inl (0, 572, .inl (upd (M 64) i x))) = wld G (w64 M i x) := hwa rfl
theorem rs_w {A M : Nat → Nat → Int32} (h : RS A M) {i : Nat} {x : Int32} : RS (w64 A i x) (w64 M i x) := by
  have e : M 64 = A 64 := h.1 64 (by decide) (by decide) (by decide)
  refine ⟨fun j h1 h2 h3 => ?_, fun j h1 h2 h3 => ?_⟩
  · by_cases hj : j = 64
    · subst hj; unfold w64; rw [updM_s, updM_s, e]
    · unfold w64; rw [updM_n hj, updM_n hj]; exact h.1 j h1 h2 h3
  · rw [w64_63, w64_63]; exact h.2 j h1 h2 h3
set_option maxRecDepth 100000 in
set_option maxHeartbeats 4000000 in
theorem c_X10_setBooking {G : AG} {M : Nat → Nat → Int32} {n : Nat} (hn : 72 ≤ n) {b f : Int32} {k j : Nat} (hb : b = nI k) (hk : k < 60) (hj : f = nI j) (hj5 : j < 6) (x : Int32) : AMet tX10_setBooking yX10_setBooking [Cond.code yX10_setBooking cX10_setBooking 4 none] [.ref 63, .int b, .int f, .int x] (wld G M) n (PD (.inl none) (wld G (w64 M (112 + 6 * k + j) x)) n) := by
  refine am_of (lo := [_, _, _, _]) (by decide) rfl (fun q => by cases q) rfl rfl rfl ?_
  refine aw_aload_n dX10_setBooking_0 rfl ?_
  refine aw_get fl_X10_7 dX10_setBooking_1 e_63 (l_63 hn) rfl ?_
  refine aw_bipush (v := 112) dX10_setBooking_4 (by decide) ?_
  refine aw_bipush (v := 6) dX10_setBooking_6 (by decide) ?_
  refine aw_iload_n dX10_setBooking_8 rfl ?_
  refine aw_imul dX10_setBooking_9 ?_
  refine aw_iadd dX10_setBooking_10 ?_
  refine aw_iload_n dX10_setBooking_11 rfl ?_
  refine aw_iadd dX10_setBooking_12 ?_
  refine aw_iload_n dX10_setBooking_13 rfl ?_
  refine aw_iastk dX10_setBooking_14 e_64 (l_64 hn) (k := 112 + 6 * k + j) (by rw [hb, hj, show (112 : Int32) = nI 112 from rfl, show (6 : Int32) = nI 6 from rfl, nI_mul, nI_add, nI_add]) (by omega) rfl hw64 ?_
  refine aw_vret rfl dX10_setBooking_15 (ble' rfl) (ble' rfl) ?_
  exact pd_v rfl

set_option maxRecDepth 100000 in
set_option maxHeartbeats 4000000 in
theorem c_X10_setRequest {G : AG} {M : Nat → Nat → Int32} {n : Nat} (hn : 72 ≤ n) {b f : Int32} {k j : Nat} (hb : b = nI k) (hk : k < 20) (hj : f = nI j) (hj5 : j < 5) (x : Int32) : AMet tX10_setRequest yX10_setRequest [Cond.code yX10_setRequest cX10_setRequest 4 none] [.ref 63, .int b, .int f, .int x] (wld G M) n (PD (.inl none) (wld G (w64 M (472 + 5 * k + j) x)) n) := by
  refine am_of (lo := [_, _, _, _]) (by decide) rfl (fun q => by cases q) rfl rfl rfl ?_
  refine aw_aload_n dX10_setRequest_0 rfl ?_
  refine aw_get fl_X10_7 dX10_setRequest_1 e_63 (l_63 hn) rfl ?_
  refine aw_sipush (v := 472) dX10_setRequest_4 (by decide) ?_
  refine aw_iconst (v := 5) dX10_setRequest_7 (by decide) ?_
  refine aw_iload_n dX10_setRequest_8 rfl ?_
  refine aw_imul dX10_setRequest_9 ?_
  refine aw_iadd dX10_setRequest_10 ?_
  refine aw_iload_n dX10_setRequest_11 rfl ?_
  refine aw_iadd dX10_setRequest_12 ?_
  refine aw_iload_n dX10_setRequest_13 rfl ?_
  refine aw_iastk dX10_setRequest_14 e_64 (l_64 hn) (k := 472 + 5 * k + j) (by rw [hb, hj, show (472 : Int32) = nI 472 from rfl, show (5 : Int32) = nI 5 from rfl, nI_mul, nI_add, nI_add]) (by omega) rfl hw64 ?_
  refine aw_vret rfl dX10_setRequest_15 (ble' rfl) (ble' rfl) ?_
  exact pd_v rfl

def appendClassM (M : Nat → Nat → Int32) (k : Nat) (w s q : Int32) : Nat → Nat → Int32 := (w64 (w64 (w64 (w64 M (8 + 3 * k + 0) w) (8 + 3 * k + 1) s) (8 + 3 * k + 2) q) 1 (nI (k + 1)))
set_option maxRecDepth 100000 in
set_option maxHeartbeats 4000000 in
theorem c_X10_appendClass {G : AG} {M : Nat → Nat → Int32} {n : Nat} (hn : 72 ≤ n) {k : Nat} (hk : M 64 1 = nI k) (hlt : k < 4) (w s q : Int32) : AMet tX10_appendClass yX10_appendClass [Cond.code yX10_appendClass cX10_appendClass 5 (some .int)] [.ref 63, .int w, .int s, .int q] (wld G M) n (PD (.inl (some (.int (nI k)))) (wld G (appendClassM M k w s q)) n) := by
  refine am_of (lo := [_, _, _, _, _]) (by decide) rfl (fun q => by cases q) rfl rfl rfl ?_
  refine aw_bipush (v := 8) dX10_appendClass_0 (by decide) ?_
  refine aw_iconst (v := 3) dX10_appendClass_2 (by decide) ?_
  refine aw_aload_n dX10_appendClass_3 rfl ?_
  refine aw_get fl_X10_7 dX10_appendClass_4 e_63 (l_63 hn) rfl ?_
  refine aw_iconst (v := 1) dX10_appendClass_7 (by decide) ?_
  refine aw_ialdk dX10_appendClass_8 e_64 (l_64 hn) (show (1 : Int32) = nI 1 from rfl) (by decide) rfl ?_
  refine aw_imul dX10_appendClass_9 ?_
  refine aw_iadd dX10_appendClass_10 ?_
  refine aw_istore (lo' := [_, _, _, _, some (.int _)]) dX10_appendClass_11 (by decide) rfl ?_
  refine aw_aload_n dX10_appendClass_13 rfl ?_
  refine aw_get fl_X10_7 dX10_appendClass_14 e_63 (l_63 hn) rfl ?_
  refine aw_iload dX10_appendClass_17 rfl ?_
  refine aw_iconst (v := 0) dX10_appendClass_19 (by decide) ?_
  refine aw_iadd dX10_appendClass_20 ?_
  refine aw_iload_n dX10_appendClass_21 rfl ?_
  refine aw_iastk dX10_appendClass_22 e_64 (l_64 hn) (k := 8 + 3 * k + 0) (by rw [hk, show (8 : Int32) = nI 8 from rfl, show (3 : Int32) = nI 3 from rfl, nI_mul, nI_add]; exact nI_add _ 0) (by omega) rfl hw64 ?_
  refine aw_aload_n dX10_appendClass_23 rfl ?_
  refine aw_get fl_X10_7 dX10_appendClass_24 e_63 (l_63 hn) rfl ?_
  refine aw_iload dX10_appendClass_27 rfl ?_
  refine aw_iconst (v := 1) dX10_appendClass_29 (by decide) ?_
  refine aw_iadd dX10_appendClass_30 ?_
  refine aw_iload_n dX10_appendClass_31 rfl ?_
  refine aw_iastk dX10_appendClass_32 e_64 (l_64 hn) (k := 8 + 3 * k + 1) (by rw [hk, show (8 : Int32) = nI 8 from rfl, show (3 : Int32) = nI 3 from rfl, nI_mul, nI_add]; exact nI_add _ 1) (by omega) rfl hw64 ?_
  refine aw_aload_n dX10_appendClass_33 rfl ?_
  refine aw_get fl_X10_7 dX10_appendClass_34 e_63 (l_63 hn) rfl ?_
  refine aw_iload dX10_appendClass_37 rfl ?_
  refine aw_iconst (v := 2) dX10_appendClass_39 (by decide) ?_
  refine aw_iadd dX10_appendClass_40 ?_
  refine aw_iload_n dX10_appendClass_41 rfl ?_
  refine aw_iastk dX10_appendClass_42 e_64 (l_64 hn) (k := 8 + 3 * k + 2) (by rw [hk, show (8 : Int32) = nI 8 from rfl, show (3 : Int32) = nI 3 from rfl, nI_mul, nI_add]; exact nI_add _ 2) (by omega) rfl hw64 ?_
  refine aw_aload_n dX10_appendClass_43 rfl ?_
  refine aw_get fl_X10_7 dX10_appendClass_44 e_63 (l_63 hn) rfl ?_
  refine aw_iconst (v := 1) dX10_appendClass_47 (by decide) ?_
  refine aw_dup2 dX10_appendClass_48 rfl rfl ?_
  refine aw_ialdk dX10_appendClass_49 e_64 (l_64 hn) (show (1 : Int32) = nI 1 from rfl) (by decide) rfl ?_
  refine aw_iconst (v := 1) dX10_appendClass_50 (by decide) ?_
  have e1 : (w64 (w64 (w64 M (8 + 3 * k + 0) w) (8 + 3 * k + 1) s) (8 + 3 * k + 2) q) 64 1 = nI k := by rw [w64_at (by omega), w64_at (by omega), w64_at (by omega)]; exact hk
  rw [e1]
  refine aw_iadd dX10_appendClass_51 ?_
  refine aw_iastk dX10_appendClass_52 e_64 (l_64 hn) (show (1 : Int32) = nI 1 from rfl) (by decide) rfl hw64 ?_
  refine aw_heq (h' := wld G (appendClassM M k w s q)) (by unfold appendClassM; rw [nI_succ]) ?_
  refine aw_aload_n dX10_appendClass_53 rfl ?_
  refine aw_get fl_X10_7 dX10_appendClass_54 e_63 (l_63 hn) rfl ?_
  refine aw_iconst (v := 1) dX10_appendClass_57 (by decide) ?_
  refine aw_ialdk dX10_appendClass_58 e_64 (l_64 hn) (show (1 : Int32) = nI 1 from rfl) (by decide) rfl ?_
  refine aw_iconst (v := 1) dX10_appendClass_59 (by decide) ?_
  refine aw_isub dX10_appendClass_60 ?_
  refine aw_iret rfl dX10_appendClass_61 (ble' rfl) (ble' rfl) ?_
  exact pd_i (by rw [show appendClassM M k w s q 64 1 = nI (k + 1) from w64_s]; exact nI_pred k)

def appendSiteM (M : Nat → Nat → Int32) (k : Nat) (c : Int32) : Nat → Nat → Int32 := (w64 (w64 (w64 M (20 + 2 * k + 0) c) (20 + 2 * k + 1) 0) 2 (nI (k + 1)))
set_option maxRecDepth 100000 in
set_option maxHeartbeats 4000000 in
theorem c_X10_appendSite {G : AG} {M : Nat → Nat → Int32} {n : Nat} (hn : 72 ≤ n) {k : Nat} (hk : M 64 2 = nI k) (hlt : k < 16) (c : Int32) : AMet tX10_appendSite yX10_appendSite [Cond.code yX10_appendSite cX10_appendSite 3 (some .int)] [.ref 63, .int c] (wld G M) n (PD (.inl (some (.int (nI k)))) (wld G (appendSiteM M k c)) n) := by
  refine am_of (lo := [_, _, _]) (by decide) rfl (fun q => by cases q) rfl rfl rfl ?_
  refine aw_bipush (v := 20) dX10_appendSite_0 (by decide) ?_
  refine aw_iconst (v := 2) dX10_appendSite_2 (by decide) ?_
  refine aw_aload_n dX10_appendSite_3 rfl ?_
  refine aw_get fl_X10_7 dX10_appendSite_4 e_63 (l_63 hn) rfl ?_
  refine aw_iconst (v := 2) dX10_appendSite_7 (by decide) ?_
  refine aw_ialdk dX10_appendSite_8 e_64 (l_64 hn) (show (2 : Int32) = nI 2 from rfl) (by decide) rfl ?_
  refine aw_imul dX10_appendSite_9 ?_
  refine aw_iadd dX10_appendSite_10 ?_
  refine aw_istore_n (lo' := [_, _, some (.int _)]) dX10_appendSite_11 (by decide) rfl ?_
  refine aw_aload_n dX10_appendSite_12 rfl ?_
  refine aw_get fl_X10_7 dX10_appendSite_13 e_63 (l_63 hn) rfl ?_
  refine aw_iload_n dX10_appendSite_16 rfl ?_
  refine aw_iconst (v := 0) dX10_appendSite_17 (by decide) ?_
  refine aw_iadd dX10_appendSite_18 ?_
  refine aw_iload_n dX10_appendSite_19 rfl ?_
  refine aw_iastk dX10_appendSite_20 e_64 (l_64 hn) (k := 20 + 2 * k + 0) (by rw [hk, show (20 : Int32) = nI 20 from rfl, show (2 : Int32) = nI 2 from rfl, nI_mul, nI_add]; exact nI_add _ 0) (by omega) rfl hw64 ?_
  refine aw_aload_n dX10_appendSite_21 rfl ?_
  refine aw_get fl_X10_7 dX10_appendSite_22 e_63 (l_63 hn) rfl ?_
  refine aw_iload_n dX10_appendSite_25 rfl ?_
  refine aw_iconst (v := 1) dX10_appendSite_26 (by decide) ?_
  refine aw_iadd dX10_appendSite_27 ?_
  refine aw_iconst (v := 0) dX10_appendSite_28 (by decide) ?_
  refine aw_iastk dX10_appendSite_29 e_64 (l_64 hn) (k := 20 + 2 * k + 1) (by rw [hk, show (20 : Int32) = nI 20 from rfl, show (2 : Int32) = nI 2 from rfl, nI_mul, nI_add]; exact nI_add _ 1) (by omega) rfl hw64 ?_
  refine aw_aload_n dX10_appendSite_30 rfl ?_
  refine aw_get fl_X10_7 dX10_appendSite_31 e_63 (l_63 hn) rfl ?_
  refine aw_iconst (v := 2) dX10_appendSite_34 (by decide) ?_
  refine aw_dup2 dX10_appendSite_35 rfl rfl ?_
  refine aw_ialdk dX10_appendSite_36 e_64 (l_64 hn) (show (2 : Int32) = nI 2 from rfl) (by decide) rfl ?_
  refine aw_iconst (v := 1) dX10_appendSite_37 (by decide) ?_
  have e1 : (w64 (w64 M (20 + 2 * k + 0) c) (20 + 2 * k + 1) 0) 64 2 = nI k := by rw [w64_at (by omega), w64_at (by omega)]; exact hk
  rw [e1]
  refine aw_iadd dX10_appendSite_38 ?_
  refine aw_iastk dX10_appendSite_39 e_64 (l_64 hn) (show (2 : Int32) = nI 2 from rfl) (by decide) rfl hw64 ?_
  refine aw_heq (h' := wld G (appendSiteM M k c)) (by unfold appendSiteM; rw [nI_succ]) ?_
  refine aw_aload_n dX10_appendSite_40 rfl ?_
  refine aw_get fl_X10_7 dX10_appendSite_41 e_63 (l_63 hn) rfl ?_
  refine aw_iconst (v := 2) dX10_appendSite_44 (by decide) ?_
  refine aw_ialdk dX10_appendSite_45 e_64 (l_64 hn) (show (2 : Int32) = nI 2 from rfl) (by decide) rfl ?_
  refine aw_iconst (v := 1) dX10_appendSite_46 (by decide) ?_
  refine aw_isub dX10_appendSite_47 ?_
  refine aw_iret rfl dX10_appendSite_48 (ble' rfl) (ble' rfl) ?_
  exact pd_i (by rw [show appendSiteM M k c 64 2 = nI (k + 1) from w64_s]; exact nI_pred k)

def appendSeasonM (M : Nat → Nat → Int32) (k : Nat) (c f l m p : Int32) : Nat → Nat → Int32 := (w64 (w64 (w64 (w64 (w64 (w64 M (52 + 5 * k + 0) c) (52 + 5 * k + 1) f) (52 + 5 * k + 2) l) (52 + 5 * k + 3) m) (52 + 5 * k + 4) p) 3 (nI (k + 1)))
set_option maxRecDepth 100000 in
set_option maxHeartbeats 4000000 in
theorem c_X10_appendSeason {G : AG} {M : Nat → Nat → Int32} {n : Nat} (hn : 72 ≤ n) {k : Nat} (hk : M 64 3 = nI k) (hlt : k < 12) (c f l m p : Int32) : AMet tX10_appendSeason yX10_appendSeason [Cond.code yX10_appendSeason cX10_appendSeason 7 (some .int)] [.ref 63, .int c, .int f, .int l, .int m, .int p] (wld G M) n (PD (.inl (some (.int (nI k)))) (wld G (appendSeasonM M k c f l m p)) n) := by
  refine am_of (lo := [_, _, _, _, _, _, _]) (by decide) rfl (fun q => by cases q) rfl rfl rfl ?_
  refine aw_bipush (v := 52) dX10_appendSeason_0 (by decide) ?_
  refine aw_iconst (v := 5) dX10_appendSeason_2 (by decide) ?_
  refine aw_aload_n dX10_appendSeason_3 rfl ?_
  refine aw_get fl_X10_7 dX10_appendSeason_4 e_63 (l_63 hn) rfl ?_
  refine aw_iconst (v := 3) dX10_appendSeason_7 (by decide) ?_
  refine aw_ialdk dX10_appendSeason_8 e_64 (l_64 hn) (show (3 : Int32) = nI 3 from rfl) (by decide) rfl ?_
  refine aw_imul dX10_appendSeason_9 ?_
  refine aw_iadd dX10_appendSeason_10 ?_
  refine aw_istore (lo' := [_, _, _, _, _, _, some (.int _)]) dX10_appendSeason_11 (by decide) rfl ?_
  refine aw_aload_n dX10_appendSeason_13 rfl ?_
  refine aw_get fl_X10_7 dX10_appendSeason_14 e_63 (l_63 hn) rfl ?_
  refine aw_iload dX10_appendSeason_17 rfl ?_
  refine aw_iconst (v := 0) dX10_appendSeason_19 (by decide) ?_
  refine aw_iadd dX10_appendSeason_20 ?_
  refine aw_iload_n dX10_appendSeason_21 rfl ?_
  refine aw_iastk dX10_appendSeason_22 e_64 (l_64 hn) (k := 52 + 5 * k + 0) (by rw [hk, show (52 : Int32) = nI 52 from rfl, show (5 : Int32) = nI 5 from rfl, nI_mul, nI_add]; exact nI_add _ 0) (by omega) rfl hw64 ?_
  refine aw_aload_n dX10_appendSeason_23 rfl ?_
  refine aw_get fl_X10_7 dX10_appendSeason_24 e_63 (l_63 hn) rfl ?_
  refine aw_iload dX10_appendSeason_27 rfl ?_
  refine aw_iconst (v := 1) dX10_appendSeason_29 (by decide) ?_
  refine aw_iadd dX10_appendSeason_30 ?_
  refine aw_iload_n dX10_appendSeason_31 rfl ?_
  refine aw_iastk dX10_appendSeason_32 e_64 (l_64 hn) (k := 52 + 5 * k + 1) (by rw [hk, show (52 : Int32) = nI 52 from rfl, show (5 : Int32) = nI 5 from rfl, nI_mul, nI_add]; exact nI_add _ 1) (by omega) rfl hw64 ?_
  refine aw_aload_n dX10_appendSeason_33 rfl ?_
  refine aw_get fl_X10_7 dX10_appendSeason_34 e_63 (l_63 hn) rfl ?_
  refine aw_iload dX10_appendSeason_37 rfl ?_
  refine aw_iconst (v := 2) dX10_appendSeason_39 (by decide) ?_
  refine aw_iadd dX10_appendSeason_40 ?_
  refine aw_iload_n dX10_appendSeason_41 rfl ?_
  refine aw_iastk dX10_appendSeason_42 e_64 (l_64 hn) (k := 52 + 5 * k + 2) (by rw [hk, show (52 : Int32) = nI 52 from rfl, show (5 : Int32) = nI 5 from rfl, nI_mul, nI_add]; exact nI_add _ 2) (by omega) rfl hw64 ?_
  refine aw_aload_n dX10_appendSeason_43 rfl ?_
  refine aw_get fl_X10_7 dX10_appendSeason_44 e_63 (l_63 hn) rfl ?_
  refine aw_iload dX10_appendSeason_47 rfl ?_
  refine aw_iconst (v := 3) dX10_appendSeason_49 (by decide) ?_
  refine aw_iadd dX10_appendSeason_50 ?_
  refine aw_iload dX10_appendSeason_51 rfl ?_
  refine aw_iastk dX10_appendSeason_53 e_64 (l_64 hn) (k := 52 + 5 * k + 3) (by rw [hk, show (52 : Int32) = nI 52 from rfl, show (5 : Int32) = nI 5 from rfl, nI_mul, nI_add]; exact nI_add _ 3) (by omega) rfl hw64 ?_
  refine aw_aload_n dX10_appendSeason_54 rfl ?_
  refine aw_get fl_X10_7 dX10_appendSeason_55 e_63 (l_63 hn) rfl ?_
  refine aw_iload dX10_appendSeason_58 rfl ?_
  refine aw_iconst (v := 4) dX10_appendSeason_60 (by decide) ?_
  refine aw_iadd dX10_appendSeason_61 ?_
  refine aw_iload dX10_appendSeason_62 rfl ?_
  refine aw_iastk dX10_appendSeason_64 e_64 (l_64 hn) (k := 52 + 5 * k + 4) (by rw [hk, show (52 : Int32) = nI 52 from rfl, show (5 : Int32) = nI 5 from rfl, nI_mul, nI_add]; exact nI_add _ 4) (by omega) rfl hw64 ?_
  refine aw_aload_n dX10_appendSeason_65 rfl ?_
  refine aw_get fl_X10_7 dX10_appendSeason_66 e_63 (l_63 hn) rfl ?_
  refine aw_iconst (v := 3) dX10_appendSeason_69 (by decide) ?_
  refine aw_dup2 dX10_appendSeason_70 rfl rfl ?_
  refine aw_ialdk dX10_appendSeason_71 e_64 (l_64 hn) (show (3 : Int32) = nI 3 from rfl) (by decide) rfl ?_
  refine aw_iconst (v := 1) dX10_appendSeason_72 (by decide) ?_
  have e1 : (w64 (w64 (w64 (w64 (w64 M (52 + 5 * k + 0) c) (52 + 5 * k + 1) f) (52 + 5 * k + 2) l) (52 + 5 * k + 3) m) (52 + 5 * k + 4) p) 64 3 = nI k := by rw [w64_at (by omega), w64_at (by omega), w64_at (by omega), w64_at (by omega), w64_at (by omega)]; exact hk
  rw [e1]
  refine aw_iadd dX10_appendSeason_73 ?_
  refine aw_iastk dX10_appendSeason_74 e_64 (l_64 hn) (show (3 : Int32) = nI 3 from rfl) (by decide) rfl hw64 ?_
  refine aw_heq (h' := wld G (appendSeasonM M k c f l m p)) (by unfold appendSeasonM; rw [nI_succ]) ?_
  refine aw_aload_n dX10_appendSeason_75 rfl ?_
  refine aw_get fl_X10_7 dX10_appendSeason_76 e_63 (l_63 hn) rfl ?_
  refine aw_iconst (v := 3) dX10_appendSeason_79 (by decide) ?_
  refine aw_ialdk dX10_appendSeason_80 e_64 (l_64 hn) (show (3 : Int32) = nI 3 from rfl) (by decide) rfl ?_
  refine aw_iconst (v := 1) dX10_appendSeason_81 (by decide) ?_
  refine aw_isub dX10_appendSeason_82 ?_
  refine aw_iret rfl dX10_appendSeason_83 (ble' rfl) (ble' rfl) ?_
  exact pd_i (by rw [show appendSeasonM M k c f l m p 64 3 = nI (k + 1) from w64_s]; exact nI_pred k)

def appendRequestM (M : Nat → Nat → Int32) (k : Nat) (c a m : Int32) : Nat → Nat → Int32 := (w64 (w64 (w64 (w64 (w64 (w64 M (472 + 5 * k + 0) c) (472 + 5 * k + 1) a) (472 + 5 * k + 2) m) (472 + 5 * k + 3) 0) (472 + 5 * k + 4) (-1)) 5 (nI (k + 1)))
set_option maxRecDepth 100000 in
set_option maxHeartbeats 4000000 in
theorem c_X10_appendRequest {G : AG} {M : Nat → Nat → Int32} {n : Nat} (hn : 72 ≤ n) {k : Nat} (hk : M 64 5 = nI k) (hlt : k < 20) (c a m : Int32) : AMet tX10_appendRequest yX10_appendRequest [Cond.code yX10_appendRequest cX10_appendRequest 5 (some .int)] [.ref 63, .int c, .int a, .int m] (wld G M) n (PD (.inl (some (.int (nI k)))) (wld G (appendRequestM M k c a m)) n) := by
  refine am_of (lo := [_, _, _, _, _]) (by decide) rfl (fun q => by cases q) rfl rfl rfl ?_
  refine aw_aload_n dX10_appendRequest_0 rfl ?_
  refine aw_get fl_X10_7 dX10_appendRequest_1 e_63 (l_63 hn) rfl ?_
  refine aw_iconst (v := 5) dX10_appendRequest_4 (by decide) ?_
  refine aw_ialdk dX10_appendRequest_5 e_64 (l_64 hn) (show (5 : Int32) = nI 5 from rfl) (by decide) rfl ?_
  refine aw_istore (lo' := [_, _, _, _, some (.int _)]) dX10_appendRequest_6 (by decide) rfl ?_
  refine aw_aload_n dX10_appendRequest_8 rfl ?_
  refine aw_iload dX10_appendRequest_9 rfl ?_
  refine aw_iconst (v := 0) dX10_appendRequest_11 (by decide) ?_
  refine aw_iload_n dX10_appendRequest_12 rfl ?_
  refine ap_callVv kv_X10_159 ko_X10_setRequest (c_X10_setRequest hn hk (by omega) (show (0 : Int32) = nI 0 from rfl) (by decide) _) dX10_appendRequest_13 e_63 (l_63 hn) rfl rfl rfl rfl (ble' rfl) (by decide) ?_
  refine aw_aload_n dX10_appendRequest_16 rfl ?_
  refine aw_iload dX10_appendRequest_17 rfl ?_
  refine aw_iconst (v := 1) dX10_appendRequest_19 (by decide) ?_
  refine aw_iload_n dX10_appendRequest_20 rfl ?_
  refine ap_callVv kv_X10_159 ko_X10_setRequest (c_X10_setRequest hn hk (by omega) (show (1 : Int32) = nI 1 from rfl) (by decide) _) dX10_appendRequest_21 e_63 (l_63 hn) rfl rfl rfl rfl (ble' rfl) (by decide) ?_
  refine aw_aload_n dX10_appendRequest_24 rfl ?_
  refine aw_iload dX10_appendRequest_25 rfl ?_
  refine aw_iconst (v := 2) dX10_appendRequest_27 (by decide) ?_
  refine aw_iload_n dX10_appendRequest_28 rfl ?_
  refine ap_callVv kv_X10_159 ko_X10_setRequest (c_X10_setRequest hn hk (by omega) (show (2 : Int32) = nI 2 from rfl) (by decide) _) dX10_appendRequest_29 e_63 (l_63 hn) rfl rfl rfl rfl (ble' rfl) (by decide) ?_
  refine aw_aload_n dX10_appendRequest_32 rfl ?_
  refine aw_iload dX10_appendRequest_33 rfl ?_
  refine aw_iconst (v := 3) dX10_appendRequest_35 (by decide) ?_
  refine aw_iconst (v := 0) dX10_appendRequest_36 (by decide) ?_
  refine ap_callVv kv_X10_159 ko_X10_setRequest (c_X10_setRequest hn hk (by omega) (show (3 : Int32) = nI 3 from rfl) (by decide) _) dX10_appendRequest_37 e_63 (l_63 hn) rfl rfl rfl rfl (ble' rfl) (by decide) ?_
  refine aw_aload_n dX10_appendRequest_40 rfl ?_
  refine aw_iload dX10_appendRequest_41 rfl ?_
  refine aw_iconst (v := 4) dX10_appendRequest_43 (by decide) ?_
  refine aw_iconst (v := -1) dX10_appendRequest_44 (by decide) ?_
  refine ap_callVv kv_X10_159 ko_X10_setRequest (c_X10_setRequest hn hk (by omega) (show (4 : Int32) = nI 4 from rfl) (by decide) _) dX10_appendRequest_45 e_63 (l_63 hn) rfl rfl rfl rfl (ble' rfl) (by decide) ?_
  refine aw_aload_n dX10_appendRequest_48 rfl ?_
  refine aw_get fl_X10_7 dX10_appendRequest_49 e_63 (l_63 hn) rfl ?_
  refine aw_iconst (v := 5) dX10_appendRequest_52 (by decide) ?_
  refine aw_dup2 dX10_appendRequest_53 rfl rfl ?_
  refine aw_ialdk dX10_appendRequest_54 e_64 (l_64 hn) (show (5 : Int32) = nI 5 from rfl) (by decide) rfl ?_
  refine aw_iconst (v := 1) dX10_appendRequest_55 (by decide) ?_
  have e1 : (w64 (w64 (w64 (w64 (w64 M (472 + 5 * k + 0) c) (472 + 5 * k + 1) a) (472 + 5 * k + 2) m) (472 + 5 * k + 3) 0) (472 + 5 * k + 4) (-1)) 64 5 = nI k := by rw [w64_at (by omega), w64_at (by omega), w64_at (by omega), w64_at (by omega), w64_at (by omega)]; exact hk
  rw [e1]
  refine aw_iadd dX10_appendRequest_56 ?_
  refine aw_iastk dX10_appendRequest_57 e_64 (l_64 hn) (show (5 : Int32) = nI 5 from rfl) (by decide) rfl hw64 ?_
  refine aw_iload dX10_appendRequest_58 rfl ?_
  refine aw_iret rfl dX10_appendRequest_60 (ble' rfl) (ble' rfl) ?_
  exact pd_ih hk (by unfold appendRequestM; rw [nI_succ])

def cr_addClass (M : Nat → Nat → Int32) (w s q : Int32) : Nat := if ¬ ((1 ≤ w ∧ w ≤ 200) ∧ (0 ≤ s ∧ s ≤ w) ∧ (0 ≤ q ∧ q ≤ 16)) then 1 else if ¬ (¬ M 64 1 = 4) then 2 else 0
set_option maxRecDepth 100000 in
set_option maxHeartbeats 4000000 in
theorem c_X10_addClass {G : AG} {M : Nat → Nat → Int32} {n : Nat} (hn : 72 ≤ n) {nc ns nz nb nr tt : Nat} (hI : CR M nc ns nz nb nr tt)  (w s q : Int32) : AMet tX10_addClass yX10_addClass [Cond.code yX10_addClass cX10_addClass 4 (some .int)] [.ref 63, .int w, .int s, .int q] (wld G M) n (PR (cr_addClass M w s q) (nI nc) G M (appendClassM M nc w s q) n) := by
  refine am_of (lo := [_, _, _, _]) (by decide) rfl (fun q => by cases q) rfl rfl rfl ?_
  refine aw_aload_n dX10_addClass_0 rfl ?_
  refine aw_iconst (v := 0) dX10_addClass_1 (by decide) ?_
  refine aw_put fp_X10_36_m dX10_addClass_2 e_63 (l_63 hn) (ble' rfl) (fun _ => ⟨rfl, rfl⟩) (hwf rfl) ?_
  obtain ⟨M', e64, e63, eRS, e4, eW⟩ : ∃ M', M 64 = M' 64 ∧ (∀ j, j ≠ 4 → M 63 j = M' 63 j) ∧ RS M M' ∧ M' 63 4 = 0 ∧ wld G (updM M 63 (upd (M 63) 4 0)) = wld G M' := ⟨_, rfl, fun j h => (if_neg h).symm, rs_1, rfl, rfl⟩
  refine aw_heq eW ?_
  rw [show cr_addClass M w s q = cr_addClass M' w s q from by unfold cr_addClass; simp only [e64, V_eq e64, rlV_eq e64, avV_eq e64, frR_eq e64, onV_eq e64, mnV_eq e64, osV_eq e64, vaV_eq e64, nsR_eq e64, nbR_eq e64, nzR_eq e64, nrR_eq e64]]
  have hI' : CR M' nc ns nz nb nr tt := by unfold CR at hI ⊢; rw [← e64]; exact hI
  clear hI eW
  obtain ⟨hc, hcl, hs, hsl, hz, hzl, hb, hbl, hr, hrl, ht, htl⟩ := id hI'
  have ens : nsR M' = ns := cl_of hs (by omega)
  have enb : nbR M' = nb := cl_of hb (by omega)
  have enz : nzR M' = nz := cl_of hz (by omega)
  have enr : nrR M' = nr := cl_of hr (by omega)
  refine aw_iload_n dX10_addClass_5 rfl ?_
  refine aw_iconst (v := 1) dX10_addClass_6 (by decide) ?_
  refine aw_sipush (v := 200) dX10_addClass_7 (by decide) ?_
  refine ap_callSi ks_X10_39 ko_X10_isBetween (c_X10_isBetween _ _ _) dX10_addClass_10 rfl rfl (ble' rfl) (by decide) ?_
  refine aw_if_eq 35 dX10_addClass_13 (by decide) (fun c13 => ?_) (fun c13 => ?_)
  · have n13 := bI_z.mp c13
    refine aw_aload_n dX10_addClass_35 rfl ?_
    refine aw_iconst (v := 1) dX10_addClass_36 (by decide) ?_
    refine ap_callVi kv_X10_43 ko_X10_fail (c_X10_fail hn _) dX10_addClass_37 e_63 (l_63 hn) rfl rfl rfl rfl (ble' rfl) (by decide) ?_
    refine aw_iret rfl dX10_addClass_40 (ble' rfl) (ble' rfl) ?_
    exact pr_no (k := 0) (by rw [cr_addClass, if_pos (fun q => n13 q.1)]) (rs_tr eRS rs_1) rfl
  · have n13 := bI_nz.mp c13
    refine aw_iload_n dX10_addClass_16 rfl ?_
    refine aw_iconst (v := 0) dX10_addClass_17 (by decide) ?_
    refine aw_iload_n dX10_addClass_18 rfl ?_
    refine ap_callSi ks_X10_39 ko_X10_isBetween (c_X10_isBetween _ _ _) dX10_addClass_19 rfl rfl (ble' rfl) (by decide) ?_
    refine aw_if_eq 35 dX10_addClass_22 (by decide) (fun c22 => ?_) (fun c22 => ?_)
    · have n22 := bI_z.mp c22
      refine aw_aload_n dX10_addClass_35 rfl ?_
      refine aw_iconst (v := 1) dX10_addClass_36 (by decide) ?_
      refine ap_callVi kv_X10_43 ko_X10_fail (c_X10_fail hn _) dX10_addClass_37 e_63 (l_63 hn) rfl rfl rfl rfl (ble' rfl) (by decide) ?_
      refine aw_iret rfl dX10_addClass_40 (ble' rfl) (ble' rfl) ?_
      exact pr_no (k := 0) (by rw [cr_addClass, if_pos (fun q => n22 q.2.1)]) (rs_tr eRS rs_1) rfl
    · have n22 := bI_nz.mp c22
      refine aw_iload_n dX10_addClass_25 rfl ?_
      refine aw_iconst (v := 0) dX10_addClass_26 (by decide) ?_
      refine aw_bipush (v := 16) dX10_addClass_27 (by decide) ?_
      refine ap_callSi ks_X10_39 ko_X10_isBetween (c_X10_isBetween _ _ _) dX10_addClass_29 rfl rfl (ble' rfl) (by decide) ?_
      refine aw_if_ne 41 dX10_addClass_32 (by decide) (fun c32 => ?_) (fun c32 => ?_)
      · have n32 := bI_nz.mp c32
        refine aw_aload_n dX10_addClass_41 rfl ?_
        refine aw_get fl_X10_7 dX10_addClass_42 e_63 (l_63 hn) rfl ?_
        refine aw_iconst (v := 1) dX10_addClass_45 (by decide) ?_
        refine aw_ialdk dX10_addClass_46 e_64 (l_64 hn) (show (1 : Int32) = nI 1 from rfl) (by decide) rfl ?_
        refine aw_iconst (v := 4) dX10_addClass_47 (by decide) ?_
        refine aw_icmp_ne 59 dX10_addClass_48 (by decide) (fun c48 => ?_) (fun c48 => ?_)
        · refine aw_aload_n dX10_addClass_59 rfl ?_
          refine aw_iload_n dX10_addClass_60 rfl ?_
          refine aw_iload_n dX10_addClass_61 rfl ?_
          refine aw_iload_n dX10_addClass_62 rfl ?_
          refine ap_callVi kv_X10_47 ko_X10_appendClass (c_X10_appendClass hn hc (by rcases Nat.lt_or_ge nc 4 with q | q; exact q; exact absurd (by rw [hc, show nc = 4 by omega]; rfl) c48) _ _ _) dX10_addClass_63 e_63 (l_63 hn) rfl rfl rfl rfl (ble' rfl) (by decide) ?_
          refine aw_iret rfl dX10_addClass_66 (ble' rfl) (ble' rfl) ?_
          exact pr_ok (by rw [cr_addClass, if_neg (fun q => q ⟨n13, n22, n32⟩), if_neg (fun q => q c48)]) (rfl) (rs_w (rs_w (rs_w (rs_w eRS)))) e4
        · refine aw_aload_n dX10_addClass_51 rfl ?_
          refine aw_iconst (v := 2) dX10_addClass_52 (by decide) ?_
          refine ap_callVi kv_X10_43 ko_X10_fail (c_X10_fail hn _) dX10_addClass_53 e_63 (l_63 hn) rfl rfl rfl rfl (ble' rfl) (by decide) ?_
          refine aw_goto 66 dX10_addClass_56 (by decide) ?_
          refine aw_iret rfl dX10_addClass_66 (ble' rfl) (ble' rfl) ?_
          exact pr_no (k := 1) (by rw [cr_addClass, if_neg (fun q => q ⟨n13, n22, n32⟩), if_pos (fun q => q c48)]) (rs_tr eRS rs_1) rfl
      · have n32 := bI_z.mp c32
        refine aw_aload_n dX10_addClass_35 rfl ?_
        refine aw_iconst (v := 1) dX10_addClass_36 (by decide) ?_
        refine ap_callVi kv_X10_43 ko_X10_fail (c_X10_fail hn _) dX10_addClass_37 e_63 (l_63 hn) rfl rfl rfl rfl (ble' rfl) (by decide) ?_
        refine aw_iret rfl dX10_addClass_40 (ble' rfl) (ble' rfl) ?_
        exact pr_no (k := 0) (by rw [cr_addClass, if_pos (fun q => n32 q.2.2)]) (rs_tr eRS rs_1) rfl

def cr_addSite (M : Nat → Nat → Int32) (c : Int32) : Nat := if ¬ (0 ≤ c ∧ c ≤ M 64 1 - 1) then 1 else if ¬ (¬ M 64 2 = 16) then 2 else 0
set_option maxRecDepth 100000 in
set_option maxHeartbeats 4000000 in
theorem c_X10_addSite {G : AG} {M : Nat → Nat → Int32} {n : Nat} (hn : 72 ≤ n) {nc ns nz nb nr tt : Nat} (hI : CR M nc ns nz nb nr tt)  (c : Int32) : AMet tX10_addSite yX10_addSite [Cond.code yX10_addSite cX10_addSite 2 (some .int)] [.ref 63, .int c] (wld G M) n (PR (cr_addSite M c) (nI ns) G M (appendSiteM M ns c) n) := by
  refine am_of (lo := [_, _]) (by decide) rfl (fun q => by cases q) rfl rfl rfl ?_
  refine aw_aload_n dX10_addSite_0 rfl ?_
  refine aw_iconst (v := 0) dX10_addSite_1 (by decide) ?_
  refine aw_put fp_X10_36_m dX10_addSite_2 e_63 (l_63 hn) (ble' rfl) (fun _ => ⟨rfl, rfl⟩) (hwf rfl) ?_
  obtain ⟨M', e64, e63, eRS, e4, eW⟩ : ∃ M', M 64 = M' 64 ∧ (∀ j, j ≠ 4 → M 63 j = M' 63 j) ∧ RS M M' ∧ M' 63 4 = 0 ∧ wld G (updM M 63 (upd (M 63) 4 0)) = wld G M' := ⟨_, rfl, fun j h => (if_neg h).symm, rs_1, rfl, rfl⟩
  refine aw_heq eW ?_
  rw [show cr_addSite M c = cr_addSite M' c from by unfold cr_addSite; simp only [e64, V_eq e64, rlV_eq e64, avV_eq e64, frR_eq e64, onV_eq e64, mnV_eq e64, osV_eq e64, vaV_eq e64, nsR_eq e64, nbR_eq e64, nzR_eq e64, nrR_eq e64]]
  have hI' : CR M' nc ns nz nb nr tt := by unfold CR at hI ⊢; rw [← e64]; exact hI
  clear hI eW
  obtain ⟨hc, hcl, hs, hsl, hz, hzl, hb, hbl, hr, hrl, ht, htl⟩ := id hI'
  have ens : nsR M' = ns := cl_of hs (by omega)
  have enb : nbR M' = nb := cl_of hb (by omega)
  have enz : nzR M' = nz := cl_of hz (by omega)
  have enr : nrR M' = nr := cl_of hr (by omega)
  refine aw_aload_n dX10_addSite_5 rfl ?_
  refine aw_iload_n dX10_addSite_6 rfl ?_
  refine ap_callVi kv_X10_51 ko_X10_isClass (c_X10_isClass hn _) dX10_addSite_7 e_63 (l_63 hn) rfl rfl rfl rfl (ble' rfl) (by decide) ?_
  refine aw_if_ne 19 dX10_addSite_10 (by decide) (fun c10 => ?_) (fun c10 => ?_)
  · have n10 := bI_nz.mp c10
    refine aw_aload_n dX10_addSite_19 rfl ?_
    refine aw_get fl_X10_7 dX10_addSite_20 e_63 (l_63 hn) rfl ?_
    refine aw_iconst (v := 2) dX10_addSite_23 (by decide) ?_
    refine aw_ialdk dX10_addSite_24 e_64 (l_64 hn) (show (2 : Int32) = nI 2 from rfl) (by decide) rfl ?_
    refine aw_bipush (v := 16) dX10_addSite_25 (by decide) ?_
    refine aw_icmp_ne 38 dX10_addSite_27 (by decide) (fun c27 => ?_) (fun c27 => ?_)
    · refine aw_aload_n dX10_addSite_38 rfl ?_
      refine aw_iload_n dX10_addSite_39 rfl ?_
      refine ap_callVi kv_X10_55 ko_X10_appendSite (c_X10_appendSite hn hs (by rcases Nat.lt_or_ge ns 16 with q | q; exact q; exact absurd (by rw [hs, show ns = 16 by omega]; rfl) c27) _) dX10_addSite_40 e_63 (l_63 hn) rfl rfl rfl rfl (ble' rfl) (by decide) ?_
      refine aw_iret rfl dX10_addSite_43 (ble' rfl) (ble' rfl) ?_
      exact pr_ok (by rw [cr_addSite, if_neg (fun q => q n10), if_neg (fun q => q c27)]) (rfl) (rs_w (rs_w (rs_w eRS))) e4
    · refine aw_aload_n dX10_addSite_30 rfl ?_
      refine aw_iconst (v := 2) dX10_addSite_31 (by decide) ?_
      refine ap_callVi kv_X10_43 ko_X10_fail (c_X10_fail hn _) dX10_addSite_32 e_63 (l_63 hn) rfl rfl rfl rfl (ble' rfl) (by decide) ?_
      refine aw_goto 43 dX10_addSite_35 (by decide) ?_
      refine aw_iret rfl dX10_addSite_43 (ble' rfl) (ble' rfl) ?_
      exact pr_no (k := 1) (by rw [cr_addSite, if_neg (fun q => q n10), if_pos (fun q => q c27)]) (rs_tr eRS rs_1) rfl
  · have n10 := bI_z.mp c10
    refine aw_aload_n dX10_addSite_13 rfl ?_
    refine aw_iconst (v := 1) dX10_addSite_14 (by decide) ?_
    refine ap_callVi kv_X10_43 ko_X10_fail (c_X10_fail hn _) dX10_addSite_15 e_63 (l_63 hn) rfl rfl rfl rfl (ble' rfl) (by decide) ?_
    refine aw_iret rfl dX10_addSite_18 (ble' rfl) (ble' rfl) ?_
    exact pr_no (k := 0) (by rw [cr_addSite, if_pos n10]) (rs_tr eRS rs_1) rfl

def cr_addSeason (M : Nat → Nat → Int32) (c f l m p : Int32) : Nat := if ¬ (0 ≤ c ∧ c ≤ M 64 1 - 1) then 1 else if ¬ ((0 ≤ f ∧ f ≤ 999) ∧ (f ≤ l ∧ l ≤ 999) ∧ (1 ≤ m ∧ m ≤ 14) ∧ (0 ≤ p ∧ p ≤ 9999)) then 2 else if ¬ (¬ M 64 3 = 12) then 3 else 0
set_option maxRecDepth 100000 in
set_option maxHeartbeats 4000000 in
theorem c_X10_addSeason {G : AG} {M : Nat → Nat → Int32} {n : Nat} (hn : 72 ≤ n) {nc ns nz nb nr tt : Nat} (hI : CR M nc ns nz nb nr tt)  (c f l m p : Int32) : AMet tX10_addSeason yX10_addSeason [Cond.code yX10_addSeason cX10_addSeason 6 (some .int)] [.ref 63, .int c, .int f, .int l, .int m, .int p] (wld G M) n (PR (cr_addSeason M c f l m p) (nI nz) G M (appendSeasonM M nz c f l m p) n) := by
  refine am_of (lo := [_, _, _, _, _, _]) (by decide) rfl (fun q => by cases q) rfl rfl rfl ?_
  refine aw_aload_n dX10_addSeason_0 rfl ?_
  refine aw_iconst (v := 0) dX10_addSeason_1 (by decide) ?_
  refine aw_put fp_X10_36_m dX10_addSeason_2 e_63 (l_63 hn) (ble' rfl) (fun _ => ⟨rfl, rfl⟩) (hwf rfl) ?_
  obtain ⟨M', e64, e63, eRS, e4, eW⟩ : ∃ M', M 64 = M' 64 ∧ (∀ j, j ≠ 4 → M 63 j = M' 63 j) ∧ RS M M' ∧ M' 63 4 = 0 ∧ wld G (updM M 63 (upd (M 63) 4 0)) = wld G M' := ⟨_, rfl, fun j h => (if_neg h).symm, rs_1, rfl, rfl⟩
  refine aw_heq eW ?_
  rw [show cr_addSeason M c f l m p = cr_addSeason M' c f l m p from by unfold cr_addSeason; simp only [e64, V_eq e64, rlV_eq e64, avV_eq e64, frR_eq e64, onV_eq e64, mnV_eq e64, osV_eq e64, vaV_eq e64, nsR_eq e64, nbR_eq e64, nzR_eq e64, nrR_eq e64]]
  have hI' : CR M' nc ns nz nb nr tt := by unfold CR at hI ⊢; rw [← e64]; exact hI
  clear hI eW
  obtain ⟨hc, hcl, hs, hsl, hz, hzl, hb, hbl, hr, hrl, ht, htl⟩ := id hI'
  have ens : nsR M' = ns := cl_of hs (by omega)
  have enb : nbR M' = nb := cl_of hb (by omega)
  have enz : nzR M' = nz := cl_of hz (by omega)
  have enr : nrR M' = nr := cl_of hr (by omega)
  refine aw_aload_n dX10_addSeason_5 rfl ?_
  refine aw_iload_n dX10_addSeason_6 rfl ?_
  refine ap_callVi kv_X10_51 ko_X10_isClass (c_X10_isClass hn _) dX10_addSeason_7 e_63 (l_63 hn) rfl rfl rfl rfl (ble' rfl) (by decide) ?_
  refine aw_if_ne 19 dX10_addSeason_10 (by decide) (fun c10 => ?_) (fun c10 => ?_)
  · have n10 := bI_nz.mp c10
    refine aw_iload_n dX10_addSeason_19 rfl ?_
    refine ap_callSi ks_X10_58 ko_X10_isDay (c_X10_isDay _) dX10_addSeason_20 rfl rfl (ble' rfl) (by decide) ?_
    refine aw_if_eq 60 dX10_addSeason_23 (by decide) (fun c23 => ?_) (fun c23 => ?_)
    · have n23 := bI_z.mp c23
      refine aw_aload_n dX10_addSeason_60 rfl ?_
      refine aw_iconst (v := 2) dX10_addSeason_61 (by decide) ?_
      refine ap_callVi kv_X10_43 ko_X10_fail (c_X10_fail hn _) dX10_addSeason_62 e_63 (l_63 hn) rfl rfl rfl rfl (ble' rfl) (by decide) ?_
      refine aw_iret rfl dX10_addSeason_65 (ble' rfl) (ble' rfl) ?_
      exact pr_no (k := 1) (by rw [cr_addSeason, if_neg (fun q => q n10), if_pos (fun q => n23 q.1)]) (rs_tr eRS rs_1) rfl
    · have n23 := bI_nz.mp c23
      refine aw_iload_n dX10_addSeason_26 rfl ?_
      refine aw_iload_n dX10_addSeason_27 rfl ?_
      refine aw_sipush (v := 999) dX10_addSeason_28 (by decide) ?_
      refine ap_callSi ks_X10_39 ko_X10_isBetween (c_X10_isBetween _ _ _) dX10_addSeason_31 rfl rfl (ble' rfl) (by decide) ?_
      refine aw_if_eq 60 dX10_addSeason_34 (by decide) (fun c34 => ?_) (fun c34 => ?_)
      · have n34 := bI_z.mp c34
        refine aw_aload_n dX10_addSeason_60 rfl ?_
        refine aw_iconst (v := 2) dX10_addSeason_61 (by decide) ?_
        refine ap_callVi kv_X10_43 ko_X10_fail (c_X10_fail hn _) dX10_addSeason_62 e_63 (l_63 hn) rfl rfl rfl rfl (ble' rfl) (by decide) ?_
        refine aw_iret rfl dX10_addSeason_65 (ble' rfl) (ble' rfl) ?_
        exact pr_no (k := 1) (by rw [cr_addSeason, if_neg (fun q => q n10), if_pos (fun q => n34 q.2.1)]) (rs_tr eRS rs_1) rfl
      · have n34 := bI_nz.mp c34
        refine aw_iload dX10_addSeason_37 rfl ?_
        refine aw_iconst (v := 1) dX10_addSeason_39 (by decide) ?_
        refine aw_bipush (v := 14) dX10_addSeason_40 (by decide) ?_
        refine ap_callSi ks_X10_39 ko_X10_isBetween (c_X10_isBetween _ _ _) dX10_addSeason_42 rfl rfl (ble' rfl) (by decide) ?_
        refine aw_if_eq 60 dX10_addSeason_45 (by decide) (fun c45 => ?_) (fun c45 => ?_)
        · have n45 := bI_z.mp c45
          refine aw_aload_n dX10_addSeason_60 rfl ?_
          refine aw_iconst (v := 2) dX10_addSeason_61 (by decide) ?_
          refine ap_callVi kv_X10_43 ko_X10_fail (c_X10_fail hn _) dX10_addSeason_62 e_63 (l_63 hn) rfl rfl rfl rfl (ble' rfl) (by decide) ?_
          refine aw_iret rfl dX10_addSeason_65 (ble' rfl) (ble' rfl) ?_
          exact pr_no (k := 1) (by rw [cr_addSeason, if_neg (fun q => q n10), if_pos (fun q => n45 q.2.2.1)]) (rs_tr eRS rs_1) rfl
        · have n45 := bI_nz.mp c45
          refine aw_iload dX10_addSeason_48 rfl ?_
          refine aw_iconst (v := 0) dX10_addSeason_50 (by decide) ?_
          refine aw_sipush (v := 9999) dX10_addSeason_51 (by decide) ?_
          refine ap_callSi ks_X10_39 ko_X10_isBetween (c_X10_isBetween _ _ _) dX10_addSeason_54 rfl rfl (ble' rfl) (by decide) ?_
          refine aw_if_ne 66 dX10_addSeason_57 (by decide) (fun c57 => ?_) (fun c57 => ?_)
          · have n57 := bI_nz.mp c57
            refine aw_aload_n dX10_addSeason_66 rfl ?_
            refine aw_get fl_X10_7 dX10_addSeason_67 e_63 (l_63 hn) rfl ?_
            refine aw_iconst (v := 3) dX10_addSeason_70 (by decide) ?_
            refine aw_ialdk dX10_addSeason_71 e_64 (l_64 hn) (show (3 : Int32) = nI 3 from rfl) (by decide) rfl ?_
            refine aw_bipush (v := 12) dX10_addSeason_72 (by decide) ?_
            refine aw_icmp_ne 85 dX10_addSeason_74 (by decide) (fun c74 => ?_) (fun c74 => ?_)
            · refine aw_aload_n dX10_addSeason_85 rfl ?_
              refine aw_iload_n dX10_addSeason_86 rfl ?_
              refine aw_iload_n dX10_addSeason_87 rfl ?_
              refine aw_iload_n dX10_addSeason_88 rfl ?_
              refine aw_iload dX10_addSeason_89 rfl ?_
              refine aw_iload dX10_addSeason_91 rfl ?_
              refine ap_callVi kv_X10_61 ko_X10_appendSeason (c_X10_appendSeason hn hz (by rcases Nat.lt_or_ge nz 12 with q | q; exact q; exact absurd (by rw [hz, show nz = 12 by omega]; rfl) c74) _ _ _ _ _) dX10_addSeason_93 e_63 (l_63 hn) rfl rfl rfl rfl (ble' rfl) (by decide) ?_
              refine aw_iret rfl dX10_addSeason_96 (ble' rfl) (ble' rfl) ?_
              exact pr_ok (by rw [cr_addSeason, if_neg (fun q => q n10), if_neg (fun q => q ⟨n23, n34, n45, n57⟩), if_neg (fun q => q c74)]) (rfl) (rs_w (rs_w (rs_w (rs_w (rs_w (rs_w eRS)))))) e4
            · refine aw_aload_n dX10_addSeason_77 rfl ?_
              refine aw_iconst (v := 3) dX10_addSeason_78 (by decide) ?_
              refine ap_callVi kv_X10_43 ko_X10_fail (c_X10_fail hn _) dX10_addSeason_79 e_63 (l_63 hn) rfl rfl rfl rfl (ble' rfl) (by decide) ?_
              refine aw_goto 96 dX10_addSeason_82 (by decide) ?_
              refine aw_iret rfl dX10_addSeason_96 (ble' rfl) (ble' rfl) ?_
              exact pr_no (k := 2) (by rw [cr_addSeason, if_neg (fun q => q n10), if_neg (fun q => q ⟨n23, n34, n45, n57⟩), if_pos (fun q => q c74)]) (rs_tr eRS rs_1) rfl
          · have n57 := bI_z.mp c57
            refine aw_aload_n dX10_addSeason_60 rfl ?_
            refine aw_iconst (v := 2) dX10_addSeason_61 (by decide) ?_
            refine ap_callVi kv_X10_43 ko_X10_fail (c_X10_fail hn _) dX10_addSeason_62 e_63 (l_63 hn) rfl rfl rfl rfl (ble' rfl) (by decide) ?_
            refine aw_iret rfl dX10_addSeason_65 (ble' rfl) (ble' rfl) ?_
            exact pr_no (k := 1) (by rw [cr_addSeason, if_neg (fun q => q n10), if_pos (fun q => n57 q.2.2.2)]) (rs_tr eRS rs_1) rfl
  · have n10 := bI_z.mp c10
    refine aw_aload_n dX10_addSeason_13 rfl ?_
    refine aw_iconst (v := 1) dX10_addSeason_14 (by decide) ?_
    refine ap_callVi kv_X10_43 ko_X10_fail (c_X10_fail hn _) dX10_addSeason_15 e_63 (l_63 hn) rfl rfl rfl rfl (ble' rfl) (by decide) ?_
    refine aw_iret rfl dX10_addSeason_18 (ble' rfl) (ble' rfl) ?_
    exact pr_no (k := 0) (by rw [cr_addSeason, if_pos n10]) (rs_tr eRS rs_1) rfl

def cr_request (M : Nat → Nat → Int32) (c a m : Int32) : Nat := if ¬ (0 ≤ c ∧ c ≤ M 64 1 - 1) then 1 else if ¬ ((M 64 0 ≤ a ∧ a ≤ 998) ∧ (1 ≤ m ∧ m ≤ 28)) then 2 else if ¬ (¬ M 64 5 = 20) then 3 else 0
set_option maxRecDepth 100000 in
set_option maxHeartbeats 4000000 in
theorem c_X10_request {G : AG} {M : Nat → Nat → Int32} {n : Nat} (hn : 72 ≤ n) {nc ns nz nb nr tt : Nat} (hI : CR M nc ns nz nb nr tt)  (c a m : Int32) : AMet tX10_request yX10_request [Cond.code yX10_request cX10_request 4 (some .int)] [.ref 63, .int c, .int a, .int m] (wld G M) n (PR (cr_request M c a m) (nI nr) G M (appendRequestM M nr c a m) n) := by
  refine am_of (lo := [_, _, _, _]) (by decide) rfl (fun q => by cases q) rfl rfl rfl ?_
  refine aw_aload_n dX10_request_0 rfl ?_
  refine aw_iconst (v := 0) dX10_request_1 (by decide) ?_
  refine aw_put fp_X10_36_m dX10_request_2 e_63 (l_63 hn) (ble' rfl) (fun _ => ⟨rfl, rfl⟩) (hwf rfl) ?_
  obtain ⟨M', e64, e63, eRS, e4, eW⟩ : ∃ M', M 64 = M' 64 ∧ (∀ j, j ≠ 4 → M 63 j = M' 63 j) ∧ RS M M' ∧ M' 63 4 = 0 ∧ wld G (updM M 63 (upd (M 63) 4 0)) = wld G M' := ⟨_, rfl, fun j h => (if_neg h).symm, rs_1, rfl, rfl⟩
  refine aw_heq eW ?_
  rw [show cr_request M c a m = cr_request M' c a m from by unfold cr_request; simp only [e64, V_eq e64, rlV_eq e64, avV_eq e64, frR_eq e64, onV_eq e64, mnV_eq e64, osV_eq e64, vaV_eq e64, nsR_eq e64, nbR_eq e64, nzR_eq e64, nrR_eq e64]]
  have hI' : CR M' nc ns nz nb nr tt := by unfold CR at hI ⊢; rw [← e64]; exact hI
  clear hI eW
  obtain ⟨hc, hcl, hs, hsl, hz, hzl, hb, hbl, hr, hrl, ht, htl⟩ := id hI'
  have ens : nsR M' = ns := cl_of hs (by omega)
  have enb : nbR M' = nb := cl_of hb (by omega)
  have enz : nzR M' = nz := cl_of hz (by omega)
  have enr : nrR M' = nr := cl_of hr (by omega)
  refine aw_aload_n dX10_request_5 rfl ?_
  refine aw_iload_n dX10_request_6 rfl ?_
  refine ap_callVi kv_X10_51 ko_X10_isClass (c_X10_isClass hn _) dX10_request_7 e_63 (l_63 hn) rfl rfl rfl rfl (ble' rfl) (by decide) ?_
  refine aw_if_ne 19 dX10_request_10 (by decide) (fun c10 => ?_) (fun c10 => ?_)
  · have n10 := bI_nz.mp c10
    refine aw_aload_n dX10_request_19 rfl ?_
    refine aw_iload_n dX10_request_20 rfl ?_
    refine ap_callVi kv_X10_88 ko_X10_isNight (c_X10_isNight hn _) dX10_request_21 e_63 (l_63 hn) rfl rfl rfl rfl (ble' rfl) (by decide) ?_
    refine aw_if_eq 34 dX10_request_24 (by decide) (fun c24 => ?_) (fun c24 => ?_)
    · have n24 := bI_z.mp c24
      refine aw_aload_n dX10_request_34 rfl ?_
      refine aw_iconst (v := 2) dX10_request_35 (by decide) ?_
      refine ap_callVi kv_X10_43 ko_X10_fail (c_X10_fail hn _) dX10_request_36 e_63 (l_63 hn) rfl rfl rfl rfl (ble' rfl) (by decide) ?_
      refine aw_iret rfl dX10_request_39 (ble' rfl) (ble' rfl) ?_
      exact pr_no (k := 1) (by rw [cr_request, if_neg (fun q => q n10), if_pos (fun q => n24 q.1)]) (rs_tr eRS rs_1) rfl
    · have n24 := bI_nz.mp c24
      refine aw_iload_n dX10_request_27 rfl ?_
      refine ap_callSi ks_X10_125 ko_X10_isStay (c_X10_isStay _) dX10_request_28 rfl rfl (ble' rfl) (by decide) ?_
      refine aw_if_ne 40 dX10_request_31 (by decide) (fun c31 => ?_) (fun c31 => ?_)
      · have n31 := bI_nz.mp c31
        refine aw_aload_n dX10_request_40 rfl ?_
        refine aw_get fl_X10_7 dX10_request_41 e_63 (l_63 hn) rfl ?_
        refine aw_iconst (v := 5) dX10_request_44 (by decide) ?_
        refine aw_ialdk dX10_request_45 e_64 (l_64 hn) (show (5 : Int32) = nI 5 from rfl) (by decide) rfl ?_
        refine aw_bipush (v := 20) dX10_request_46 (by decide) ?_
        refine aw_icmp_ne 59 dX10_request_48 (by decide) (fun c48 => ?_) (fun c48 => ?_)
        · refine aw_aload_n dX10_request_59 rfl ?_
          refine aw_iload_n dX10_request_60 rfl ?_
          refine aw_iload_n dX10_request_61 rfl ?_
          refine aw_iload_n dX10_request_62 rfl ?_
          refine ap_callVi kv_X10_168 ko_X10_appendRequest (c_X10_appendRequest hn hr (by rcases Nat.lt_or_ge nr 20 with q | q; exact q; exact absurd (by rw [hr, show nr = 20 by omega]; rfl) c48) _ _ _) dX10_request_63 e_63 (l_63 hn) rfl rfl rfl rfl (ble' rfl) (by decide) ?_
          refine aw_iret rfl dX10_request_66 (ble' rfl) (ble' rfl) ?_
          exact pr_ok (by rw [cr_request, if_neg (fun q => q n10), if_neg (fun q => q ⟨n24, n31⟩), if_neg (fun q => q c48)]) (rfl) (rs_w (rs_w (rs_w (rs_w (rs_w (rs_w eRS)))))) e4
        · refine aw_aload_n dX10_request_51 rfl ?_
          refine aw_iconst (v := 3) dX10_request_52 (by decide) ?_
          refine ap_callVi kv_X10_43 ko_X10_fail (c_X10_fail hn _) dX10_request_53 e_63 (l_63 hn) rfl rfl rfl rfl (ble' rfl) (by decide) ?_
          refine aw_goto 66 dX10_request_56 (by decide) ?_
          refine aw_iret rfl dX10_request_66 (ble' rfl) (ble' rfl) ?_
          exact pr_no (k := 2) (by rw [cr_request, if_neg (fun q => q n10), if_neg (fun q => q ⟨n24, n31⟩), if_pos (fun q => q c48)]) (rs_tr eRS rs_1) rfl
      · have n31 := bI_z.mp c31
        refine aw_aload_n dX10_request_34 rfl ?_
        refine aw_iconst (v := 2) dX10_request_35 (by decide) ?_
        refine ap_callVi kv_X10_43 ko_X10_fail (c_X10_fail hn _) dX10_request_36 e_63 (l_63 hn) rfl rfl rfl rfl (ble' rfl) (by decide) ?_
        refine aw_iret rfl dX10_request_39 (ble' rfl) (ble' rfl) ?_
        exact pr_no (k := 1) (by rw [cr_request, if_neg (fun q => q n10), if_pos (fun q => n31 q.2)]) (rs_tr eRS rs_1) rfl
  · have n10 := bI_z.mp c10
    refine aw_aload_n dX10_request_13 rfl ?_
    refine aw_iconst (v := 1) dX10_request_14 (by decide) ?_
    refine ap_callVi kv_X10_43 ko_X10_fail (c_X10_fail hn _) dX10_request_15 e_63 (l_63 hn) rfl rfl rfl rfl (ble' rfl) (by decide) ?_
    refine aw_iret rfl dX10_request_18 (ble' rfl) (ble' rfl) ?_
    exact pr_no (k := 0) (by rw [cr_request, if_pos n10]) (rs_tr eRS rs_1) rfl
