def addB (M : Nat → Nat → Int32) (k : Nat) (c a d p : Int32) : Nat → Nat → Int32 := updM (updM (updM (updM (updM (updM (updM (M) 16 (upd (M 16) k c)) 17 (upd (M 17) k a)) 18 (upd (M 18) k d)) 19 (upd (M 19) k p)) 20 (upd (M 20) k 0)) 21 (upd (M 21) k (-1))) 15 (upd (M 15) 6 (M 15 6 + 1))

set_option maxRecDepth 100000 in
set_option maxHeartbeats 4000000 in
theorem c_X0_add {G : AG} {M : Nat → Nat → Int32} {n : Nat} (hn : 72 ≤ n) {k : Nat} (hk : M 15 6 = nI k) (hlt : k < 60) (c a d p : Int32) : AMet tX0_add yX0_add [Cond.code yX0_add cX0_add 5 (some .int)] [.ref 15, .int c, .int a, .int d, .int p] (wld G M) n (PD (.inl (some (.int (nI k)))) (wld G (addB M k c a d p)) n) := by
  refine am_of (lo := [_, _, _, _, _]) (by decide) rfl (fun q => by cases q) rfl rfl rfl ?_
  refine aw_aload_n dX0_add_0 rfl ?_
  refine aw_get fl_X0_30 dX0_add_1 e_15 (l_15 hn) rfl ?_
  refine aw_bipush (v := 60) dX0_add_4 (by decide) ?_
  refine aw_icmp_lt 11 dX0_add_6 (by decide) (fun c6 => ?_) (fun c6 => ?_)
  · have n6 := Int32.not_le.mpr c6
    refine aw_aload_n dX0_add_11 rfl ?_
    refine aw_get fl_X0_9 dX0_add_12 e_15 (l_15 hn) rfl ?_
    refine aw_aload_n dX0_add_15 rfl ?_
    refine aw_get fl_X0_30 dX0_add_16 e_15 (l_15 hn) rfl ?_
    refine aw_iload_n dX0_add_19 rfl ?_
    refine aw_iastk dX0_add_20 e_16 (l_16 hn) hk hlt rfl (hwa rfl) ?_
    refine aw_aload_n dX0_add_21 rfl ?_
    refine aw_get fl_X0_15 dX0_add_22 e_15 (l_15 hn) rfl ?_
    refine aw_aload_n dX0_add_25 rfl ?_
    refine aw_get fl_X0_30 dX0_add_26 e_15 (l_15 hn) rfl ?_
    refine aw_iload_n dX0_add_29 rfl ?_
    refine aw_iastk dX0_add_30 e_17 (l_17 hn) hk hlt rfl (hwa rfl) ?_
    refine aw_aload_n dX0_add_31 rfl ?_
    refine aw_get fl_X0_18 dX0_add_32 e_15 (l_15 hn) rfl ?_
    refine aw_aload_n dX0_add_35 rfl ?_
    refine aw_get fl_X0_30 dX0_add_36 e_15 (l_15 hn) rfl ?_
    refine aw_iload_n dX0_add_39 rfl ?_
    refine aw_iastk dX0_add_40 e_18 (l_18 hn) hk hlt rfl (hwa rfl) ?_
    refine aw_aload_n dX0_add_41 rfl ?_
    refine aw_get fl_X0_21 dX0_add_42 e_15 (l_15 hn) rfl ?_
    refine aw_aload_n dX0_add_45 rfl ?_
    refine aw_get fl_X0_30 dX0_add_46 e_15 (l_15 hn) rfl ?_
    refine aw_iload dX0_add_49 rfl ?_
    refine aw_iastk dX0_add_51 e_19 (l_19 hn) hk hlt rfl (hwa rfl) ?_
    refine aw_aload_n dX0_add_52 rfl ?_
    refine aw_get fl_X0_24 dX0_add_53 e_15 (l_15 hn) rfl ?_
    refine aw_aload_n dX0_add_56 rfl ?_
    refine aw_get fl_X0_30 dX0_add_57 e_15 (l_15 hn) rfl ?_
    refine aw_iconst (v := 0) dX0_add_60 (by decide) ?_
    refine aw_iastk dX0_add_61 e_20 (l_20 hn) hk hlt rfl (hwa rfl) ?_
    refine aw_aload_n dX0_add_62 rfl ?_
    refine aw_get fl_X0_27 dX0_add_63 e_15 (l_15 hn) rfl ?_
    refine aw_aload_n dX0_add_66 rfl ?_
    refine aw_get fl_X0_30 dX0_add_67 e_15 (l_15 hn) rfl ?_
    refine aw_iconst (v := -1) dX0_add_70 (by decide) ?_
    refine aw_iastk dX0_add_71 e_21 (l_21 hn) hk hlt rfl (hwa rfl) ?_
    refine aw_aload_n dX0_add_72 rfl ?_
    refine aw_dup dX0_add_73 rfl ?_
    refine aw_get fl_X0_30 dX0_add_74 e_15 (l_15 hn) rfl ?_
    refine aw_dup_x1 dX0_add_77 rfl rfl ?_
    refine aw_iconst (v := 1) dX0_add_78 (by decide) ?_
    refine aw_iadd dX0_add_79 ?_
    refine aw_put fp_X0_30_m dX0_add_80 e_15 (l_15 hn) (ble' rfl) (fun _ => ⟨rfl, rfl⟩) (hwf rfl) ?_
    refine aw_iret rfl dX0_add_83 (ble' rfl) (ble' rfl) ?_
    exact pd_ih hk rfl
  · have n6 := Int32.not_lt.mp c6
    refine aw_iconst (v := -1) dX0_add_9 (by decide) ?_
    refine aw_iret rfl dX0_add_10 (ble' rfl) (ble' rfl) ?_
    exact absurd (by rw [hk]; exact nI_lt hlt (by decide)) c6

def addR (M : Nat → Nat → Int32) (k : Nat) (c a m : Int32) : Nat → Nat → Int32 := updM (updM (updM (updM (updM (updM (M) 23 (upd (M 23) k c)) 24 (upd (M 24) k a)) 25 (upd (M 25) k m)) 26 (upd (M 26) k 0)) 27 (upd (M 27) k (-1))) 22 (upd (M 22) 5 (M 22 5 + 1))

set_option maxRecDepth 100000 in
set_option maxHeartbeats 4000000 in
theorem c_X4_add {G : AG} {M : Nat → Nat → Int32} {n : Nat} (hn : 72 ≤ n) {k : Nat} (hk : M 22 5 = nI k) (hlt : k < 20) (c a m : Int32) : AMet tX4_add yX4_add [Cond.code yX4_add cX4_add 4 (some .int)] [.ref 22, .int c, .int a, .int m] (wld G M) n (PD (.inl (some (.int (nI k)))) (wld G (addR M k c a m)) n) := by
  refine am_of (lo := [_, _, _, _]) (by decide) rfl (fun q => by cases q) rfl rfl rfl ?_
  refine aw_aload_n dX4_add_0 rfl ?_
  refine aw_get fl_X4_27 dX4_add_1 e_22 (l_22 hn) rfl ?_
  refine aw_bipush (v := 20) dX4_add_4 (by decide) ?_
  refine aw_icmp_lt 11 dX4_add_6 (by decide) (fun c6 => ?_) (fun c6 => ?_)
  · have n6 := Int32.not_le.mpr c6
    refine aw_aload_n dX4_add_11 rfl ?_
    refine aw_get fl_X4_9 dX4_add_12 e_22 (l_22 hn) rfl ?_
    refine aw_aload_n dX4_add_15 rfl ?_
    refine aw_get fl_X4_27 dX4_add_16 e_22 (l_22 hn) rfl ?_
    refine aw_iload_n dX4_add_19 rfl ?_
    refine aw_iastk dX4_add_20 e_23 (l_23 hn) hk hlt rfl (hwa rfl) ?_
    refine aw_aload_n dX4_add_21 rfl ?_
    refine aw_get fl_X4_15 dX4_add_22 e_22 (l_22 hn) rfl ?_
    refine aw_aload_n dX4_add_25 rfl ?_
    refine aw_get fl_X4_27 dX4_add_26 e_22 (l_22 hn) rfl ?_
    refine aw_iload_n dX4_add_29 rfl ?_
    refine aw_iastk dX4_add_30 e_24 (l_24 hn) hk hlt rfl (hwa rfl) ?_
    refine aw_aload_n dX4_add_31 rfl ?_
    refine aw_get fl_X4_18 dX4_add_32 e_22 (l_22 hn) rfl ?_
    refine aw_aload_n dX4_add_35 rfl ?_
    refine aw_get fl_X4_27 dX4_add_36 e_22 (l_22 hn) rfl ?_
    refine aw_iload_n dX4_add_39 rfl ?_
    refine aw_iastk dX4_add_40 e_25 (l_25 hn) hk hlt rfl (hwa rfl) ?_
    refine aw_aload_n dX4_add_41 rfl ?_
    refine aw_get fl_X4_21 dX4_add_42 e_22 (l_22 hn) rfl ?_
    refine aw_aload_n dX4_add_45 rfl ?_
    refine aw_get fl_X4_27 dX4_add_46 e_22 (l_22 hn) rfl ?_
    refine aw_iconst (v := 0) dX4_add_49 (by decide) ?_
    refine aw_iastk dX4_add_50 e_26 (l_26 hn) hk hlt rfl (hwa rfl) ?_
    refine aw_aload_n dX4_add_51 rfl ?_
    refine aw_get fl_X4_24 dX4_add_52 e_22 (l_22 hn) rfl ?_
    refine aw_aload_n dX4_add_55 rfl ?_
    refine aw_get fl_X4_27 dX4_add_56 e_22 (l_22 hn) rfl ?_
    refine aw_iconst (v := -1) dX4_add_59 (by decide) ?_
    refine aw_iastk dX4_add_60 e_27 (l_27 hn) hk hlt rfl (hwa rfl) ?_
    refine aw_aload_n dX4_add_61 rfl ?_
    refine aw_dup dX4_add_62 rfl ?_
    refine aw_get fl_X4_27 dX4_add_63 e_22 (l_22 hn) rfl ?_
    refine aw_dup_x1 dX4_add_66 rfl rfl ?_
    refine aw_iconst (v := 1) dX4_add_67 (by decide) ?_
    refine aw_iadd dX4_add_68 ?_
    refine aw_put fp_X4_27_m dX4_add_69 e_22 (l_22 hn) (ble' rfl) (fun _ => ⟨rfl, rfl⟩) (hwf rfl) ?_
    refine aw_iret rfl dX4_add_72 (ble' rfl) (ble' rfl) ?_
    exact pd_ih hk rfl
  · have n6 := Int32.not_lt.mp c6
    refine aw_iconst (v := -1) dX4_add_9 (by decide) ?_
    refine aw_iret rfl dX4_add_10 (ble' rfl) (ble' rfl) ?_
    exact absurd (by rw [hk]; exact nI_lt hlt (by decide)) c6

def addC (M : Nat → Nat → Int32) (k : Nat) (w s q : Int32) : Nat → Nat → Int32 := updM (updM (updM (updM (M) 3 (upd (M 3) k w)) 4 (upd (M 4) k s)) 5 (upd (M 5) k q)) 2 (upd (M 2) 3 (M 2 3 + 1))

set_option maxRecDepth 100000 in
set_option maxHeartbeats 4000000 in
theorem c_X2_add {G : AG} {M : Nat → Nat → Int32} {n : Nat} (hn : 72 ≤ n) {k : Nat} (hk : M 2 3 = nI k) (hlt : k < 4) (w s q : Int32) : AMet tX2_add yX2_add [Cond.code yX2_add cX2_add 4 (some .int)] [.ref 2, .int w, .int s, .int q] (wld G M) n (PD (.inl (some (.int (nI k)))) (wld G (addC M k w s q)) n) := by
  refine am_of (lo := [_, _, _, _]) (by decide) rfl (fun q => by cases q) rfl rfl rfl ?_
  refine aw_aload_n dX2_add_0 rfl ?_
  refine aw_get fl_X2_21 dX2_add_1 e_2 (l_2 hn) rfl ?_
  refine aw_iconst (v := 4) dX2_add_4 (by decide) ?_
  refine aw_icmp_lt 10 dX2_add_5 (by decide) (fun c5 => ?_) (fun c5 => ?_)
  · have n5 := Int32.not_le.mpr c5
    refine aw_aload_n dX2_add_10 rfl ?_
    refine aw_get fl_X2_9 dX2_add_11 e_2 (l_2 hn) rfl ?_
    refine aw_aload_n dX2_add_14 rfl ?_
    refine aw_get fl_X2_21 dX2_add_15 e_2 (l_2 hn) rfl ?_
    refine aw_iload_n dX2_add_18 rfl ?_
    refine aw_iastk dX2_add_19 e_3 (l_3 hn) hk hlt rfl (hwa rfl) ?_
    refine aw_aload_n dX2_add_20 rfl ?_
    refine aw_get fl_X2_15 dX2_add_21 e_2 (l_2 hn) rfl ?_
    refine aw_aload_n dX2_add_24 rfl ?_
    refine aw_get fl_X2_21 dX2_add_25 e_2 (l_2 hn) rfl ?_
    refine aw_iload_n dX2_add_28 rfl ?_
    refine aw_iastk dX2_add_29 e_4 (l_4 hn) hk hlt rfl (hwa rfl) ?_
    refine aw_aload_n dX2_add_30 rfl ?_
    refine aw_get fl_X2_18 dX2_add_31 e_2 (l_2 hn) rfl ?_
    refine aw_aload_n dX2_add_34 rfl ?_
    refine aw_get fl_X2_21 dX2_add_35 e_2 (l_2 hn) rfl ?_
    refine aw_iload_n dX2_add_38 rfl ?_
    refine aw_iastk dX2_add_39 e_5 (l_5 hn) hk hlt rfl (hwa rfl) ?_
    refine aw_aload_n dX2_add_40 rfl ?_
    refine aw_dup dX2_add_41 rfl ?_
    refine aw_get fl_X2_21 dX2_add_42 e_2 (l_2 hn) rfl ?_
    refine aw_dup_x1 dX2_add_45 rfl rfl ?_
    refine aw_iconst (v := 1) dX2_add_46 (by decide) ?_
    refine aw_iadd dX2_add_47 ?_
    refine aw_put fp_X2_21_m dX2_add_48 e_2 (l_2 hn) (ble' rfl) (fun _ => ⟨rfl, rfl⟩) (hwf rfl) ?_
    refine aw_iret rfl dX2_add_51 (ble' rfl) (ble' rfl) ?_
    exact pd_ih hk rfl
  · have n5 := Int32.not_lt.mp c5
    refine aw_iconst (v := -1) dX2_add_8 (by decide) ?_
    refine aw_iret rfl dX2_add_9 (ble' rfl) (ble' rfl) ?_
    exact absurd (by rw [hk]; exact nI_lt hlt (by decide)) c5

def addS (M : Nat → Nat → Int32) (k : Nat) (c : Int32) : Nat → Nat → Int32 := updM (updM (updM (M) 7 (upd (M 7) k c)) 8 (upd (M 8) k 0)) 6 (upd (M 6) 2 (M 6 2 + 1))

set_option maxRecDepth 100000 in
set_option maxHeartbeats 4000000 in
theorem c_X7_add {G : AG} {M : Nat → Nat → Int32} {n : Nat} (hn : 72 ≤ n) {k : Nat} (hk : M 6 2 = nI k) (hlt : k < 16) (c : Int32) : AMet tX7_add yX7_add [Cond.code yX7_add cX7_add 2 (some .int)] [.ref 6, .int c] (wld G M) n (PD (.inl (some (.int (nI k)))) (wld G (addS M k c)) n) := by
  refine am_of (lo := [_, _]) (by decide) rfl (fun q => by cases q) rfl rfl rfl ?_
  refine aw_aload_n dX7_add_0 rfl ?_
  refine aw_get fl_X7_18 dX7_add_1 e_6 (l_6 hn) rfl ?_
  refine aw_bipush (v := 16) dX7_add_4 (by decide) ?_
  refine aw_icmp_lt 11 dX7_add_6 (by decide) (fun c6 => ?_) (fun c6 => ?_)
  · have n6 := Int32.not_le.mpr c6
    refine aw_aload_n dX7_add_11 rfl ?_
    refine aw_get fl_X7_9 dX7_add_12 e_6 (l_6 hn) rfl ?_
    refine aw_aload_n dX7_add_15 rfl ?_
    refine aw_get fl_X7_18 dX7_add_16 e_6 (l_6 hn) rfl ?_
    refine aw_iload_n dX7_add_19 rfl ?_
    refine aw_iastk dX7_add_20 e_7 (l_7 hn) hk hlt rfl (hwa rfl) ?_
    refine aw_aload_n dX7_add_21 rfl ?_
    refine aw_get fl_X7_15 dX7_add_22 e_6 (l_6 hn) rfl ?_
    refine aw_aload_n dX7_add_25 rfl ?_
    refine aw_get fl_X7_18 dX7_add_26 e_6 (l_6 hn) rfl ?_
    refine aw_iconst (v := 0) dX7_add_29 (by decide) ?_
    refine aw_iastk dX7_add_30 e_8 (l_8 hn) hk hlt rfl (hwa rfl) ?_
    refine aw_aload_n dX7_add_31 rfl ?_
    refine aw_dup dX7_add_32 rfl ?_
    refine aw_get fl_X7_18 dX7_add_33 e_6 (l_6 hn) rfl ?_
    refine aw_dup_x1 dX7_add_36 rfl rfl ?_
    refine aw_iconst (v := 1) dX7_add_37 (by decide) ?_
    refine aw_iadd dX7_add_38 ?_
    refine aw_put fp_X7_18_m dX7_add_39 e_6 (l_6 hn) (ble' rfl) (fun _ => ⟨rfl, rfl⟩) (hwf rfl) ?_
    refine aw_iret rfl dX7_add_42 (ble' rfl) (ble' rfl) ?_
    exact pd_ih hk rfl
  · have n6 := Int32.not_lt.mp c6
    refine aw_iconst (v := -1) dX7_add_9 (by decide) ?_
    refine aw_iret rfl dX7_add_10 (ble' rfl) (ble' rfl) ?_
    exact absurd (by rw [hk]; exact nI_lt hlt (by decide)) c6

def addZ (M : Nat → Nat → Int32) (k : Nat) (c f l m p : Int32) : Nat → Nat → Int32 := updM (updM (updM (updM (updM (updM (M) 10 (upd (M 10) k c)) 11 (upd (M 11) k f)) 12 (upd (M 12) k l)) 13 (upd (M 13) k m)) 14 (upd (M 14) k p)) 9 (upd (M 9) 5 (M 9 5 + 1))

set_option maxRecDepth 100000 in
set_option maxHeartbeats 4000000 in
theorem c_X5_add {G : AG} {M : Nat → Nat → Int32} {n : Nat} (hn : 72 ≤ n) {k : Nat} (hk : M 9 5 = nI k) (hlt : k < 12) (c f l m p : Int32) : AMet tX5_add yX5_add [Cond.code yX5_add cX5_add 6 (some .int)] [.ref 9, .int c, .int f, .int l, .int m, .int p] (wld G M) n (PD (.inl (some (.int (nI k)))) (wld G (addZ M k c f l m p)) n) := by
  refine am_of (lo := [_, _, _, _, _, _]) (by decide) rfl (fun q => by cases q) rfl rfl rfl ?_
  refine aw_aload_n dX5_add_0 rfl ?_
  refine aw_get fl_X5_27 dX5_add_1 e_9 (l_9 hn) rfl ?_
  refine aw_bipush (v := 12) dX5_add_4 (by decide) ?_
  refine aw_icmp_lt 11 dX5_add_6 (by decide) (fun c6 => ?_) (fun c6 => ?_)
  · have n6 := Int32.not_le.mpr c6
    refine aw_aload_n dX5_add_11 rfl ?_
    refine aw_get fl_X5_9 dX5_add_12 e_9 (l_9 hn) rfl ?_
    refine aw_aload_n dX5_add_15 rfl ?_
    refine aw_get fl_X5_27 dX5_add_16 e_9 (l_9 hn) rfl ?_
    refine aw_iload_n dX5_add_19 rfl ?_
    refine aw_iastk dX5_add_20 e_10 (l_10 hn) hk hlt rfl (hwa rfl) ?_
    refine aw_aload_n dX5_add_21 rfl ?_
    refine aw_get fl_X5_15 dX5_add_22 e_9 (l_9 hn) rfl ?_
    refine aw_aload_n dX5_add_25 rfl ?_
    refine aw_get fl_X5_27 dX5_add_26 e_9 (l_9 hn) rfl ?_
    refine aw_iload_n dX5_add_29 rfl ?_
    refine aw_iastk dX5_add_30 e_11 (l_11 hn) hk hlt rfl (hwa rfl) ?_
    refine aw_aload_n dX5_add_31 rfl ?_
    refine aw_get fl_X5_18 dX5_add_32 e_9 (l_9 hn) rfl ?_
    refine aw_aload_n dX5_add_35 rfl ?_
    refine aw_get fl_X5_27 dX5_add_36 e_9 (l_9 hn) rfl ?_
    refine aw_iload_n dX5_add_39 rfl ?_
    refine aw_iastk dX5_add_40 e_12 (l_12 hn) hk hlt rfl (hwa rfl) ?_
    refine aw_aload_n dX5_add_41 rfl ?_
    refine aw_get fl_X5_21 dX5_add_42 e_9 (l_9 hn) rfl ?_
    refine aw_aload_n dX5_add_45 rfl ?_
    refine aw_get fl_X5_27 dX5_add_46 e_9 (l_9 hn) rfl ?_
    refine aw_iload dX5_add_49 rfl ?_
    refine aw_iastk dX5_add_51 e_13 (l_13 hn) hk hlt rfl (hwa rfl) ?_
    refine aw_aload_n dX5_add_52 rfl ?_
    refine aw_get fl_X5_24 dX5_add_53 e_9 (l_9 hn) rfl ?_
    refine aw_aload_n dX5_add_56 rfl ?_
    refine aw_get fl_X5_27 dX5_add_57 e_9 (l_9 hn) rfl ?_
    refine aw_iload dX5_add_60 rfl ?_
    refine aw_iastk dX5_add_62 e_14 (l_14 hn) hk hlt rfl (hwa rfl) ?_
    refine aw_aload_n dX5_add_63 rfl ?_
    refine aw_dup dX5_add_64 rfl ?_
    refine aw_get fl_X5_27 dX5_add_65 e_9 (l_9 hn) rfl ?_
    refine aw_dup_x1 dX5_add_68 rfl rfl ?_
    refine aw_iconst (v := 1) dX5_add_69 (by decide) ?_
    refine aw_iadd dX5_add_70 ?_
    refine aw_put fp_X5_27_m dX5_add_71 e_9 (l_9 hn) (ble' rfl) (fun _ => ⟨rfl, rfl⟩) (hwf rfl) ?_
    refine aw_iret rfl dX5_add_74 (ble' rfl) (ble' rfl) ?_
    exact pd_ih hk rfl
  · have n6 := Int32.not_lt.mp c6
    refine aw_iconst (v := -1) dX5_add_9 (by decide) ?_
    refine aw_iret rfl dX5_add_10 (ble' rfl) (ble' rfl) ?_
    exact absurd (by rw [hk]; exact nI_lt hlt (by decide)) c6

def addC_d (M : Nat → Nat → Int32) (k : Nat) (w s q : Int32) : Nat → Nat → Int32 := updM (updM (updM (updM (M) 30 (upd (M 30) k w)) 31 (upd (M 31) k s)) 32 (upd (M 32) k q)) 29 (upd (M 29) 3 (M 29 3 + 1))

set_option maxRecDepth 100000 in
set_option maxHeartbeats 4000000 in
theorem c_X2_add_d {G : AG} {M : Nat → Nat → Int32} {n : Nat} (hn : 72 ≤ n) {k : Nat} (hk : M 29 3 = nI k) (hlt : k < 4) (w s q : Int32) : AMet tX2_add yX2_add [Cond.code yX2_add cX2_add 4 (some .int)] [.ref 29, .int w, .int s, .int q] (wld G M) n (PD (.inl (some (.int (nI k)))) (wld G (addC_d M k w s q)) n) := by
  refine am_of (lo := [_, _, _, _]) (by decide) rfl (fun q => by cases q) rfl rfl rfl ?_
  refine aw_aload_n dX2_add_0 rfl ?_
  refine aw_get fl_X2_21 dX2_add_1 e_29 (l_29 hn) rfl ?_
  refine aw_iconst (v := 4) dX2_add_4 (by decide) ?_
  refine aw_icmp_lt 10 dX2_add_5 (by decide) (fun c5 => ?_) (fun c5 => ?_)
  · have n5 := Int32.not_le.mpr c5
    refine aw_aload_n dX2_add_10 rfl ?_
    refine aw_get fl_X2_9 dX2_add_11 e_29 (l_29 hn) rfl ?_
    refine aw_aload_n dX2_add_14 rfl ?_
    refine aw_get fl_X2_21 dX2_add_15 e_29 (l_29 hn) rfl ?_
    refine aw_iload_n dX2_add_18 rfl ?_
    refine aw_iastk dX2_add_19 e_30 (l_30 hn) hk hlt rfl (hwa rfl) ?_
    refine aw_aload_n dX2_add_20 rfl ?_
    refine aw_get fl_X2_15 dX2_add_21 e_29 (l_29 hn) rfl ?_
    refine aw_aload_n dX2_add_24 rfl ?_
    refine aw_get fl_X2_21 dX2_add_25 e_29 (l_29 hn) rfl ?_
    refine aw_iload_n dX2_add_28 rfl ?_
    refine aw_iastk dX2_add_29 e_31 (l_31 hn) hk hlt rfl (hwa rfl) ?_
    refine aw_aload_n dX2_add_30 rfl ?_
    refine aw_get fl_X2_18 dX2_add_31 e_29 (l_29 hn) rfl ?_
    refine aw_aload_n dX2_add_34 rfl ?_
    refine aw_get fl_X2_21 dX2_add_35 e_29 (l_29 hn) rfl ?_
    refine aw_iload_n dX2_add_38 rfl ?_
    refine aw_iastk dX2_add_39 e_32 (l_32 hn) hk hlt rfl (hwa rfl) ?_
    refine aw_aload_n dX2_add_40 rfl ?_
    refine aw_dup dX2_add_41 rfl ?_
    refine aw_get fl_X2_21 dX2_add_42 e_29 (l_29 hn) rfl ?_
    refine aw_dup_x1 dX2_add_45 rfl rfl ?_
    refine aw_iconst (v := 1) dX2_add_46 (by decide) ?_
    refine aw_iadd dX2_add_47 ?_
    refine aw_put fp_X2_21_m dX2_add_48 e_29 (l_29 hn) (ble' rfl) (fun _ => ⟨rfl, rfl⟩) (hwf rfl) ?_
    refine aw_iret rfl dX2_add_51 (ble' rfl) (ble' rfl) ?_
    exact pd_ih hk rfl
  · have n5 := Int32.not_lt.mp c5
    refine aw_iconst (v := -1) dX2_add_8 (by decide) ?_
    refine aw_iret rfl dX2_add_9 (ble' rfl) (ble' rfl) ?_
    exact absurd (by rw [hk]; exact nI_lt hlt (by decide)) c5

def addS_d (M : Nat → Nat → Int32) (k : Nat) (c : Int32) : Nat → Nat → Int32 := updM (updM (updM (M) 34 (upd (M 34) k c)) 35 (upd (M 35) k 0)) 33 (upd (M 33) 2 (M 33 2 + 1))

set_option maxRecDepth 100000 in
set_option maxHeartbeats 4000000 in
theorem c_X7_add_d {G : AG} {M : Nat → Nat → Int32} {n : Nat} (hn : 72 ≤ n) {k : Nat} (hk : M 33 2 = nI k) (hlt : k < 16) (c : Int32) : AMet tX7_add yX7_add [Cond.code yX7_add cX7_add 2 (some .int)] [.ref 33, .int c] (wld G M) n (PD (.inl (some (.int (nI k)))) (wld G (addS_d M k c)) n) := by
  refine am_of (lo := [_, _]) (by decide) rfl (fun q => by cases q) rfl rfl rfl ?_
  refine aw_aload_n dX7_add_0 rfl ?_
  refine aw_get fl_X7_18 dX7_add_1 e_33 (l_33 hn) rfl ?_
  refine aw_bipush (v := 16) dX7_add_4 (by decide) ?_
  refine aw_icmp_lt 11 dX7_add_6 (by decide) (fun c6 => ?_) (fun c6 => ?_)
  · have n6 := Int32.not_le.mpr c6
    refine aw_aload_n dX7_add_11 rfl ?_
    refine aw_get fl_X7_9 dX7_add_12 e_33 (l_33 hn) rfl ?_
    refine aw_aload_n dX7_add_15 rfl ?_
    refine aw_get fl_X7_18 dX7_add_16 e_33 (l_33 hn) rfl ?_
    refine aw_iload_n dX7_add_19 rfl ?_
    refine aw_iastk dX7_add_20 e_34 (l_34 hn) hk hlt rfl (hwa rfl) ?_
    refine aw_aload_n dX7_add_21 rfl ?_
    refine aw_get fl_X7_15 dX7_add_22 e_33 (l_33 hn) rfl ?_
    refine aw_aload_n dX7_add_25 rfl ?_
    refine aw_get fl_X7_18 dX7_add_26 e_33 (l_33 hn) rfl ?_
    refine aw_iconst (v := 0) dX7_add_29 (by decide) ?_
    refine aw_iastk dX7_add_30 e_35 (l_35 hn) hk hlt rfl (hwa rfl) ?_
    refine aw_aload_n dX7_add_31 rfl ?_
    refine aw_dup dX7_add_32 rfl ?_
    refine aw_get fl_X7_18 dX7_add_33 e_33 (l_33 hn) rfl ?_
    refine aw_dup_x1 dX7_add_36 rfl rfl ?_
    refine aw_iconst (v := 1) dX7_add_37 (by decide) ?_
    refine aw_iadd dX7_add_38 ?_
    refine aw_put fp_X7_18_m dX7_add_39 e_33 (l_33 hn) (ble' rfl) (fun _ => ⟨rfl, rfl⟩) (hwf rfl) ?_
    refine aw_iret rfl dX7_add_42 (ble' rfl) (ble' rfl) ?_
    exact pd_ih hk rfl
  · have n6 := Int32.not_lt.mp c6
    refine aw_iconst (v := -1) dX7_add_9 (by decide) ?_
    refine aw_iret rfl dX7_add_10 (ble' rfl) (ble' rfl) ?_
    exact absurd (by rw [hk]; exact nI_lt hlt (by decide)) c6

def addZ_d (M : Nat → Nat → Int32) (k : Nat) (c f l m p : Int32) : Nat → Nat → Int32 := updM (updM (updM (updM (updM (updM (M) 37 (upd (M 37) k c)) 38 (upd (M 38) k f)) 39 (upd (M 39) k l)) 40 (upd (M 40) k m)) 41 (upd (M 41) k p)) 36 (upd (M 36) 5 (M 36 5 + 1))

set_option maxRecDepth 100000 in
set_option maxHeartbeats 4000000 in
theorem c_X5_add_d {G : AG} {M : Nat → Nat → Int32} {n : Nat} (hn : 72 ≤ n) {k : Nat} (hk : M 36 5 = nI k) (hlt : k < 12) (c f l m p : Int32) : AMet tX5_add yX5_add [Cond.code yX5_add cX5_add 6 (some .int)] [.ref 36, .int c, .int f, .int l, .int m, .int p] (wld G M) n (PD (.inl (some (.int (nI k)))) (wld G (addZ_d M k c f l m p)) n) := by
  refine am_of (lo := [_, _, _, _, _, _]) (by decide) rfl (fun q => by cases q) rfl rfl rfl ?_
  refine aw_aload_n dX5_add_0 rfl ?_
  refine aw_get fl_X5_27 dX5_add_1 e_36 (l_36 hn) rfl ?_
  refine aw_bipush (v := 12) dX5_add_4 (by decide) ?_
  refine aw_icmp_lt 11 dX5_add_6 (by decide) (fun c6 => ?_) (fun c6 => ?_)
  · have n6 := Int32.not_le.mpr c6
    refine aw_aload_n dX5_add_11 rfl ?_
    refine aw_get fl_X5_9 dX5_add_12 e_36 (l_36 hn) rfl ?_
    refine aw_aload_n dX5_add_15 rfl ?_
    refine aw_get fl_X5_27 dX5_add_16 e_36 (l_36 hn) rfl ?_
    refine aw_iload_n dX5_add_19 rfl ?_
    refine aw_iastk dX5_add_20 e_37 (l_37 hn) hk hlt rfl (hwa rfl) ?_
    refine aw_aload_n dX5_add_21 rfl ?_
    refine aw_get fl_X5_15 dX5_add_22 e_36 (l_36 hn) rfl ?_
    refine aw_aload_n dX5_add_25 rfl ?_
    refine aw_get fl_X5_27 dX5_add_26 e_36 (l_36 hn) rfl ?_
    refine aw_iload_n dX5_add_29 rfl ?_
    refine aw_iastk dX5_add_30 e_38 (l_38 hn) hk hlt rfl (hwa rfl) ?_
    refine aw_aload_n dX5_add_31 rfl ?_
    refine aw_get fl_X5_18 dX5_add_32 e_36 (l_36 hn) rfl ?_
    refine aw_aload_n dX5_add_35 rfl ?_
    refine aw_get fl_X5_27 dX5_add_36 e_36 (l_36 hn) rfl ?_
    refine aw_iload_n dX5_add_39 rfl ?_
    refine aw_iastk dX5_add_40 e_39 (l_39 hn) hk hlt rfl (hwa rfl) ?_
    refine aw_aload_n dX5_add_41 rfl ?_
    refine aw_get fl_X5_21 dX5_add_42 e_36 (l_36 hn) rfl ?_
    refine aw_aload_n dX5_add_45 rfl ?_
    refine aw_get fl_X5_27 dX5_add_46 e_36 (l_36 hn) rfl ?_
    refine aw_iload dX5_add_49 rfl ?_
    refine aw_iastk dX5_add_51 e_40 (l_40 hn) hk hlt rfl (hwa rfl) ?_
    refine aw_aload_n dX5_add_52 rfl ?_
    refine aw_get fl_X5_24 dX5_add_53 e_36 (l_36 hn) rfl ?_
    refine aw_aload_n dX5_add_56 rfl ?_
    refine aw_get fl_X5_27 dX5_add_57 e_36 (l_36 hn) rfl ?_
    refine aw_iload dX5_add_60 rfl ?_
    refine aw_iastk dX5_add_62 e_41 (l_41 hn) hk hlt rfl (hwa rfl) ?_
    refine aw_aload_n dX5_add_63 rfl ?_
    refine aw_dup dX5_add_64 rfl ?_
    refine aw_get fl_X5_27 dX5_add_65 e_36 (l_36 hn) rfl ?_
    refine aw_dup_x1 dX5_add_68 rfl rfl ?_
    refine aw_iconst (v := 1) dX5_add_69 (by decide) ?_
    refine aw_iadd dX5_add_70 ?_
    refine aw_put fp_X5_27_m dX5_add_71 e_36 (l_36 hn) (ble' rfl) (fun _ => ⟨rfl, rfl⟩) (hwf rfl) ?_
    refine aw_iret rfl dX5_add_74 (ble' rfl) (ble' rfl) ?_
    exact pd_ih hk rfl
  · have n6 := Int32.not_lt.mp c6
    refine aw_iconst (v := -1) dX5_add_9 (by decide) ?_
    refine aw_iret rfl dX5_add_10 (ble' rfl) (ble' rfl) ?_
    exact absurd (by rw [hk]; exact nI_lt hlt (by decide)) c6

set_option maxRecDepth 100000 in
set_option maxHeartbeats 4000000 in
theorem lp_X0_endNight {G : AG} {M : Nat → Nat → Int32} {n : Nat} (hn : 72 ≤ n) {nb : Nat} (hb : M 15 6 = nI nb) (hle : nb ≤ 60) (d : Int32) : ∀ (j : Nat) (k : Nat) (x2 : Int32), nb - k < j → k ≤ nb → x2 = nI k →  AW tX0_endNight (AQm tX0_endNight (PD (.inl none) (wld G (updM M 20 (mapK (enS (M 17) (M 18) (M 20) d) (M 20) nb))) n)) C0 2 [some (.ref 15), some (.int d), some (.int x2)] [] (wld G (updM M 20 (mapK (enS (M 17) (M 18) (M 20) d) (M 20) k))) n 0 0 := by
  intro j
  induction j with
  | zero => intro k x2 h1 hk h2; omega
  | succ j ih =>
    intro k x2 h1 hk h2
    refine aw_iload_n dX0_endNight_2 rfl ?_
    refine aw_aload_n dX0_endNight_3 rfl ?_
    refine aw_get fl_X0_30 dX0_endNight_4 e_15 (l_15 hn) rfl ?_
    refine aw_icmp_ge 74 dX0_endNight_7 (by decide) (fun c7 => ?_) (fun c7 => ?_)
    · have n7 := Int32.not_lt.mpr c7
      refine aw_vret rfl dX0_endNight_74 (ble' rfl) (ble' rfl) ?_
      have hke : k = nb := Nat.le_antisymm hk (le_of_le hb h2 (by omega) (by omega) c7)
      subst hke
      exact pd_v rfl
    · have n7 := Int32.not_le.mp c7
      have hlt : k < nb := lt_of_nle hb h2 (by omega) (by omega) c7
      have h60 : k < 60 := by omega
      refine aw_aload_n dX0_endNight_10 rfl ?_
      refine aw_get fl_X0_24 dX0_endNight_11 e_15 (l_15 hn) rfl ?_
      refine aw_iload_n dX0_endNight_14 rfl ?_
      refine aw_ialdk dX0_endNight_15 e_20 (l_20 hn) h2 h60 rfl ?_
      refine aw_if_ne 39 dX0_endNight_16 (by decide) (fun c16 => ?_) (fun c16 => ?_)
      · refine aw_aload_n dX0_endNight_39 rfl ?_
        refine aw_get fl_X0_24 dX0_endNight_40 e_15 (l_15 hn) rfl ?_
        refine aw_iload_n dX0_endNight_43 rfl ?_
        refine aw_ialdk dX0_endNight_44 e_20 (l_20 hn) h2 h60 rfl ?_
        refine aw_iconst (v := 1) dX0_endNight_45 (by decide) ?_
        refine aw_icmp_ne 68 dX0_endNight_46 (by decide) (fun c46 => ?_) (fun c46 => ?_)
        · refine aw_iinc (lo' := [_, _, some (.int _)]) dX0_endNight_68 rfl (by decide) rfl ?_
          refine aw_goto 2 dX0_endNight_71 (by decide) ?_
          simp only [updM_s, mapK_at, updM_n (show 17 ≠ 20 by decide), updM_n (show 18 ≠ 20 by decide)] at c16 c46
          refine aw_heq (mapN (by simp [enS, c16, c46])) ?_
          exact ih (k + 1) _ (by omega) (by omega) (by rw [h2]; exact inc1 k)
        · refine aw_aload_n dX0_endNight_49 rfl ?_
          refine aw_get fl_X0_18 dX0_endNight_50 e_15 (l_15 hn) rfl ?_
          refine aw_iload_n dX0_endNight_53 rfl ?_
          refine aw_ialdk dX0_endNight_54 e_18 (l_18 hn) h2 h60 rfl ?_
          refine aw_iload_n dX0_endNight_55 rfl ?_
          refine aw_iconst (v := 1) dX0_endNight_56 (by decide) ?_
          refine aw_iadd dX0_endNight_57 ?_
          refine aw_icmp_gt 68 dX0_endNight_58 (by decide) (fun c58 => ?_) (fun c58 => ?_)
          · have n58 := Int32.not_le.mpr c58
            refine aw_iinc (lo' := [_, _, some (.int _)]) dX0_endNight_68 rfl (by decide) rfl ?_
            refine aw_goto 2 dX0_endNight_71 (by decide) ?_
            simp only [updM_s, mapK_at, updM_n (show 17 ≠ 20 by decide), updM_n (show 18 ≠ 20 by decide)] at c16 c46 c58 n58
            refine aw_heq (mapN (by simp [enS, c16, c46, c58, n58])) ?_
            exact ih (k + 1) _ (by omega) (by omega) (by rw [h2]; exact inc1 k)
          · have n58 := Int32.not_lt.mp c58
            refine aw_aload_n dX0_endNight_61 rfl ?_
            refine aw_get fl_X0_24 dX0_endNight_62 e_15 (l_15 hn) rfl ?_
            refine aw_iload_n dX0_endNight_65 rfl ?_
            refine aw_iconst (v := 2) dX0_endNight_66 (by decide) ?_
            refine aw_iastk dX0_endNight_67 e_20 (l_20 hn) h2 h60 rfl (hwa rfl) ?_
            refine aw_iinc (lo' := [_, _, some (.int _)]) dX0_endNight_68 rfl (by decide) rfl ?_
            refine aw_goto 2 dX0_endNight_71 (by decide) ?_
            simp only [updM_s, mapK_at, updM_n (show 17 ≠ 20 by decide), updM_n (show 18 ≠ 20 by decide)] at c16 c46 c58 n58
            refine aw_heq (mapW (by first | (simp [enS, c16, c46, c58, n58]; done) | (rw [c16] at c46; exact absurd c46 (by decide)))) ?_
            exact ih (k + 1) _ (by omega) (by omega) (by rw [h2]; exact inc1 k)
      · refine aw_aload_n dX0_endNight_19 rfl ?_
        refine aw_get fl_X0_15 dX0_endNight_20 e_15 (l_15 hn) rfl ?_
        refine aw_iload_n dX0_endNight_23 rfl ?_
        refine aw_ialdk dX0_endNight_24 e_17 (l_17 hn) h2 h60 rfl ?_
        refine aw_iload_n dX0_endNight_25 rfl ?_
        refine aw_icmp_gt 39 dX0_endNight_26 (by decide) (fun c26 => ?_) (fun c26 => ?_)
        · have n26 := Int32.not_le.mpr c26
          refine aw_aload_n dX0_endNight_39 rfl ?_
          refine aw_get fl_X0_24 dX0_endNight_40 e_15 (l_15 hn) rfl ?_
          refine aw_iload_n dX0_endNight_43 rfl ?_
          refine aw_ialdk dX0_endNight_44 e_20 (l_20 hn) h2 h60 rfl ?_
          refine aw_iconst (v := 1) dX0_endNight_45 (by decide) ?_
          refine aw_icmp_ne 68 dX0_endNight_46 (by decide) (fun c46 => ?_) (fun c46 => ?_)
          · refine aw_iinc (lo' := [_, _, some (.int _)]) dX0_endNight_68 rfl (by decide) rfl ?_
            refine aw_goto 2 dX0_endNight_71 (by decide) ?_
            simp only [updM_s, mapK_at, updM_n (show 17 ≠ 20 by decide), updM_n (show 18 ≠ 20 by decide)] at c16 c26 n26 c46
            refine aw_heq (mapN (by simp [enS, c16, c26, n26, c46])) ?_
            exact ih (k + 1) _ (by omega) (by omega) (by rw [h2]; exact inc1 k)
          · refine aw_aload_n dX0_endNight_49 rfl ?_
            refine aw_get fl_X0_18 dX0_endNight_50 e_15 (l_15 hn) rfl ?_
            refine aw_iload_n dX0_endNight_53 rfl ?_
            refine aw_ialdk dX0_endNight_54 e_18 (l_18 hn) h2 h60 rfl ?_
            refine aw_iload_n dX0_endNight_55 rfl ?_
            refine aw_iconst (v := 1) dX0_endNight_56 (by decide) ?_
            refine aw_iadd dX0_endNight_57 ?_
            refine aw_icmp_gt 68 dX0_endNight_58 (by decide) (fun c58 => ?_) (fun c58 => ?_)
            · have n58 := Int32.not_le.mpr c58
              refine aw_iinc (lo' := [_, _, some (.int _)]) dX0_endNight_68 rfl (by decide) rfl ?_
              refine aw_goto 2 dX0_endNight_71 (by decide) ?_
              simp only [updM_s, mapK_at, updM_n (show 17 ≠ 20 by decide), updM_n (show 18 ≠ 20 by decide)] at c16 c26 n26 c46 c58 n58
              refine aw_heq (mapN (by simp [enS, c16, c26, n26, c46, c58, n58])) ?_
              exact ih (k + 1) _ (by omega) (by omega) (by rw [h2]; exact inc1 k)
            · have n58 := Int32.not_lt.mp c58
              refine aw_aload_n dX0_endNight_61 rfl ?_
              refine aw_get fl_X0_24 dX0_endNight_62 e_15 (l_15 hn) rfl ?_
              refine aw_iload_n dX0_endNight_65 rfl ?_
              refine aw_iconst (v := 2) dX0_endNight_66 (by decide) ?_
              refine aw_iastk dX0_endNight_67 e_20 (l_20 hn) h2 h60 rfl (hwa rfl) ?_
              refine aw_iinc (lo' := [_, _, some (.int _)]) dX0_endNight_68 rfl (by decide) rfl ?_
              refine aw_goto 2 dX0_endNight_71 (by decide) ?_
              simp only [updM_s, mapK_at, updM_n (show 17 ≠ 20 by decide), updM_n (show 18 ≠ 20 by decide)] at c16 c26 n26 c46 c58 n58
              refine aw_heq (mapW (by first | (simp [enS, c16, c26, n26, c46, c58, n58]; done) | (rw [c16] at c46; exact absurd c46 (by decide)))) ?_
              exact ih (k + 1) _ (by omega) (by omega) (by rw [h2]; exact inc1 k)
        · have n26 := Int32.not_lt.mp c26
          refine aw_aload_n dX0_endNight_29 rfl ?_
          refine aw_get fl_X0_24 dX0_endNight_30 e_15 (l_15 hn) rfl ?_
          refine aw_iload_n dX0_endNight_33 rfl ?_
          refine aw_iconst (v := 4) dX0_endNight_34 (by decide) ?_
          refine aw_iastk dX0_endNight_35 e_20 (l_20 hn) h2 h60 rfl (hwa rfl) ?_
          refine aw_goto 68 dX0_endNight_36 (by decide) ?_
          refine aw_iinc (lo' := [_, _, some (.int _)]) dX0_endNight_68 rfl (by decide) rfl ?_
          refine aw_goto 2 dX0_endNight_71 (by decide) ?_
          simp only [updM_s, mapK_at, updM_n (show 17 ≠ 20 by decide), updM_n (show 18 ≠ 20 by decide)] at c16 c26 n26
          refine aw_heq (mapW (by first | (simp [enS, c16, c26, n26]; done) | (rw [c16] at c46; exact absurd c46 (by decide)))) ?_
          exact ih (k + 1) _ (by omega) (by omega) (by rw [h2]; exact inc1 k)

set_option maxRecDepth 100000 in
set_option maxHeartbeats 4000000 in
theorem c_X0_endNight {G : AG} {M : Nat → Nat → Int32} {n : Nat} (hn : 72 ≤ n) {nb : Nat} (hb : M 15 6 = nI nb) (hle : nb ≤ 60) (d : Int32) : AMet tX0_endNight yX0_endNight [Cond.code yX0_endNight cX0_endNight 3 none] [.ref 15, .int d] (wld G M) n (PD (.inl none) (wld G (updM M 20 (mapK (enS (M 17) (M 18) (M 20) d) (M 20) nb))) n) := by
  refine am_of (lo := [_, _, _]) (by decide) rfl (fun q => by cases q) rfl rfl rfl ?_
  refine aw_iconst (v := 0) dX0_endNight_0 (by decide) ?_
  refine aw_istore_n (lo' := [_, _, some (.int _)]) dX0_endNight_1 (by decide) rfl ?_
  refine aw_heq (show wld G M = (wld G (updM M 20 (mapK (enS (M 17) (M 18) (M 20) d) (M 20) 0))) by rw [mapK_0, updM_id]) ?_
  exact lp_X0_endNight hn hb hle d (nb + 1) 0 _ (by omega) (by omega) rfl

set_option maxRecDepth 100000 in
set_option maxHeartbeats 4000000 in
theorem lp_X4_expireBefore {G : AG} {M : Nat → Nat → Int32} {n : Nat} (hn : 72 ≤ n) {nr : Nat} (hr : M 22 5 = nI nr) (hle : nr ≤ 20) (d : Int32) : ∀ (j : Nat) (k : Nat) (x2 : Int32), nr - k < j → k ≤ nr → x2 = nI k →  AW tX4_expireBefore (AQm tX4_expireBefore (PD (.inl none) (wld G (updM M 26 (mapK (exS (M 24) (M 26) d) (M 26) nr))) n)) C0 2 [some (.ref 22), some (.int d), some (.int x2)] [] (wld G (updM M 26 (mapK (exS (M 24) (M 26) d) (M 26) k))) n 0 0 := by
  intro j
  induction j with
  | zero => intro k x2 h1 hk h2; omega
  | succ j ih =>
    intro k x2 h1 hk h2
    refine aw_iload_n dX4_expireBefore_2 rfl ?_
    refine aw_aload_n dX4_expireBefore_3 rfl ?_
    refine aw_get fl_X4_27 dX4_expireBefore_4 e_22 (l_22 hn) rfl ?_
    refine aw_icmp_ge 42 dX4_expireBefore_7 (by decide) (fun c7 => ?_) (fun c7 => ?_)
    · have n7 := Int32.not_lt.mpr c7
      refine aw_vret rfl dX4_expireBefore_42 (ble' rfl) (ble' rfl) ?_
      have hke : k = nr := Nat.le_antisymm hk (le_of_le hr h2 (by omega) (by omega) c7)
      subst hke
      exact pd_v rfl
    · have n7 := Int32.not_le.mp c7
      have hlt : k < nr := lt_of_nle hr h2 (by omega) (by omega) c7
      have h60 : k < 20 := by omega
      refine aw_aload_n dX4_expireBefore_10 rfl ?_
      refine aw_get fl_X4_21 dX4_expireBefore_11 e_22 (l_22 hn) rfl ?_
      refine aw_iload_n dX4_expireBefore_14 rfl ?_
      refine aw_ialdk dX4_expireBefore_15 e_26 (l_26 hn) h2 h60 rfl ?_
      refine aw_if_ne 36 dX4_expireBefore_16 (by decide) (fun c16 => ?_) (fun c16 => ?_)
      · refine aw_iinc (lo' := [_, _, some (.int _)]) dX4_expireBefore_36 rfl (by decide) rfl ?_
        refine aw_goto 2 dX4_expireBefore_39 (by decide) ?_
        simp only [updM_s, mapK_at, updM_n (show 24 ≠ 26 by decide)] at c16
        refine aw_heq (mapN (by simp [exS, c16])) ?_
        exact ih (k + 1) _ (by omega) (by omega) (by rw [h2]; exact inc1 k)
      · refine aw_aload_n dX4_expireBefore_19 rfl ?_
        refine aw_get fl_X4_15 dX4_expireBefore_20 e_22 (l_22 hn) rfl ?_
        refine aw_iload_n dX4_expireBefore_23 rfl ?_
        refine aw_ialdk dX4_expireBefore_24 e_24 (l_24 hn) h2 h60 rfl ?_
        refine aw_iload_n dX4_expireBefore_25 rfl ?_
        refine aw_icmp_ge 36 dX4_expireBefore_26 (by decide) (fun c26 => ?_) (fun c26 => ?_)
        · have n26 := Int32.not_lt.mpr c26
          refine aw_iinc (lo' := [_, _, some (.int _)]) dX4_expireBefore_36 rfl (by decide) rfl ?_
          refine aw_goto 2 dX4_expireBefore_39 (by decide) ?_
          simp only [updM_s, mapK_at, updM_n (show 24 ≠ 26 by decide)] at c16 c26 n26
          refine aw_heq (mapN (by simp [exS, c16, c26, n26])) ?_
          exact ih (k + 1) _ (by omega) (by omega) (by rw [h2]; exact inc1 k)
        · have n26 := Int32.not_le.mp c26
          refine aw_aload_n dX4_expireBefore_29 rfl ?_
          refine aw_get fl_X4_21 dX4_expireBefore_30 e_22 (l_22 hn) rfl ?_
          refine aw_iload_n dX4_expireBefore_33 rfl ?_
          refine aw_iconst (v := 3) dX4_expireBefore_34 (by decide) ?_
          refine aw_iastk dX4_expireBefore_35 e_26 (l_26 hn) h2 h60 rfl (hwa rfl) ?_
          refine aw_iinc (lo' := [_, _, some (.int _)]) dX4_expireBefore_36 rfl (by decide) rfl ?_
          refine aw_goto 2 dX4_expireBefore_39 (by decide) ?_
          simp only [updM_s, mapK_at, updM_n (show 24 ≠ 26 by decide)] at c16 c26 n26
          refine aw_heq (mapW (by simp [exS, c16, c26, n26])) ?_
          exact ih (k + 1) _ (by omega) (by omega) (by rw [h2]; exact inc1 k)

set_option maxRecDepth 100000 in
set_option maxHeartbeats 4000000 in
theorem c_X4_expireBefore {G : AG} {M : Nat → Nat → Int32} {n : Nat} (hn : 72 ≤ n) {nr : Nat} (hr : M 22 5 = nI nr) (hle : nr ≤ 20) (d : Int32) : AMet tX4_expireBefore yX4_expireBefore [Cond.code yX4_expireBefore cX4_expireBefore 3 none] [.ref 22, .int d] (wld G M) n (PD (.inl none) (wld G (updM M 26 (mapK (exS (M 24) (M 26) d) (M 26) nr))) n) := by
  refine am_of (lo := [_, _, _]) (by decide) rfl (fun q => by cases q) rfl rfl rfl ?_
  refine aw_iconst (v := 0) dX4_expireBefore_0 (by decide) ?_
  refine aw_istore_n (lo' := [_, _, some (.int _)]) dX4_expireBefore_1 (by decide) rfl ?_
  refine aw_heq (show wld G M = (wld G (updM M 26 (mapK (exS (M 24) (M 26) d) (M 26) 0))) by rw [mapK_0, updM_id]) ?_
  exact lp_X4_expireBefore hn hr hle d (nr + 1) 0 _ (by omega) (by omega) rfl
