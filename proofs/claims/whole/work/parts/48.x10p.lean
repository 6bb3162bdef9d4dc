set_option maxRecDepth 100000 in
set_option maxHeartbeats 4000000 in
theorem c_X10_isAhead {G : AG} {M : Nat → Nat → Int32} {n : Nat} (hn : 72 ≤ n) {r q : Int32} {k o : Nat} (hr : r = nI k) (hk : k < 20) (ho : q = nI o) (hk2 : o < 20) : AMet tX10_isAhead yX10_isAhead [Cond.code yX10_isAhead cX10_isAhead 3 (some .boolean)] [.ref 63, .int r, .int q] (wld G M) n (PD (.inl (some (.int (bI (if V M 25 k = V M 25 o then V M 24 k < V M 24 o else V M 25 o < V M 25 k))))) (wld G M) n) := by
  refine am_of (lo := [_, _, _]) (by decide) rfl (fun q => by cases q) rfl rfl rfl ?_
  refine aw_aload_n dX10_isAhead_0 rfl ?_
  refine aw_iload_n dX10_isAhead_1 rfl ?_
  refine aw_iconst (v := 2) dX10_isAhead_2 (by decide) ?_
  refine ap_callVi kv_X10_156 ko_X10_requestField (c_X10_requestField_2 hn hr hk) dX10_isAhead_3 e_63 (l_63 hn) rfl rfl rfl rfl (ble' rfl) (by decide) ?_
  refine aw_aload_n dX10_isAhead_6 rfl ?_
  refine aw_iload_n dX10_isAhead_7 rfl ?_
  refine aw_iconst (v := 2) dX10_isAhead_8 (by decide) ?_
  refine ap_callVi kv_X10_156 ko_X10_requestField (c_X10_requestField_2 hn ho hk2) dX10_isAhead_9 e_63 (l_63 hn) rfl rfl rfl rfl (ble' rfl) (by decide) ?_
  refine aw_icmp_eq 36 dX10_isAhead_12 (by decide) (fun c12 => ?_) (fun c12 => ?_)
  · refine aw_aload_n dX10_isAhead_36 rfl ?_
    refine aw_iload_n dX10_isAhead_37 rfl ?_
    refine aw_iconst (v := 1) dX10_isAhead_38 (by decide) ?_
    refine ap_callVi kv_X10_156 ko_X10_requestField (c_X10_requestField_1 hn hr hk) dX10_isAhead_39 e_63 (l_63 hn) rfl rfl rfl rfl (ble' rfl) (by decide) ?_
    refine aw_aload_n dX10_isAhead_42 rfl ?_
    refine aw_iload_n dX10_isAhead_43 rfl ?_
    refine aw_iconst (v := 1) dX10_isAhead_44 (by decide) ?_
    refine ap_callVi kv_X10_156 ko_X10_requestField (c_X10_requestField_1 hn ho hk2) dX10_isAhead_45 e_63 (l_63 hn) rfl rfl rfl rfl (ble' rfl) (by decide) ?_
    refine aw_icmp_ge 55 dX10_isAhead_48 (by decide) (fun c48 => ?_) (fun c48 => ?_)
    · have n48 := Int32.not_lt.mpr c48
      refine aw_iconst (v := 0) dX10_isAhead_55 (by decide) ?_
      refine aw_zret rfl dX10_isAhead_56 rfl (ble' rfl) (ble' rfl) ?_
      exact pd_i (by simp [bI, c12, c48, n48])
    · have n48 := Int32.not_le.mp c48
      refine aw_iconst (v := 1) dX10_isAhead_51 (by decide) ?_
      refine aw_goto 56 dX10_isAhead_52 (by decide) ?_
      refine aw_zret rfl dX10_isAhead_56 rfl (ble' rfl) (ble' rfl) ?_
      exact pd_i (by simp [bI, c12, c48, n48])
  · refine aw_aload_n dX10_isAhead_15 rfl ?_
    refine aw_iload_n dX10_isAhead_16 rfl ?_
    refine aw_iconst (v := 2) dX10_isAhead_17 (by decide) ?_
    refine ap_callVi kv_X10_156 ko_X10_requestField (c_X10_requestField_2 hn hr hk) dX10_isAhead_18 e_63 (l_63 hn) rfl rfl rfl rfl (ble' rfl) (by decide) ?_
    refine aw_aload_n dX10_isAhead_21 rfl ?_
    refine aw_iload_n dX10_isAhead_22 rfl ?_
    refine aw_iconst (v := 2) dX10_isAhead_23 (by decide) ?_
    refine ap_callVi kv_X10_156 ko_X10_requestField (c_X10_requestField_2 hn ho hk2) dX10_isAhead_24 e_63 (l_63 hn) rfl rfl rfl rfl (ble' rfl) (by decide) ?_
    refine aw_icmp_le 34 dX10_isAhead_27 (by decide) (fun c27 => ?_) (fun c27 => ?_)
    · have n27 := Int32.not_lt.mpr c27
      refine aw_iconst (v := 0) dX10_isAhead_34 (by decide) ?_
      refine aw_zret rfl dX10_isAhead_35 rfl (ble' rfl) (ble' rfl) ?_
      exact pd_i (by simp [bI, c12, c27, n27])
    · have n27 := Int32.not_le.mp c27
      refine aw_iconst (v := 1) dX10_isAhead_30 (by decide) ?_
      refine aw_goto 35 dX10_isAhead_31 (by decide) ?_
      refine aw_zret rfl dX10_isAhead_35 rfl (ble' rfl) (ble' rfl) ?_
      exact pd_i (by simp [bI, c12, c27, n27])

def wpR (M : Nat → Nat → Int32) (c p : Int32) : Nat := if ¬ (0 ≤ c ∧ c ≤ M 64 1 - 1) then 1 else if ¬ (0 ≤ p ∧ p ≤ 1) then 2 else 0
set_option maxRecDepth 100000 in
set_option maxHeartbeats 4000000 in
theorem c_X10_wrongPlan {G : AG} {M : Nat → Nat → Int32} {n : Nat} (hn : 72 ≤ n) (c p : Int32) : AMet tX10_wrongPlan yX10_wrongPlan [Cond.code yX10_wrongPlan cX10_wrongPlan 3 (some .int)] [.ref 63, .int c, .int p] (wld G M) n (PD (.inl (some (.int (nI (wpR M c p))))) (wld G M) n) := by
  refine am_of (lo := [_, _, _]) (by decide) rfl (fun q => by cases q) rfl rfl rfl ?_
  refine aw_aload_n dX10_wrongPlan_0 rfl ?_
  refine aw_iload_n dX10_wrongPlan_1 rfl ?_
  refine ap_callVi kv_X10_51 ko_X10_isClass (c_X10_isClass hn _) dX10_wrongPlan_2 e_63 (l_63 hn) rfl rfl rfl rfl (ble' rfl) (by decide) ?_
  refine aw_if_ne 10 dX10_wrongPlan_5 (by decide) (fun c5 => ?_) (fun c5 => ?_)
  · have n5 := bI_nz.mp c5
    refine aw_iload_n dX10_wrongPlan_10 rfl ?_
    refine aw_iconst (v := 0) dX10_wrongPlan_11 (by decide) ?_
    refine aw_iconst (v := 1) dX10_wrongPlan_12 (by decide) ?_
    refine ap_callSi ks_X10_39 ko_X10_isBetween (c_X10_isBetween _ _ _) dX10_wrongPlan_13 rfl rfl (ble' rfl) (by decide) ?_
    refine aw_if_eq 23 dX10_wrongPlan_16 (by decide) (fun c16 => ?_) (fun c16 => ?_)
    · have n16 := bI_z.mp c16
      refine aw_iconst (v := 2) dX10_wrongPlan_23 (by decide) ?_
      refine aw_iret rfl dX10_wrongPlan_24 (ble' rfl) (ble' rfl) ?_
      exact pd_i (by rw [wpR, if_neg (fun q => q n5), if_pos n16]; rfl)
    · have n16 := bI_nz.mp c16
      refine aw_iconst (v := 0) dX10_wrongPlan_19 (by decide) ?_
      refine aw_goto 24 dX10_wrongPlan_20 (by decide) ?_
      refine aw_iret rfl dX10_wrongPlan_24 (ble' rfl) (ble' rfl) ?_
      exact pd_i (by rw [wpR, if_neg (fun q => q n5), if_neg (fun q => q n16)]; rfl)
  · have n5 := bI_z.mp c5
    refine aw_iconst (v := 1) dX10_wrongPlan_8 (by decide) ?_
    refine aw_iret rfl dX10_wrongPlan_9 (ble' rfl) (ble' rfl) ?_
    exact pd_i (by rw [wpR, if_pos n5]; rfl)

set_option maxRecDepth 100000 in
set_option maxHeartbeats 4000000 in
theorem c_X10_isLetter {h : Nat → AE} {n : Nat} (c : Int32) : AMet tX10_isLetter yX10_isLetter [Cond.code yX10_isLetter cX10_isLetter 1 (some .boolean)] [.int c] h n (PD (.inl (some (.int (bI (isLt c))))) h n) := by
  refine am_of (lo := [_]) (by decide) rfl (fun q => by cases q) rfl rfl rfl ?_
  refine aw_iload_n dX10_isLetter_0 rfl ?_
  refine aw_bipush (v := 97) dX10_isLetter_1 (by decide) ?_
  refine aw_bipush (v := 122) dX10_isLetter_3 (by decide) ?_
  refine ap_callSi ks_X10_39 ko_X10_isBetween (c_X10_isBetween _ _ _) dX10_isLetter_5 rfl rfl (ble' rfl) (by decide) ?_
  refine aw_zret rfl dX10_isLetter_8 (bI_narrow _) (ble' rfl) (ble' rfl) ?_
  exact pd_i rfl

set_option maxRecDepth 100000 in
set_option maxHeartbeats 4000000 in
theorem c_X10_isDigit {h : Nat → AE} {n : Nat} (c : Int32) : AMet tX10_isDigit yX10_isDigit [Cond.code yX10_isDigit cX10_isDigit 1 (some .boolean)] [.int c] h n (PD (.inl (some (.int (bI (isDg c))))) h n) := by
  refine am_of (lo := [_]) (by decide) rfl (fun q => by cases q) rfl rfl rfl ?_
  refine aw_iload_n dX10_isDigit_0 rfl ?_
  refine aw_bipush (v := 48) dX10_isDigit_1 (by decide) ?_
  refine aw_bipush (v := 57) dX10_isDigit_3 (by decide) ?_
  refine ap_callSi ks_X10_39 ko_X10_isBetween (c_X10_isBetween _ _ _) dX10_isDigit_5 rfl rfl (ble' rfl) (by decide) ?_
  refine aw_zret rfl dX10_isDigit_8 (bI_narrow _) (ble' rfl) (ble' rfl) ?_
  exact pd_i rfl
