/-- the reference's camp by the rows of the class: 3.. classes, 7.. sites, 10.. seasons, 16.. bookings, 23.. requests -/
def V (M : Nat → Nat → Int32) (i : Nat) : Nat → Int32 := match i with
  | 3 => fun k => if k < 4 then M 64 (8 + 3 * k + 0) else 0
  | 4 => fun k => if k < 4 then M 64 (8 + 3 * k + 1) else 0
  | 5 => fun k => if k < 4 then M 64 (8 + 3 * k + 2) else 0
  | 7 => fun k => if k < 16 then M 64 (20 + 2 * k + 0) else 0
  | 8 => fun k => if k < 16 then M 64 (20 + 2 * k + 1) else 0
  | 10 => fun k => if k < 12 then M 64 (52 + 5 * k + 0) else 0
  | 11 => fun k => if k < 12 then M 64 (52 + 5 * k + 1) else 0
  | 12 => fun k => if k < 12 then M 64 (52 + 5 * k + 2) else 0
  | 13 => fun k => if k < 12 then M 64 (52 + 5 * k + 3) else 0
  | 14 => fun k => if k < 12 then M 64 (52 + 5 * k + 4) else 0
  | 16 => fun k => if k < 60 then M 64 (112 + 6 * k + 0) else 0
  | 17 => fun k => if k < 60 then M 64 (112 + 6 * k + 1) else 0
  | 18 => fun k => if k < 60 then M 64 (112 + 6 * k + 2) else 0
  | 19 => fun k => if k < 60 then M 64 (112 + 6 * k + 3) else 0
  | 20 => fun k => if k < 60 then M 64 (112 + 6 * k + 4) else 0
  | 21 => fun k => if k < 60 then M 64 (112 + 6 * k + 5) else 0
  | 23 => fun k => if k < 20 then M 64 (472 + 5 * k + 0) else 0
  | 24 => fun k => if k < 20 then M 64 (472 + 5 * k + 1) else 0
  | 25 => fun k => if k < 20 then M 64 (472 + 5 * k + 2) else 0
  | 26 => fun k => if k < 20 then M 64 (472 + 5 * k + 3) else 0
  | 27 => fun k => if k < 20 then M 64 (472 + 5 * k + 4) else 0
  | _ => fun _ => 0
theorem nI_mul (a b : Nat) : nI a * nI b = nI (a * b) := (Int32.ofNat_mul a b).symm
/-- the reference's note of what it throws -/
def thM (M : Nat → Nat → Int32) (c : Int32) : Nat → Nat → Int32 := updM M 63 (upd (M 63) 4 c)
set_option maxRecDepth 100000 in
set_option maxHeartbeats 4000000 in
theorem c_X10_fail {G : AG} {M : Nat → Nat → Int32} {n : Nat} (hn : 72 ≤ n) (c : Int32) : AMet tX10_fail yX10_fail [Cond.code yX10_fail cX10_fail 2 (some .int)] [.ref 63, .int c] (wld G M) n (PD (.inl (some (.int 0))) (wld G (thM M c)) n) := by
  refine am_of (lo := [_, _]) (by decide) rfl (fun q => by cases q) rfl rfl rfl ?_
  refine aw_aload_n dX10_fail_0 rfl ?_
  refine aw_iload_n dX10_fail_1 rfl ?_
  refine aw_put fp_X10_36_m dX10_fail_2 e_63 (l_63 hn) (ble' rfl) (fun _ => ⟨rfl, rfl⟩) (hwf rfl) ?_
  refine aw_iconst (v := 0) dX10_fail_5 (by decide) ?_
  refine aw_iret rfl dX10_fail_6 (ble' rfl) (ble' rfl) ?_
  exact pd_ih rfl rfl

set_option maxRecDepth 100000 in
set_option maxHeartbeats 4000000 in
theorem c_X10_isBetween {h : Nat → AE} {n : Nat} (v a b : Int32) : AMet tX10_isBetween yX10_isBetween [Cond.code yX10_isBetween cX10_isBetween 3 (some .boolean)] [.int v, .int a, .int b] h n (PD (.inl (some (.int (bI (a ≤ v ∧ v ≤ b))))) h n) := by
  refine am_of (lo := [_, _, _]) (by decide) rfl (fun q => by cases q) rfl rfl rfl ?_
  refine aw_iload_n dX10_isBetween_0 rfl ?_
  refine aw_iload_n dX10_isBetween_1 rfl ?_
  refine aw_icmp_lt 14 dX10_isBetween_2 (by decide) (fun c2 => ?_) (fun c2 => ?_)
  · have n2 := Int32.not_le.mpr c2
    refine aw_iconst (v := 0) dX10_isBetween_14 (by decide) ?_
    refine aw_zret rfl dX10_isBetween_15 rfl (ble' rfl) (ble' rfl) ?_
    exact pd_i (by simp [bI, c2, n2])
  · have n2 := Int32.not_lt.mp c2
    refine aw_iload_n dX10_isBetween_5 rfl ?_
    refine aw_iload_n dX10_isBetween_6 rfl ?_
    refine aw_icmp_gt 14 dX10_isBetween_7 (by decide) (fun c7 => ?_) (fun c7 => ?_)
    · have n7 := Int32.not_le.mpr c7
      refine aw_iconst (v := 0) dX10_isBetween_14 (by decide) ?_
      refine aw_zret rfl dX10_isBetween_15 rfl (ble' rfl) (ble' rfl) ?_
      exact pd_i (by simp [bI, c2, n2, c7, n7])
    · have n7 := Int32.not_lt.mp c7
      refine aw_iconst (v := 1) dX10_isBetween_10 (by decide) ?_
      refine aw_goto 15 dX10_isBetween_11 (by decide) ?_
      refine aw_zret rfl dX10_isBetween_15 rfl (ble' rfl) (ble' rfl) ?_
      exact pd_i (by simp [bI, c2, n2, c7, n7])

theorem bI_narrow (b : Prop) [Decidable b] : narrow .boolean (.int (bI b)) = .int (bI b) := by unfold bI; split <;> rfl
set_option maxRecDepth 100000 in
set_option maxHeartbeats 4000000 in
theorem c_X10_isClass {G : AG} {M : Nat → Nat → Int32} {n : Nat} (hn : 72 ≤ n) (c : Int32) : AMet tX10_isClass yX10_isClass [Cond.code yX10_isClass cX10_isClass 2 (some .boolean)] [.ref 63, .int c] (wld G M) n (PD (.inl (some (.int (bI (0 ≤ c ∧ c ≤ M 64 1 - 1))))) (wld G M) n) := by
  refine am_of (lo := [_, _]) (by decide) rfl (fun q => by cases q) rfl rfl rfl ?_
  refine aw_iload_n dX10_isClass_0 rfl ?_
  refine aw_iconst (v := 0) dX10_isClass_1 (by decide) ?_
  refine aw_aload_n dX10_isClass_2 rfl ?_
  refine aw_get fl_X10_7 dX10_isClass_3 e_63 (l_63 hn) rfl ?_
  refine aw_iconst (v := 1) dX10_isClass_6 (by decide) ?_
  refine aw_ialdk dX10_isClass_7 e_64 (l_64 hn) (show (1 : Int32) = nI 1 from rfl) (by decide) rfl ?_
  refine aw_iconst (v := 1) dX10_isClass_8 (by decide) ?_
  refine aw_isub dX10_isClass_9 ?_
  refine ap_callSi ks_X10_39 ko_X10_isBetween (c_X10_isBetween _ _ _) dX10_isClass_10 rfl rfl (ble' rfl) (by decide) ?_
  refine aw_zret rfl dX10_isClass_13 (bI_narrow _) (ble' rfl) (ble' rfl) ?_
  exact pd_i rfl

set_option maxRecDepth 100000 in
set_option maxHeartbeats 4000000 in
theorem c_X10_isSite {G : AG} {M : Nat → Nat → Int32} {n : Nat} (hn : 72 ≤ n) (c : Int32) : AMet tX10_isSite yX10_isSite [Cond.code yX10_isSite cX10_isSite 2 (some .boolean)] [.ref 63, .int c] (wld G M) n (PD (.inl (some (.int (bI (0 ≤ c ∧ c ≤ M 64 2 - 1))))) (wld G M) n) := by
  refine am_of (lo := [_, _]) (by decide) rfl (fun q => by cases q) rfl rfl rfl ?_
  refine aw_iload_n dX10_isSite_0 rfl ?_
  refine aw_iconst (v := 0) dX10_isSite_1 (by decide) ?_
  refine aw_aload_n dX10_isSite_2 rfl ?_
  refine aw_get fl_X10_7 dX10_isSite_3 e_63 (l_63 hn) rfl ?_
  refine aw_iconst (v := 2) dX10_isSite_6 (by decide) ?_
  refine aw_ialdk dX10_isSite_7 e_64 (l_64 hn) (show (2 : Int32) = nI 2 from rfl) (by decide) rfl ?_
  refine aw_iconst (v := 1) dX10_isSite_8 (by decide) ?_
  refine aw_isub dX10_isSite_9 ?_
  refine ap_callSi ks_X10_39 ko_X10_isBetween (c_X10_isBetween _ _ _) dX10_isSite_10 rfl rfl (ble' rfl) (by decide) ?_
  refine aw_zret rfl dX10_isSite_13 (bI_narrow _) (ble' rfl) (ble' rfl) ?_
  exact pd_i rfl

set_option maxRecDepth 100000 in
set_option maxHeartbeats 4000000 in
theorem c_X10_isBooking {G : AG} {M : Nat → Nat → Int32} {n : Nat} (hn : 72 ≤ n) (c : Int32) : AMet tX10_isBooking yX10_isBooking [Cond.code yX10_isBooking cX10_isBooking 2 (some .boolean)] [.ref 63, .int c] (wld G M) n (PD (.inl (some (.int (bI (0 ≤ c ∧ c ≤ M 64 4 - 1))))) (wld G M) n) := by
  refine am_of (lo := [_, _]) (by decide) rfl (fun q => by cases q) rfl rfl rfl ?_
  refine aw_iload_n dX10_isBooking_0 rfl ?_
  refine aw_iconst (v := 0) dX10_isBooking_1 (by decide) ?_
  refine aw_aload_n dX10_isBooking_2 rfl ?_
  refine aw_get fl_X10_7 dX10_isBooking_3 e_63 (l_63 hn) rfl ?_
  refine aw_iconst (v := 4) dX10_isBooking_6 (by decide) ?_
  refine aw_ialdk dX10_isBooking_7 e_64 (l_64 hn) (show (4 : Int32) = nI 4 from rfl) (by decide) rfl ?_
  refine aw_iconst (v := 1) dX10_isBooking_8 (by decide) ?_
  refine aw_isub dX10_isBooking_9 ?_
  refine ap_callSi ks_X10_39 ko_X10_isBetween (c_X10_isBetween _ _ _) dX10_isBooking_10 rfl rfl (ble' rfl) (by decide) ?_
  refine aw_zret rfl dX10_isBooking_13 (bI_narrow _) (ble' rfl) (ble' rfl) ?_
  exact pd_i rfl

set_option maxRecDepth 100000 in
set_option maxHeartbeats 4000000 in
theorem c_X10_isRequest {G : AG} {M : Nat → Nat → Int32} {n : Nat} (hn : 72 ≤ n) (c : Int32) : AMet tX10_isRequest yX10_isRequest [Cond.code yX10_isRequest cX10_isRequest 2 (some .boolean)] [.ref 63, .int c] (wld G M) n (PD (.inl (some (.int (bI (0 ≤ c ∧ c ≤ M 64 5 - 1))))) (wld G M) n) := by
  refine am_of (lo := [_, _]) (by decide) rfl (fun q => by cases q) rfl rfl rfl ?_
  refine aw_iload_n dX10_isRequest_0 rfl ?_
  refine aw_iconst (v := 0) dX10_isRequest_1 (by decide) ?_
  refine aw_aload_n dX10_isRequest_2 rfl ?_
  refine aw_get fl_X10_7 dX10_isRequest_3 e_63 (l_63 hn) rfl ?_
  refine aw_iconst (v := 5) dX10_isRequest_6 (by decide) ?_
  refine aw_ialdk dX10_isRequest_7 e_64 (l_64 hn) (show (5 : Int32) = nI 5 from rfl) (by decide) rfl ?_
  refine aw_iconst (v := 1) dX10_isRequest_8 (by decide) ?_
  refine aw_isub dX10_isRequest_9 ?_
  refine ap_callSi ks_X10_39 ko_X10_isBetween (c_X10_isBetween _ _ _) dX10_isRequest_10 rfl rfl (ble' rfl) (by decide) ?_
  refine aw_zret rfl dX10_isRequest_13 (bI_narrow _) (ble' rfl) (ble' rfl) ?_
  exact pd_i rfl

set_option maxRecDepth 100000 in
set_option maxHeartbeats 4000000 in
theorem c_X10_isDay {h : Nat → AE} {n : Nat} (c : Int32) : AMet tX10_isDay yX10_isDay [Cond.code yX10_isDay cX10_isDay 1 (some .boolean)] [.int c] h n (PD (.inl (some (.int (bI (0 ≤ c ∧ c ≤ 999))))) h n) := by
  refine am_of (lo := [_]) (by decide) rfl (fun q => by cases q) rfl rfl rfl ?_
  refine aw_iload_n dX10_isDay_0 rfl ?_
  refine aw_iconst (v := 0) dX10_isDay_1 (by decide) ?_
  refine aw_sipush (v := 999) dX10_isDay_2 (by decide) ?_
  refine ap_callSi ks_X10_39 ko_X10_isBetween (c_X10_isBetween _ _ _) dX10_isDay_5 rfl rfl (ble' rfl) (by decide) ?_
  refine aw_zret rfl dX10_isDay_8 (bI_narrow _) (ble' rfl) (ble' rfl) ?_
  exact pd_i rfl

set_option maxRecDepth 100000 in
set_option maxHeartbeats 4000000 in
theorem c_X10_isStay {h : Nat → AE} {n : Nat} (c : Int32) : AMet tX10_isStay yX10_isStay [Cond.code yX10_isStay cX10_isStay 1 (some .boolean)] [.int c] h n (PD (.inl (some (.int (bI (1 ≤ c ∧ c ≤ 28))))) h n) := by
  refine am_of (lo := [_]) (by decide) rfl (fun q => by cases q) rfl rfl rfl ?_
  refine aw_iload_n dX10_isStay_0 rfl ?_
  refine aw_iconst (v := 1) dX10_isStay_1 (by decide) ?_
  refine aw_bipush (v := 28) dX10_isStay_2 (by decide) ?_
  refine ap_callSi ks_X10_39 ko_X10_isBetween (c_X10_isBetween _ _ _) dX10_isStay_4 rfl rfl (ble' rfl) (by decide) ?_
  refine aw_zret rfl dX10_isStay_7 (bI_narrow _) (ble' rfl) (ble' rfl) ?_
  exact pd_i rfl

set_option maxRecDepth 100000 in
set_option maxHeartbeats 4000000 in
theorem c_X10_isNight {G : AG} {M : Nat → Nat → Int32} {n : Nat} (hn : 72 ≤ n) (d : Int32) : AMet tX10_isNight yX10_isNight [Cond.code yX10_isNight cX10_isNight 2 (some .boolean)] [.ref 63, .int d] (wld G M) n (PD (.inl (some (.int (bI (M 64 0 ≤ d ∧ d ≤ 998))))) (wld G M) n) := by
  refine am_of (lo := [_, _]) (by decide) rfl (fun q => by cases q) rfl rfl rfl ?_
  refine aw_iload_n dX10_isNight_0 rfl ?_
  refine aw_aload_n dX10_isNight_1 rfl ?_
  refine aw_get fl_X10_7 dX10_isNight_2 e_63 (l_63 hn) rfl ?_
  refine aw_iconst (v := 0) dX10_isNight_5 (by decide) ?_
  refine aw_ialdk dX10_isNight_6 e_64 (l_64 hn) (show (0 : Int32) = nI 0 from rfl) (by decide) rfl ?_
  refine aw_sipush (v := 998) dX10_isNight_7 (by decide) ?_
  refine ap_callSi ks_X10_39 ko_X10_isBetween (c_X10_isBetween _ _ _) dX10_isNight_10 rfl rfl (ble' rfl) (by decide) ?_
  refine aw_zret rfl dX10_isNight_13 (bI_narrow _) (ble' rfl) (ble' rfl) ?_
  exact pd_i rfl

set_option maxRecDepth 100000 in
set_option maxHeartbeats 4000000 in
theorem c_X10_siteClass {G : AG} {M : Nat → Nat → Int32} {n : Nat} (hn : 72 ≤ n) {b f : Int32} {k j : Nat} (hb : b = nI k) (hk : k < 4) (hj : f = nI j) (hj5 : j < 3) : AMet tX10_siteClass yX10_siteClass [Cond.code yX10_siteClass cX10_siteClass 3 (some .int)] [.ref 63, .int b, .int f] (wld G M) n (PD (.inl (some (.int (M 64 (8 + 3 * k + j))))) (wld G M) n) := by
  refine am_of (lo := [_, _, _]) (by decide) rfl (fun q => by cases q) rfl rfl rfl ?_
  refine aw_aload_n dX10_siteClass_0 rfl ?_
  refine aw_get fl_X10_7 dX10_siteClass_1 e_63 (l_63 hn) rfl ?_
  refine aw_bipush (v := 8) dX10_siteClass_4 (by decide) ?_
  refine aw_iconst (v := 3) dX10_siteClass_6 (by decide) ?_
  refine aw_iload_n dX10_siteClass_7 rfl ?_
  refine aw_imul dX10_siteClass_8 ?_
  refine aw_iadd dX10_siteClass_9 ?_
  refine aw_iload_n dX10_siteClass_10 rfl ?_
  refine aw_iadd dX10_siteClass_11 ?_
  refine aw_ialdk dX10_siteClass_12 e_64 (l_64 hn) (k := 8 + 3 * k + j) (by rw [hb, hj, show (8 : Int32) = nI 8 from rfl, show (3 : Int32) = nI 3 from rfl, nI_mul, nI_add, nI_add]) (by omega) rfl ?_
  refine aw_iret rfl dX10_siteClass_13 (ble' rfl) (ble' rfl) ?_
  exact pd_i rfl

theorem c_X10_siteClass_0 {G : AG} {M : Nat → Nat → Int32} {n : Nat} (hn : 72 ≤ n) {b : Int32} {k : Nat} (hb : b = nI k) (hk : k < 4) : AMet tX10_siteClass yX10_siteClass [Cond.code yX10_siteClass cX10_siteClass 3 (some .int)] [.ref 63, .int b, .int 0] (wld G M) n (PD (.inl (some (.int (V M 3 k)))) (wld G M) n) := by
  rw [show V M 3 k = M 64 (8 + 3 * k + 0) from if_pos hk]
  exact c_X10_siteClass hn hb hk (show (0 : Int32) = nI 0 from rfl) (by decide)
theorem c_X10_siteClass_1 {G : AG} {M : Nat → Nat → Int32} {n : Nat} (hn : 72 ≤ n) {b : Int32} {k : Nat} (hb : b = nI k) (hk : k < 4) : AMet tX10_siteClass yX10_siteClass [Cond.code yX10_siteClass cX10_siteClass 3 (some .int)] [.ref 63, .int b, .int 1] (wld G M) n (PD (.inl (some (.int (V M 4 k)))) (wld G M) n) := by
  rw [show V M 4 k = M 64 (8 + 3 * k + 1) from if_pos hk]
  exact c_X10_siteClass hn hb hk (show (1 : Int32) = nI 1 from rfl) (by decide)
theorem c_X10_siteClass_2 {G : AG} {M : Nat → Nat → Int32} {n : Nat} (hn : 72 ≤ n) {b : Int32} {k : Nat} (hb : b = nI k) (hk : k < 4) : AMet tX10_siteClass yX10_siteClass [Cond.code yX10_siteClass cX10_siteClass 3 (some .int)] [.ref 63, .int b, .int 2] (wld G M) n (PD (.inl (some (.int (V M 5 k)))) (wld G M) n) := by
  rw [show V M 5 k = M 64 (8 + 3 * k + 2) from if_pos hk]
  exact c_X10_siteClass hn hb hk (show (2 : Int32) = nI 2 from rfl) (by decide)
set_option maxRecDepth 100000 in
set_option maxHeartbeats 4000000 in
theorem c_X10_site {G : AG} {M : Nat → Nat → Int32} {n : Nat} (hn : 72 ≤ n) {b f : Int32} {k j : Nat} (hb : b = nI k) (hk : k < 16) (hj : f = nI j) (hj5 : j < 2) : AMet tX10_site yX10_site [Cond.code yX10_site cX10_site 3 (some .int)] [.ref 63, .int b, .int f] (wld G M) n (PD (.inl (some (.int (M 64 (20 + 2 * k + j))))) (wld G M) n) := by
  refine am_of (lo := [_, _, _]) (by decide) rfl (fun q => by cases q) rfl rfl rfl ?_
  refine aw_aload_n dX10_site_0 rfl ?_
  refine aw_get fl_X10_7 dX10_site_1 e_63 (l_63 hn) rfl ?_
  refine aw_bipush (v := 20) dX10_site_4 (by decide) ?_
  refine aw_iconst (v := 2) dX10_site_6 (by decide) ?_
  refine aw_iload_n dX10_site_7 rfl ?_
  refine aw_imul dX10_site_8 ?_
  refine aw_iadd dX10_site_9 ?_
  refine aw_iload_n dX10_site_10 rfl ?_
  refine aw_iadd dX10_site_11 ?_
  refine aw_ialdk dX10_site_12 e_64 (l_64 hn) (k := 20 + 2 * k + j) (by rw [hb, hj, show (20 : Int32) = nI 20 from rfl, show (2 : Int32) = nI 2 from rfl, nI_mul, nI_add, nI_add]) (by omega) rfl ?_
  refine aw_iret rfl dX10_site_13 (ble' rfl) (ble' rfl) ?_
  exact pd_i rfl

theorem c_X10_site_0 {G : AG} {M : Nat → Nat → Int32} {n : Nat} (hn : 72 ≤ n) {b : Int32} {k : Nat} (hb : b = nI k) (hk : k < 16) : AMet tX10_site yX10_site [Cond.code yX10_site cX10_site 3 (some .int)] [.ref 63, .int b, .int 0] (wld G M) n (PD (.inl (some (.int (V M 7 k)))) (wld G M) n) := by
  rw [show V M 7 k = M 64 (20 + 2 * k + 0) from if_pos hk]
  exact c_X10_site hn hb hk (show (0 : Int32) = nI 0 from rfl) (by decide)
theorem c_X10_site_1 {G : AG} {M : Nat → Nat → Int32} {n : Nat} (hn : 72 ≤ n) {b : Int32} {k : Nat} (hb : b = nI k) (hk : k < 16) : AMet tX10_site yX10_site [Cond.code yX10_site cX10_site 3 (some .int)] [.ref 63, .int b, .int 1] (wld G M) n (PD (.inl (some (.int (V M 8 k)))) (wld G M) n) := by
  rw [show V M 8 k = M 64 (20 + 2 * k + 1) from if_pos hk]
  exact c_X10_site hn hb hk (show (1 : Int32) = nI 1 from rfl) (by decide)
set_option maxRecDepth 100000 in
set_option maxHeartbeats 4000000 in
theorem c_X10_season {G : AG} {M : Nat → Nat → Int32} {n : Nat} (hn : 72 ≤ n) {b f : Int32} {k j : Nat} (hb : b = nI k) (hk : k < 12) (hj : f = nI j) (hj5 : j < 5) : AMet tX10_season yX10_season [Cond.code yX10_season cX10_season 3 (some .int)] [.ref 63, .int b, .int f] (wld G M) n (PD (.inl (some (.int (M 64 (52 + 5 * k + j))))) (wld G M) n) := by
  refine am_of (lo := [_, _, _]) (by decide) rfl (fun q => by cases q) rfl rfl rfl ?_
  refine aw_aload_n dX10_season_0 rfl ?_
  refine aw_get fl_X10_7 dX10_season_1 e_63 (l_63 hn) rfl ?_
  refine aw_bipush (v := 52) dX10_season_4 (by decide) ?_
  refine aw_iconst (v := 5) dX10_season_6 (by decide) ?_
  refine aw_iload_n dX10_season_7 rfl ?_
  refine aw_imul dX10_season_8 ?_
  refine aw_iadd dX10_season_9 ?_
  refine aw_iload_n dX10_season_10 rfl ?_
  refine aw_iadd dX10_season_11 ?_
  refine aw_ialdk dX10_season_12 e_64 (l_64 hn) (k := 52 + 5 * k + j) (by rw [hb, hj, show (52 : Int32) = nI 52 from rfl, show (5 : Int32) = nI 5 from rfl, nI_mul, nI_add, nI_add]) (by omega) rfl ?_
  refine aw_iret rfl dX10_season_13 (ble' rfl) (ble' rfl) ?_
  exact pd_i rfl

theorem c_X10_season_0 {G : AG} {M : Nat → Nat → Int32} {n : Nat} (hn : 72 ≤ n) {b : Int32} {k : Nat} (hb : b = nI k) (hk : k < 12) : AMet tX10_season yX10_season [Cond.code yX10_season cX10_season 3 (some .int)] [.ref 63, .int b, .int 0] (wld G M) n (PD (.inl (some (.int (V M 10 k)))) (wld G M) n) := by
  rw [show V M 10 k = M 64 (52 + 5 * k + 0) from if_pos hk]
  exact c_X10_season hn hb hk (show (0 : Int32) = nI 0 from rfl) (by decide)
theorem c_X10_season_1 {G : AG} {M : Nat → Nat → Int32} {n : Nat} (hn : 72 ≤ n) {b : Int32} {k : Nat} (hb : b = nI k) (hk : k < 12) : AMet tX10_season yX10_season [Cond.code yX10_season cX10_season 3 (some .int)] [.ref 63, .int b, .int 1] (wld G M) n (PD (.inl (some (.int (V M 11 k)))) (wld G M) n) := by
  rw [show V M 11 k = M 64 (52 + 5 * k + 1) from if_pos hk]
  exact c_X10_season hn hb hk (show (1 : Int32) = nI 1 from rfl) (by decide)
theorem c_X10_season_2 {G : AG} {M : Nat → Nat → Int32} {n : Nat} (hn : 72 ≤ n) {b : Int32} {k : Nat} (hb : b = nI k) (hk : k < 12) : AMet tX10_season yX10_season [Cond.code yX10_season cX10_season 3 (some .int)] [.ref 63, .int b, .int 2] (wld G M) n (PD (.inl (some (.int (V M 12 k)))) (wld G M) n) := by
  rw [show V M 12 k = M 64 (52 + 5 * k + 2) from if_pos hk]
  exact c_X10_season hn hb hk (show (2 : Int32) = nI 2 from rfl) (by decide)
theorem c_X10_season_3 {G : AG} {M : Nat → Nat → Int32} {n : Nat} (hn : 72 ≤ n) {b : Int32} {k : Nat} (hb : b = nI k) (hk : k < 12) : AMet tX10_season yX10_season [Cond.code yX10_season cX10_season 3 (some .int)] [.ref 63, .int b, .int 3] (wld G M) n (PD (.inl (some (.int (V M 13 k)))) (wld G M) n) := by
  rw [show V M 13 k = M 64 (52 + 5 * k + 3) from if_pos hk]
  exact c_X10_season hn hb hk (show (3 : Int32) = nI 3 from rfl) (by decide)
theorem c_X10_season_4 {G : AG} {M : Nat → Nat → Int32} {n : Nat} (hn : 72 ≤ n) {b : Int32} {k : Nat} (hb : b = nI k) (hk : k < 12) : AMet tX10_season yX10_season [Cond.code yX10_season cX10_season 3 (some .int)] [.ref 63, .int b, .int 4] (wld G M) n (PD (.inl (some (.int (V M 14 k)))) (wld G M) n) := by
  rw [show V M 14 k = M 64 (52 + 5 * k + 4) from if_pos hk]
  exact c_X10_season hn hb hk (show (4 : Int32) = nI 4 from rfl) (by decide)
set_option maxRecDepth 100000 in
set_option maxHeartbeats 4000000 in
theorem c_X10_booking {G : AG} {M : Nat → Nat → Int32} {n : Nat} (hn : 72 ≤ n) {b f : Int32} {k j : Nat} (hb : b = nI k) (hk : k < 60) (hj : f = nI j) (hj5 : j < 6) : AMet tX10_booking yX10_booking [Cond.code yX10_booking cX10_booking 3 (some .int)] [.ref 63, .int b, .int f] (wld G M) n (PD (.inl (some (.int (M 64 (112 + 6 * k + j))))) (wld G M) n) := by
  refine am_of (lo := [_, _, _]) (by decide) rfl (fun q => by cases q) rfl rfl rfl ?_
  refine aw_aload_n dX10_booking_0 rfl ?_
  refine aw_get fl_X10_7 dX10_booking_1 e_63 (l_63 hn) rfl ?_
  refine aw_bipush (v := 112) dX10_booking_4 (by decide) ?_
  refine aw_bipush (v := 6) dX10_booking_6 (by decide) ?_
  refine aw_iload_n dX10_booking_8 rfl ?_
  refine aw_imul dX10_booking_9 ?_
  refine aw_iadd dX10_booking_10 ?_
  refine aw_iload_n dX10_booking_11 rfl ?_
  refine aw_iadd dX10_booking_12 ?_
  refine aw_ialdk dX10_booking_13 e_64 (l_64 hn) (k := 112 + 6 * k + j) (by rw [hb, hj, show (112 : Int32) = nI 112 from rfl, show (6 : Int32) = nI 6 from rfl, nI_mul, nI_add, nI_add]) (by omega) rfl ?_
  refine aw_iret rfl dX10_booking_14 (ble' rfl) (ble' rfl) ?_
  exact pd_i rfl

theorem c_X10_booking_0 {G : AG} {M : Nat → Nat → Int32} {n : Nat} (hn : 72 ≤ n) {b : Int32} {k : Nat} (hb : b = nI k) (hk : k < 60) : AMet tX10_booking yX10_booking [Cond.code yX10_booking cX10_booking 3 (some .int)] [.ref 63, .int b, .int 0] (wld G M) n (PD (.inl (some (.int (V M 16 k)))) (wld G M) n) := by
  rw [show V M 16 k = M 64 (112 + 6 * k + 0) from if_pos hk]
  exact c_X10_booking hn hb hk (show (0 : Int32) = nI 0 from rfl) (by decide)
theorem c_X10_booking_1 {G : AG} {M : Nat → Nat → Int32} {n : Nat} (hn : 72 ≤ n) {b : Int32} {k : Nat} (hb : b = nI k) (hk : k < 60) : AMet tX10_booking yX10_booking [Cond.code yX10_booking cX10_booking 3 (some .int)] [.ref 63, .int b, .int 1] (wld G M) n (PD (.inl (some (.int (V M 17 k)))) (wld G M) n) := by
  rw [show V M 17 k = M 64 (112 + 6 * k + 1) from if_pos hk]
  exact c_X10_booking hn hb hk (show (1 : Int32) = nI 1 from rfl) (by decide)
theorem c_X10_booking_2 {G : AG} {M : Nat → Nat → Int32} {n : Nat} (hn : 72 ≤ n) {b : Int32} {k : Nat} (hb : b = nI k) (hk : k < 60) : AMet tX10_booking yX10_booking [Cond.code yX10_booking cX10_booking 3 (some .int)] [.ref 63, .int b, .int 2] (wld G M) n (PD (.inl (some (.int (V M 18 k)))) (wld G M) n) := by
  rw [show V M 18 k = M 64 (112 + 6 * k + 2) from if_pos hk]
  exact c_X10_booking hn hb hk (show (2 : Int32) = nI 2 from rfl) (by decide)
theorem c_X10_booking_3 {G : AG} {M : Nat → Nat → Int32} {n : Nat} (hn : 72 ≤ n) {b : Int32} {k : Nat} (hb : b = nI k) (hk : k < 60) : AMet tX10_booking yX10_booking [Cond.code yX10_booking cX10_booking 3 (some .int)] [.ref 63, .int b, .int 3] (wld G M) n (PD (.inl (some (.int (V M 19 k)))) (wld G M) n) := by
  rw [show V M 19 k = M 64 (112 + 6 * k + 3) from if_pos hk]
  exact c_X10_booking hn hb hk (show (3 : Int32) = nI 3 from rfl) (by decide)
theorem c_X10_booking_4 {G : AG} {M : Nat → Nat → Int32} {n : Nat} (hn : 72 ≤ n) {b : Int32} {k : Nat} (hb : b = nI k) (hk : k < 60) : AMet tX10_booking yX10_booking [Cond.code yX10_booking cX10_booking 3 (some .int)] [.ref 63, .int b, .int 4] (wld G M) n (PD (.inl (some (.int (V M 20 k)))) (wld G M) n) := by
  rw [show V M 20 k = M 64 (112 + 6 * k + 4) from if_pos hk]
  exact c_X10_booking hn hb hk (show (4 : Int32) = nI 4 from rfl) (by decide)
theorem c_X10_booking_5 {G : AG} {M : Nat → Nat → Int32} {n : Nat} (hn : 72 ≤ n) {b : Int32} {k : Nat} (hb : b = nI k) (hk : k < 60) : AMet tX10_booking yX10_booking [Cond.code yX10_booking cX10_booking 3 (some .int)] [.ref 63, .int b, .int 5] (wld G M) n (PD (.inl (some (.int (V M 21 k)))) (wld G M) n) := by
  rw [show V M 21 k = M 64 (112 + 6 * k + 5) from if_pos hk]
  exact c_X10_booking hn hb hk (show (5 : Int32) = nI 5 from rfl) (by decide)
set_option maxRecDepth 100000 in
set_option maxHeartbeats 4000000 in
theorem c_X10_requestField {G : AG} {M : Nat → Nat → Int32} {n : Nat} (hn : 72 ≤ n) {b f : Int32} {k j : Nat} (hb : b = nI k) (hk : k < 20) (hj : f = nI j) (hj5 : j < 5) : AMet tX10_requestField yX10_requestField [Cond.code yX10_requestField cX10_requestField 3 (some .int)] [.ref 63, .int b, .int f] (wld G M) n (PD (.inl (some (.int (M 64 (472 + 5 * k + j))))) (wld G M) n) := by
  refine am_of (lo := [_, _, _]) (by decide) rfl (fun q => by cases q) rfl rfl rfl ?_
  refine aw_aload_n dX10_requestField_0 rfl ?_
  refine aw_get fl_X10_7 dX10_requestField_1 e_63 (l_63 hn) rfl ?_
  refine aw_sipush (v := 472) dX10_requestField_4 (by decide) ?_
  refine aw_iconst (v := 5) dX10_requestField_7 (by decide) ?_
  refine aw_iload_n dX10_requestField_8 rfl ?_
  refine aw_imul dX10_requestField_9 ?_
  refine aw_iadd dX10_requestField_10 ?_
  refine aw_iload_n dX10_requestField_11 rfl ?_
  refine aw_iadd dX10_requestField_12 ?_
  refine aw_ialdk dX10_requestField_13 e_64 (l_64 hn) (k := 472 + 5 * k + j) (by rw [hb, hj, show (472 : Int32) = nI 472 from rfl, show (5 : Int32) = nI 5 from rfl, nI_mul, nI_add, nI_add]) (by omega) rfl ?_
  refine aw_iret rfl dX10_requestField_14 (ble' rfl) (ble' rfl) ?_
  exact pd_i rfl

theorem c_X10_requestField_0 {G : AG} {M : Nat → Nat → Int32} {n : Nat} (hn : 72 ≤ n) {b : Int32} {k : Nat} (hb : b = nI k) (hk : k < 20) : AMet tX10_requestField yX10_requestField [Cond.code yX10_requestField cX10_requestField 3 (some .int)] [.ref 63, .int b, .int 0] (wld G M) n (PD (.inl (some (.int (V M 23 k)))) (wld G M) n) := by
  rw [show V M 23 k = M 64 (472 + 5 * k + 0) from if_pos hk]
  exact c_X10_requestField hn hb hk (show (0 : Int32) = nI 0 from rfl) (by decide)
theorem c_X10_requestField_1 {G : AG} {M : Nat → Nat → Int32} {n : Nat} (hn : 72 ≤ n) {b : Int32} {k : Nat} (hb : b = nI k) (hk : k < 20) : AMet tX10_requestField yX10_requestField [Cond.code yX10_requestField cX10_requestField 3 (some .int)] [.ref 63, .int b, .int 1] (wld G M) n (PD (.inl (some (.int (V M 24 k)))) (wld G M) n) := by
  rw [show V M 24 k = M 64 (472 + 5 * k + 1) from if_pos hk]
  exact c_X10_requestField hn hb hk (show (1 : Int32) = nI 1 from rfl) (by decide)
theorem c_X10_requestField_2 {G : AG} {M : Nat → Nat → Int32} {n : Nat} (hn : 72 ≤ n) {b : Int32} {k : Nat} (hb : b = nI k) (hk : k < 20) : AMet tX10_requestField yX10_requestField [Cond.code yX10_requestField cX10_requestField 3 (some .int)] [.ref 63, .int b, .int 2] (wld G M) n (PD (.inl (some (.int (V M 25 k)))) (wld G M) n) := by
  rw [show V M 25 k = M 64 (472 + 5 * k + 2) from if_pos hk]
  exact c_X10_requestField hn hb hk (show (2 : Int32) = nI 2 from rfl) (by decide)
theorem c_X10_requestField_3 {G : AG} {M : Nat → Nat → Int32} {n : Nat} (hn : 72 ≤ n) {b : Int32} {k : Nat} (hb : b = nI k) (hk : k < 20) : AMet tX10_requestField yX10_requestField [Cond.code yX10_requestField cX10_requestField 3 (some .int)] [.ref 63, .int b, .int 3] (wld G M) n (PD (.inl (some (.int (V M 26 k)))) (wld G M) n) := by
  rw [show V M 26 k = M 64 (472 + 5 * k + 3) from if_pos hk]
  exact c_X10_requestField hn hb hk (show (3 : Int32) = nI 3 from rfl) (by decide)
theorem c_X10_requestField_4 {G : AG} {M : Nat → Nat → Int32} {n : Nat} (hn : 72 ≤ n) {b : Int32} {k : Nat} (hb : b = nI k) (hk : k < 20) : AMet tX10_requestField yX10_requestField [Cond.code yX10_requestField cX10_requestField 3 (some .int)] [.ref 63, .int b, .int 4] (wld G M) n (PD (.inl (some (.int (V M 27 k)))) (wld G M) n) := by
  rw [show V M 27 k = M 64 (472 + 5 * k + 4) from if_pos hk]
  exact c_X10_requestField hn hb hk (show (4 : Int32) = nI 4 from rfl) (by decide)
set_option maxRecDepth 100000 in
set_option maxHeartbeats 4000000 in
theorem c_X10_isOpenOn {G : AG} {M : Nat → Nat → Int32} {n : Nat} (hn : 72 ≤ n) {b d : Int32} {k : Nat} (hb : b = nI k) (hk : k < 16) : AMet tX10_isOpenOn yX10_isOpenOn [Cond.code yX10_isOpenOn cX10_isOpenOn 3 (some .boolean)] [.ref 63, .int b, .int d] (wld G M) n (PD (.inl (some (.int (bI (V M 8 k ≤ d))))) (wld G M) n) := by
  refine am_of (lo := [_, _, _]) (by decide) rfl (fun q => by cases q) rfl rfl rfl ?_
  refine aw_aload_n dX10_isOpenOn_0 rfl ?_
  refine aw_iload_n dX10_isOpenOn_1 rfl ?_
  refine aw_iconst (v := 1) dX10_isOpenOn_2 (by decide) ?_
  refine ap_callVi kv_X10_68 ko_X10_site (c_X10_site_1 hn hb hk) dX10_isOpenOn_3 e_63 (l_63 hn) rfl rfl rfl rfl (ble' rfl) (by decide) ?_
  refine aw_iload_n dX10_isOpenOn_6 rfl ?_
  refine aw_icmp_gt 14 dX10_isOpenOn_7 (by decide) (fun c7 => ?_) (fun c7 => ?_)
  · have n7 := Int32.not_le.mpr c7
    refine aw_iconst (v := 0) dX10_isOpenOn_14 (by decide) ?_
    refine aw_zret rfl dX10_isOpenOn_15 rfl (ble' rfl) (ble' rfl) ?_
    exact pd_i (by simp [bI, c7, n7])
  · have n7 := Int32.not_lt.mp c7
    refine aw_iconst (v := 1) dX10_isOpenOn_10 (by decide) ?_
    refine aw_goto 15 dX10_isOpenOn_11 (by decide) ?_
    refine aw_zret rfl dX10_isOpenOn_15 rfl (ble' rfl) (ble' rfl) ?_
    exact pd_i (by simp [bI, c7, n7])

set_option maxRecDepth 100000 in
set_option maxHeartbeats 4000000 in
theorem c_X10_isActive {G : AG} {M : Nat → Nat → Int32} {n : Nat} (hn : 72 ≤ n) {b : Int32} {k : Nat} (hb : b = nI k) (hk : k < 60) : AMet tX10_isActive yX10_isActive [Cond.code yX10_isActive cX10_isActive 2 (some .boolean)] [.ref 63, .int b] (wld G M) n (PD (.inl (some (.int (bI (actP (V M 20 k)))))) (wld G M) n) := by
  refine am_of (lo := [_, _]) (by decide) rfl (fun q => by cases q) rfl rfl rfl ?_
  refine aw_aload_n dX10_isActive_0 rfl ?_
  refine aw_iload_n dX10_isActive_1 rfl ?_
  refine aw_iconst (v := 4) dX10_isActive_2 (by decide) ?_
  refine ap_callVi kv_X10_102 ko_X10_booking (c_X10_booking_4 hn hb hk) dX10_isActive_3 e_63 (l_63 hn) rfl rfl rfl rfl (ble' rfl) (by decide) ?_
  refine aw_if_eq 19 dX10_isActive_6 (by decide) (fun c6 => ?_) (fun c6 => ?_)
  · refine aw_iconst (v := 1) dX10_isActive_19 (by decide) ?_
    refine aw_goto 24 dX10_isActive_20 (by decide) ?_
    refine aw_zret rfl dX10_isActive_24 rfl (ble' rfl) (ble' rfl) ?_
    exact pd_i (by simp [bI, c6])
  · refine aw_aload_n dX10_isActive_9 rfl ?_
    refine aw_iload_n dX10_isActive_10 rfl ?_
    refine aw_iconst (v := 4) dX10_isActive_11 (by decide) ?_
    refine ap_callVi kv_X10_102 ko_X10_booking (c_X10_booking_4 hn hb hk) dX10_isActive_12 e_63 (l_63 hn) rfl rfl rfl rfl (ble' rfl) (by decide) ?_
    refine aw_iconst (v := 1) dX10_isActive_15 (by decide) ?_
    refine aw_icmp_ne 23 dX10_isActive_16 (by decide) (fun c16 => ?_) (fun c16 => ?_)
    · refine aw_iconst (v := 0) dX10_isActive_23 (by decide) ?_
      refine aw_zret rfl dX10_isActive_24 rfl (ble' rfl) (ble' rfl) ?_
      exact pd_i (by simp [bI, c6, c16])
    · refine aw_iconst (v := 1) dX10_isActive_19 (by decide) ?_
      refine aw_goto 24 dX10_isActive_20 (by decide) ?_
      refine aw_zret rfl dX10_isActive_24 rfl (ble' rfl) (ble' rfl) ?_
      exact pd_i (by simp [bI, c6, c16])

set_option maxRecDepth 100000 in
set_option maxHeartbeats 4000000 in
theorem lp_X10_seasonOf {G : AG} {M : Nat → Nat → Int32} {n : Nat} (hn : 72 ≤ n) {nz : Nat} (hz : M 64 3 = nI nz) (hzl : nz ≤ 12) (c d : Int32) : ∀ (j : Nat) (k : Nat) (x3 x4 : Int32), nz - k < j → k ≤ nz → x4 = nI k → x3 = (seasN (V M 10) (V M 11) (V M 12) c d k) →  AW tX10_seasonOf (AQm tX10_seasonOf (PD (.inl (some (.int (seasN (V M 10) (V M 11) (V M 12) c d nz)))) (wld G M) n)) C0 5 [some (.ref 63), some (.int c), some (.int d), some (.int x3), some (.int x4), none] [] (wld G M) n 0 0 := by
  intro j
  induction j with
  | zero => intro k x3 x4 h0 hk h4 h3; omega
  | succ j ih =>
    intro k x3 x4 h0 hk h4 h3
    refine aw_iload dX10_seasonOf_5 rfl ?_
    refine aw_aload_n dX10_seasonOf_7 rfl ?_
    refine aw_get fl_X10_7 dX10_seasonOf_8 e_63 (l_63 hn) rfl ?_
    refine aw_iconst (v := 3) dX10_seasonOf_11 (by decide) ?_
    refine aw_ialdk dX10_seasonOf_12 e_64 (l_64 hn) (show (3 : Int32) = nI 3 from rfl) (by decide) rfl ?_
    refine aw_icmp_ge 73 dX10_seasonOf_13 (by decide) (fun c13 => ?_) (fun c13 => ?_)
    · have n13 := Int32.not_lt.mpr c13
      refine aw_iload_n dX10_seasonOf_73 rfl ?_
      refine aw_iret rfl dX10_seasonOf_74 (ble' rfl) (ble' rfl) ?_
      have hke : k = nz := Nat.le_antisymm hk (le_of_le hz h4 (by omega) (by omega) c13)
      exact pd_i (by rw [h3, hke])
    · have n13 := Int32.not_le.mp c13
      have hlt : k < nz := lt_of_nle hz h4 (by omega) (by omega) c13
      refine aw_aload_n dX10_seasonOf_16 rfl ?_
      refine aw_iload dX10_seasonOf_17 rfl ?_
      refine aw_iconst (v := 0) dX10_seasonOf_19 (by decide) ?_
      refine ap_callVi kv_X10_72 ko_X10_season (c_X10_season_0 hn h4 (by omega)) dX10_seasonOf_20 e_63 (l_63 hn) rfl rfl rfl rfl (ble' rfl) (by decide) ?_
      refine aw_iload_n dX10_seasonOf_23 rfl ?_
      refine aw_icmp_ne 52 dX10_seasonOf_24 (by decide) (fun c24 => ?_) (fun c24 => ?_)
      · refine aw_iconst (v := 0) dX10_seasonOf_52 (by decide) ?_
        refine aw_istore (lo' := [_, _, _, _, _, some (.int _)]) dX10_seasonOf_53 (by decide) rfl ?_
        refine aw_iload dX10_seasonOf_55 rfl ?_
        refine aw_if_eq 65 dX10_seasonOf_57 (by decide) (fun _ => ?_) (fun q => absurd q (by decide))
        refine aw_iload_n dX10_seasonOf_65 rfl ?_
        refine aw_istore_n (lo' := [_, _, _, some (.int _), _, _]) dX10_seasonOf_66 (by decide) rfl ?_
        refine aw_iinc (lo' := [_, _, _, _, some (.int _), _]) dX10_seasonOf_67 rfl (by decide) rfl ?_
        refine aw_goto 5 dX10_seasonOf_70 (by decide) ?_
        refine aw_lo2 (lo' := [some (.ref 63), some (.int c), some (.int d), some (.int _), some (.int _), none]) ⟨rfl, rfl, rfl, rfl, rfl, trivial⟩ ?_
        exact ih (k + 1) _ _ (by omega) (by omega) (by rw [h4]; exact inc1 k) (by rw [h3, seasN, if_neg (fun q => c24 q.1)])
      · refine aw_iload_n dX10_seasonOf_27 rfl ?_
        refine aw_aload_n dX10_seasonOf_28 rfl ?_
        refine aw_iload dX10_seasonOf_29 rfl ?_
        refine aw_iconst (v := 1) dX10_seasonOf_31 (by decide) ?_
        refine ap_callVi kv_X10_72 ko_X10_season (c_X10_season_1 hn h4 (by omega)) dX10_seasonOf_32 e_63 (l_63 hn) rfl rfl rfl rfl (ble' rfl) (by decide) ?_
        refine aw_aload_n dX10_seasonOf_35 rfl ?_
        refine aw_iload dX10_seasonOf_36 rfl ?_
        refine aw_iconst (v := 2) dX10_seasonOf_38 (by decide) ?_
        refine ap_callVi kv_X10_72 ko_X10_season (c_X10_season_2 hn h4 (by omega)) dX10_seasonOf_39 e_63 (l_63 hn) rfl rfl rfl rfl (ble' rfl) (by decide) ?_
        refine ap_callSi ks_X10_39 ko_X10_isBetween (c_X10_isBetween _ _ _) dX10_seasonOf_42 rfl rfl (ble' rfl) (by decide) ?_
        refine aw_if_eq 52 dX10_seasonOf_45 (by decide) (fun c45 => ?_) (fun c45 => ?_)
        · have n45 := bI_z.mp c45
          refine aw_iconst (v := 0) dX10_seasonOf_52 (by decide) ?_
          refine aw_istore (lo' := [_, _, _, _, _, some (.int _)]) dX10_seasonOf_53 (by decide) rfl ?_
          refine aw_iload dX10_seasonOf_55 rfl ?_
          refine aw_if_eq 65 dX10_seasonOf_57 (by decide) (fun _ => ?_) (fun q => absurd q (by decide))
          refine aw_iload_n dX10_seasonOf_65 rfl ?_
          refine aw_istore_n (lo' := [_, _, _, some (.int _), _, _]) dX10_seasonOf_66 (by decide) rfl ?_
          refine aw_iinc (lo' := [_, _, _, _, some (.int _), _]) dX10_seasonOf_67 rfl (by decide) rfl ?_
          refine aw_goto 5 dX10_seasonOf_70 (by decide) ?_
          refine aw_lo2 (lo' := [some (.ref 63), some (.int c), some (.int d), some (.int _), some (.int _), none]) ⟨rfl, rfl, rfl, rfl, rfl, trivial⟩ ?_
          exact ih (k + 1) _ _ (by omega) (by omega) (by rw [h4]; exact inc1 k) (by rw [h3, seasN, if_neg (fun q => n45 ⟨q.2.1, q.2.2⟩)])
        · have n45 := bI_nz.mp c45
          refine aw_iconst (v := 1) dX10_seasonOf_48 (by decide) ?_
          refine aw_goto 53 dX10_seasonOf_49 (by decide) ?_
          refine aw_istore (lo' := [_, _, _, _, _, some (.int _)]) dX10_seasonOf_53 (by decide) rfl ?_
          refine aw_iload dX10_seasonOf_55 rfl ?_
          refine aw_if_eq 65 dX10_seasonOf_57 (by decide) (fun q => absurd q (by decide)) (fun _ => ?_)
          refine aw_iload dX10_seasonOf_60 rfl ?_
          refine aw_goto 66 dX10_seasonOf_62 (by decide) ?_
          refine aw_istore_n (lo' := [_, _, _, some (.int _), _, _]) dX10_seasonOf_66 (by decide) rfl ?_
          refine aw_iinc (lo' := [_, _, _, _, some (.int _), _]) dX10_seasonOf_67 rfl (by decide) rfl ?_
          refine aw_goto 5 dX10_seasonOf_70 (by decide) ?_
          refine aw_lo2 (lo' := [some (.ref 63), some (.int c), some (.int d), some (.int _), some (.int _), none]) ⟨rfl, rfl, rfl, rfl, rfl, trivial⟩ ?_
          exact ih (k + 1) _ _ (by omega) (by omega) (by rw [h4]; exact inc1 k) (by rw [h4, seasN, if_pos ⟨c24, n45.1, n45.2⟩])

set_option maxRecDepth 100000 in
set_option maxHeartbeats 4000000 in
theorem c_X10_seasonOf {G : AG} {M : Nat → Nat → Int32} {n : Nat} (hn : 72 ≤ n) {nz : Nat} (hz : M 64 3 = nI nz) (hzl : nz ≤ 12) (c d : Int32) : AMet tX10_seasonOf yX10_seasonOf [Cond.code yX10_seasonOf cX10_seasonOf 6 (some .int)] [.ref 63, .int c, .int d] (wld G M) n (PD (.inl (some (.int (seasN (V M 10) (V M 11) (V M 12) c d nz)))) (wld G M) n) := by
  refine am_of (lo := [_, _, _, _, _, _]) (by decide) rfl (fun q => by cases q) rfl rfl rfl ?_
  refine aw_iconst (v := -1) dX10_seasonOf_0 (by decide) ?_
  refine aw_istore_n (lo' := [_, _, _, some (.int _), _, _]) dX10_seasonOf_1 (by decide) rfl ?_
  refine aw_iconst (v := 0) dX10_seasonOf_2 (by decide) ?_
  refine aw_istore (lo' := [_, _, _, _, some (.int _), _]) dX10_seasonOf_3 (by decide) rfl ?_
  exact lp_X10_seasonOf hn hz hzl c d (nz + 1) 0 _ _ (by omega) (by omega) rfl rfl

set_option maxRecDepth 100000 in
set_option maxHeartbeats 4000000 in
theorem c_X10_minimumOf {G : AG} {M : Nat → Nat → Int32} {n : Nat} (hn : 72 ≤ n) {nz : Nat} (hz : M 64 3 = nI nz) (hzl : nz ≤ 12) (c d : Int32) : AMet tX10_minimumOf yX10_minimumOf [Cond.code yX10_minimumOf cX10_minimumOf 4 (some .int)] [.ref 63, .int c, .int d] (wld G M) n (PD (.inl (some (.int (sval (seasN (V M 10) (V M 11) (V M 12) c d nz) (V M 13) 1)))) (wld G M) n) := by
  refine am_of (lo := [_, _, _, _]) (by decide) rfl (fun q => by cases q) rfl rfl rfl ?_
  refine aw_aload_n dX10_minimumOf_0 rfl ?_
  refine aw_iload_n dX10_minimumOf_1 rfl ?_
  refine aw_iload_n dX10_minimumOf_2 rfl ?_
  refine ap_callVi kv_X10_75 ko_X10_seasonOf (c_X10_seasonOf hn hz hzl c d) dX10_minimumOf_3 e_63 (l_63 hn) rfl rfl rfl rfl (ble' rfl) (by decide) ?_
  refine aw_istore_n (lo' := [_, _, _, some (.int _)]) dX10_minimumOf_6 (by decide) rfl ?_
  refine aw_iload_n dX10_minimumOf_7 rfl ?_
  refine aw_iconst (v := -1) dX10_minimumOf_8 (by decide) ?_
  refine aw_icmp_ne 16 dX10_minimumOf_9 (by decide) (fun c9 => ?_) (fun c9 => ?_)
  · obtain ⟨k, hk, hs⟩ : ∃ k, k < nz ∧ (seasN (V M 10) (V M 11) (V M 12) c d nz) = nI k := (seas_in _ _ _ _ _ _).resolve_left c9
    refine aw_aload_n dX10_minimumOf_16 rfl ?_
    refine aw_iload_n dX10_minimumOf_17 rfl ?_
    refine aw_iconst (v := 3) dX10_minimumOf_18 (by decide) ?_
    refine ap_callVi kv_X10_72 ko_X10_season (c_X10_season_3 hn hs (by omega)) dX10_minimumOf_19 e_63 (l_63 hn) rfl rfl rfl rfl (ble' rfl) (by decide) ?_
    refine aw_iret rfl dX10_minimumOf_22 (ble' rfl) (ble' rfl) ?_
    exact pd_i (by rw [sval, if_neg c9, cl_of hs (by omega)])
  · refine aw_iconst (v := 1) dX10_minimumOf_12 (by decide) ?_
    refine aw_goto 22 dX10_minimumOf_13 (by decide) ?_
    refine aw_iret rfl dX10_minimumOf_22 (ble' rfl) (ble' rfl) ?_
    exact pd_i (by rw [sval, if_pos c9])

set_option maxRecDepth 100000 in
set_option maxHeartbeats 4000000 in
theorem c_X10_priceOf {G : AG} {M : Nat → Nat → Int32} {n : Nat} (hn : 72 ≤ n) {nz : Nat} (hz : M 64 3 = nI nz) (hzl : nz ≤ 12) (c d : Int32) : AMet tX10_priceOf yX10_priceOf [Cond.code yX10_priceOf cX10_priceOf 4 (some .int)] [.ref 63, .int c, .int d] (wld G M) n (PD (.inl (some (.int (sval (seasN (V M 10) (V M 11) (V M 12) c d nz) (V M 14) 20)))) (wld G M) n) := by
  refine am_of (lo := [_, _, _, _]) (by decide) rfl (fun q => by cases q) rfl rfl rfl ?_
  refine aw_aload_n dX10_priceOf_0 rfl ?_
  refine aw_iload_n dX10_priceOf_1 rfl ?_
  refine aw_iload_n dX10_priceOf_2 rfl ?_
  refine ap_callVi kv_X10_75 ko_X10_seasonOf (c_X10_seasonOf hn hz hzl c d) dX10_priceOf_3 e_63 (l_63 hn) rfl rfl rfl rfl (ble' rfl) (by decide) ?_
  refine aw_istore_n (lo' := [_, _, _, some (.int _)]) dX10_priceOf_6 (by decide) rfl ?_
  refine aw_iload_n dX10_priceOf_7 rfl ?_
  refine aw_iconst (v := -1) dX10_priceOf_8 (by decide) ?_
  refine aw_icmp_ne 17 dX10_priceOf_9 (by decide) (fun c9 => ?_) (fun c9 => ?_)
  · obtain ⟨k, hk, hs⟩ : ∃ k, k < nz ∧ (seasN (V M 10) (V M 11) (V M 12) c d nz) = nI k := (seas_in _ _ _ _ _ _).resolve_left c9
    refine aw_aload_n dX10_priceOf_17 rfl ?_
    refine aw_iload_n dX10_priceOf_18 rfl ?_
    refine aw_iconst (v := 4) dX10_priceOf_19 (by decide) ?_
    refine ap_callVi kv_X10_72 ko_X10_season (c_X10_season_4 hn hs (by omega)) dX10_priceOf_20 e_63 (l_63 hn) rfl rfl rfl rfl (ble' rfl) (by decide) ?_
    refine aw_iret rfl dX10_priceOf_23 (ble' rfl) (ble' rfl) ?_
    exact pd_i (by rw [sval, if_neg c9, cl_of hs (by omega)])
  · refine aw_bipush (v := 20) dX10_priceOf_12 (by decide) ?_
    refine aw_goto 23 dX10_priceOf_14 (by decide) ?_
    refine aw_iret rfl dX10_priceOf_23 (ble' rfl) (ble' rfl) ?_
    exact pd_i (by rw [sval, if_pos c9])

set_option maxRecDepth 100000 in
set_option maxHeartbeats 4000000 in
theorem lp_X10_pricesOf {G : AG} {M : Nat → Nat → Int32} {n : Nat} (hn : 72 ≤ n) {nz : Nat} (hz : M 64 3 = nI nz) (hzl : nz ≤ 12) (c : Int32) {a b : Nat} (ha : a ≤ 5000) (hb : b ≤ 5000) {x3 : Int32} (he : x3 = nI b) (x2 : Int32) : ∀ (j : Nat) (i : Nat) (x4 x5 : Int32), b - (a + i) < j → i ≤ b - a → x5 = nI (a + i) → x4 = psum (fun d => sval (seasN (V M 10) (V M 11) (V M 12) c d nz) (V M 14) 20) a i →  AW tX10_pricesOf (AQm tX10_pricesOf (PD (.inl (some (.int (psum (fun d => sval (seasN (V M 10) (V M 11) (V M 12) c d nz) (V M 14) 20) a (b - a))))) (wld G M) n)) C0 6 [some (.ref 63), some (.int c), some (.int x2), some (.int x3), some (.int x4), some (.int x5)] [] (wld G M) n 0 0 := by
  intro j
  induction j with
  | zero => intro i x4 x5 h1 hk h5 h4; omega
  | succ j ih =>
    intro i x4 x5 h1 hk h5 h4
    refine aw_iload dX10_pricesOf_6 rfl ?_
    refine aw_iload_n dX10_pricesOf_8 rfl ?_
    refine aw_icmp_ge 30 dX10_pricesOf_9 (by decide) (fun c9 => ?_) (fun c9 => ?_)
    · have n9 := Int32.not_lt.mpr c9
      refine aw_iload dX10_pricesOf_30 rfl ?_
      refine aw_iret rfl dX10_pricesOf_32 (ble' rfl) (ble' rfl) ?_
      have hle2 : b ≤ a + i := le_of_le he h5 (by omega) (by omega) c9
      have hei : i = b - a := by omega
      exact pd_i (by rw [h4, hei])
    · have n9 := Int32.not_le.mp c9
      have hlt : a + i < b := lt_of_nle he h5 (by omega) (by omega) c9
      refine aw_iload dX10_pricesOf_12 rfl ?_
      refine aw_aload_n dX10_pricesOf_14 rfl ?_
      refine aw_iload_n dX10_pricesOf_15 rfl ?_
      refine aw_iload dX10_pricesOf_16 rfl ?_
      refine ap_callVi kv_X10_78 ko_X10_priceOf (c_X10_priceOf hn hz hzl c _) dX10_pricesOf_18 e_63 (l_63 hn) rfl rfl rfl rfl (ble' rfl) (by decide) ?_
      refine aw_iadd dX10_pricesOf_21 ?_
      refine aw_istore (lo' := [_, _, _, _, some (.int _), _]) dX10_pricesOf_22 (by decide) rfl ?_
      refine aw_iinc (lo' := [_, _, _, _, _, some (.int _)]) dX10_pricesOf_24 rfl (by decide) rfl ?_
      refine aw_goto 6 dX10_pricesOf_27 (by decide) ?_
      exact ih (i + 1) _ _ (by omega) (by omega) (by rw [h5]; exact inc1 (a + i)) (by rw [h4, h5]; rfl)

set_option maxRecDepth 100000 in
set_option maxHeartbeats 4000000 in
theorem c_X10_pricesOf {G : AG} {M : Nat → Nat → Int32} {n : Nat} (hn : 72 ≤ n) {nz : Nat} (hz : M 64 3 = nI nz) (hzl : nz ≤ 12) (c : Int32) {a b : Nat} (ha : a ≤ 5000) (hb : b ≤ 5000) {x2 x3 : Int32} (hs : x2 = nI a) (he : x3 = nI b) : AMet tX10_pricesOf yX10_pricesOf [Cond.code yX10_pricesOf cX10_pricesOf 6 (some .int)] [.ref 63, .int c, .int x2, .int x3] (wld G M) n (PD (.inl (some (.int (psum (fun d => sval (seasN (V M 10) (V M 11) (V M 12) c d nz) (V M 14) 20) a (b - a))))) (wld G M) n) := by
  refine am_of (lo := [_, _, _, _, _, _]) (by decide) rfl (fun q => by cases q) rfl rfl rfl ?_
  refine aw_iconst (v := 0) dX10_pricesOf_0 (by decide) ?_
  refine aw_istore (lo' := [_, _, _, _, some (.int _), _]) dX10_pricesOf_1 (by decide) rfl ?_
  refine aw_iload_n dX10_pricesOf_3 rfl ?_
  refine aw_istore (lo' := [_, _, _, _, _, some (.int _)]) dX10_pricesOf_4 (by decide) rfl ?_
  exact lp_X10_pricesOf hn hz hzl c ha hb he x2 (b + 1) 0 _ _ (by omega) (by omega) (by rw [hs]; rfl) rfl

set_option maxRecDepth 100000 in
set_option maxHeartbeats 4000000 in
theorem lp_X10_capacityOf {G : AG} {M : Nat → Nat → Int32} {n : Nat} (hn : 72 ≤ n) {ns : Nat} (hs : M 64 2 = nI ns) (hsl : ns ≤ 16) (c d : Int32) : ∀ (j : Nat) (k : Nat) (x3 x4 : Int32), ns - k < j → k ≤ ns → x4 = nI k → x3 = nI (cnt (opB (V M 7) (V M 8) c d) k) →  AW tX10_capacityOf (AQm tX10_capacityOf (PD (.inl (some (.int (if M 64 0 ≤ d ∧ d ≤ 998 then nI (cnt (opB (V M 7) (V M 8) c d) ns) else 0)))) (wld G M) n)) C0 5 [some (.ref 63), some (.int c), some (.int d), some (.int x3), some (.int x4)] [] (wld G M) n 0 0 := by
  intro j
  induction j with
  | zero => intro k x3 x4 h0 hk h4 h3; omega
  | succ j ih =>
    intro k x3 x4 h0 hk h4 h3
    refine aw_iload dX10_capacityOf_5 rfl ?_
    refine aw_aload_n dX10_capacityOf_7 rfl ?_
    refine aw_get fl_X10_7 dX10_capacityOf_8 e_63 (l_63 hn) rfl ?_
    refine aw_iconst (v := 2) dX10_capacityOf_11 (by decide) ?_
    refine aw_ialdk dX10_capacityOf_12 e_64 (l_64 hn) (show (2 : Int32) = nI 2 from rfl) (by decide) rfl ?_
    refine aw_icmp_ge 51 dX10_capacityOf_13 (by decide) (fun c13 => ?_) (fun c13 => ?_)
    · have n13 := Int32.not_lt.mpr c13
      refine aw_aload_n dX10_capacityOf_51 rfl ?_
      refine aw_iload_n dX10_capacityOf_52 rfl ?_
      refine ap_callVi kv_X10_88 ko_X10_isNight (c_X10_isNight hn _) dX10_capacityOf_53 e_63 (l_63 hn) rfl rfl rfl rfl (ble' rfl) (by decide) ?_
      refine aw_if_eq 63 dX10_capacityOf_56 (by decide) (fun c56 => ?_) (fun c56 => ?_)
      · have n56 := bI_z.mp c56
        refine aw_iconst (v := 0) dX10_capacityOf_63 (by decide) ?_
        refine aw_iret rfl dX10_capacityOf_64 (ble' rfl) (ble' rfl) ?_
        have hke : k = ns := Nat.le_antisymm hk (le_of_le hs h4 (by omega) (by omega) c13)
        exact pd_i (by rw [if_neg n56])
      · have n56 := bI_nz.mp c56
        refine aw_iload_n dX10_capacityOf_59 rfl ?_
        refine aw_goto 64 dX10_capacityOf_60 (by decide) ?_
        refine aw_iret rfl dX10_capacityOf_64 (ble' rfl) (ble' rfl) ?_
        have hke : k = ns := Nat.le_antisymm hk (le_of_le hs h4 (by omega) (by omega) c13)
        exact pd_i (by rw [h3, hke, if_pos n56])
    · have n13 := Int32.not_le.mp c13
      have hlt : k < ns := lt_of_nle hs h4 (by omega) (by omega) c13
      refine aw_iload_n dX10_capacityOf_16 rfl ?_
      refine aw_aload_n dX10_capacityOf_17 rfl ?_
      refine aw_iload dX10_capacityOf_18 rfl ?_
      refine aw_iconst (v := 0) dX10_capacityOf_20 (by decide) ?_
      refine ap_callVi kv_X10_68 ko_X10_site (c_X10_site_0 hn h4 (by omega)) dX10_capacityOf_21 e_63 (l_63 hn) rfl rfl rfl rfl (ble' rfl) (by decide) ?_
      refine aw_iload_n dX10_capacityOf_24 rfl ?_
      refine aw_icmp_ne 42 dX10_capacityOf_25 (by decide) (fun c25 => ?_) (fun c25 => ?_)
      · refine aw_iconst (v := 0) dX10_capacityOf_42 (by decide) ?_
        refine aw_iadd dX10_capacityOf_43 ?_
        refine aw_istore_n (lo' := [_, _, _, some (.int _), _]) dX10_capacityOf_44 (by decide) rfl ?_
        refine aw_iinc (lo' := [_, _, _, _, some (.int _)]) dX10_capacityOf_45 rfl (by decide) rfl ?_
        refine aw_goto 5 dX10_capacityOf_48 (by decide) ?_
        exact ih (k + 1) _ _ (by omega) (by omega) (by rw [h4]; exact inc1 k) (by rw [h3]; simp [cnt, opB, inc1, nI_1, c25])
      · refine aw_aload_n dX10_capacityOf_28 rfl ?_
        refine aw_iload dX10_capacityOf_29 rfl ?_
        refine aw_iload_n dX10_capacityOf_31 rfl ?_
        refine ap_callVi kv_X10_84 ko_X10_isOpenOn (c_X10_isOpenOn hn h4 (by omega)) dX10_capacityOf_32 e_63 (l_63 hn) rfl rfl rfl rfl (ble' rfl) (by decide) ?_
        refine aw_if_eq 42 dX10_capacityOf_35 (by decide) (fun c35 => ?_) (fun c35 => ?_)
        · have n35 := bI_z.mp c35
          refine aw_iconst (v := 0) dX10_capacityOf_42 (by decide) ?_
          refine aw_iadd dX10_capacityOf_43 ?_
          refine aw_istore_n (lo' := [_, _, _, some (.int _), _]) dX10_capacityOf_44 (by decide) rfl ?_
          refine aw_iinc (lo' := [_, _, _, _, some (.int _)]) dX10_capacityOf_45 rfl (by decide) rfl ?_
          refine aw_goto 5 dX10_capacityOf_48 (by decide) ?_
          exact ih (k + 1) _ _ (by omega) (by omega) (by rw [h4]; exact inc1 k) (by rw [h3]; simp [cnt, opB, inc1, nI_1, c25, c35, n35])
        · have n35 := bI_nz.mp c35
          refine aw_iconst (v := 1) dX10_capacityOf_38 (by decide) ?_
          refine aw_goto 43 dX10_capacityOf_39 (by decide) ?_
          refine aw_iadd dX10_capacityOf_43 ?_
          refine aw_istore_n (lo' := [_, _, _, some (.int _), _]) dX10_capacityOf_44 (by decide) rfl ?_
          refine aw_iinc (lo' := [_, _, _, _, some (.int _)]) dX10_capacityOf_45 rfl (by decide) rfl ?_
          refine aw_goto 5 dX10_capacityOf_48 (by decide) ?_
          exact ih (k + 1) _ _ (by omega) (by omega) (by rw [h4]; exact inc1 k) (by rw [h3]; simp [cnt, opB, inc1, nI_1, c25, c35, n35])

set_option maxRecDepth 100000 in
set_option maxHeartbeats 4000000 in
theorem c_X10_capacityOf {G : AG} {M : Nat → Nat → Int32} {n : Nat} (hn : 72 ≤ n) {ns : Nat} (hs : M 64 2 = nI ns) (hsl : ns ≤ 16) (c d : Int32) : AMet tX10_capacityOf yX10_capacityOf [Cond.code yX10_capacityOf cX10_capacityOf 5 (some .int)] [.ref 63, .int c, .int d] (wld G M) n (PD (.inl (some (.int (if M 64 0 ≤ d ∧ d ≤ 998 then nI (cnt (opB (V M 7) (V M 8) c d) ns) else 0)))) (wld G M) n) := by
  refine am_of (lo := [_, _, _, _, _]) (by decide) rfl (fun q => by cases q) rfl rfl rfl ?_
  refine aw_iconst (v := 0) dX10_capacityOf_0 (by decide) ?_
  refine aw_istore_n (lo' := [_, _, _, some (.int _), _]) dX10_capacityOf_1 (by decide) rfl ?_
  refine aw_iconst (v := 0) dX10_capacityOf_2 (by decide) ?_
  refine aw_istore (lo' := [_, _, _, _, some (.int _)]) dX10_capacityOf_3 (by decide) rfl ?_
  exact lp_X10_capacityOf hn hs hsl c d (ns + 1) 0 _ _ (by omega) (by omega) rfl rfl

set_option maxRecDepth 100000 in
set_option maxHeartbeats 4000000 in
theorem lp_X10_takenOf {G : AG} {M : Nat → Nat → Int32} {n : Nat} (hn : 72 ≤ n) {nb : Nat} (hb : M 64 4 = nI nb) (hbl : nb ≤ 60) (c d : Int32) : ∀ (j : Nat) (k : Nat) (x3 x4 : Int32), nb - k < j → k ≤ nb → x4 = nI k → x3 = nI (cnt (tkB (V M 16) (V M 17) (V M 18) (V M 20) c d) k) →  AW tX10_takenOf (AQm tX10_takenOf (PD (.inl (some (.int (nI (cnt (tkB (V M 16) (V M 17) (V M 18) (V M 20) c d) nb))))) (wld G M) n)) C0 5 [some (.ref 63), some (.int c), some (.int d), some (.int x3), some (.int x4), none] [] (wld G M) n 0 0 := by
  intro j
  induction j with
  | zero => intro k x3 x4 h0 hk h4 h3; omega
  | succ j ih =>
    intro k x3 x4 h0 hk h4 h3
    refine aw_iload dX10_takenOf_5 rfl ?_
    refine aw_aload_n dX10_takenOf_7 rfl ?_
    refine aw_get fl_X10_7 dX10_takenOf_8 e_63 (l_63 hn) rfl ?_
    refine aw_iconst (v := 4) dX10_takenOf_11 (by decide) ?_
    refine aw_ialdk dX10_takenOf_12 e_64 (l_64 hn) (show (4 : Int32) = nI 4 from rfl) (by decide) rfl ?_
    refine aw_icmp_ge 84 dX10_takenOf_13 (by decide) (fun c13 => ?_) (fun c13 => ?_)
    · have n13 := Int32.not_lt.mpr c13
      refine aw_iload_n dX10_takenOf_84 rfl ?_
      refine aw_iret rfl dX10_takenOf_85 (ble' rfl) (ble' rfl) ?_
      have hke : k = nb := Nat.le_antisymm hk (le_of_le hb h4 (by omega) (by omega) c13)
      exact pd_i (by rw [h3, hke])
    · have n13 := Int32.not_le.mp c13
      have hlt : k < nb := lt_of_nle hb h4 (by omega) (by omega) c13
      refine aw_aload_n dX10_takenOf_16 rfl ?_
      refine aw_iload dX10_takenOf_17 rfl ?_
      refine aw_iconst (v := 1) dX10_takenOf_19 (by decide) ?_
      refine ap_callVi kv_X10_102 ko_X10_booking (c_X10_booking_1 hn h4 (by omega)) dX10_takenOf_20 e_63 (l_63 hn) rfl rfl rfl rfl (ble' rfl) (by decide) ?_
      refine aw_iload_n dX10_takenOf_23 rfl ?_
      refine aw_icmp_gt 42 dX10_takenOf_24 (by decide) (fun c24 => ?_) (fun c24 => ?_)
      · have n24 := Int32.not_le.mpr c24
        refine aw_iconst (v := 0) dX10_takenOf_42 (by decide) ?_
        refine aw_istore (lo' := [_, _, _, _, _, some (.int _)]) dX10_takenOf_43 (by decide) rfl ?_
        refine aw_iload_n dX10_takenOf_45 rfl ?_
        refine aw_iload dX10_takenOf_46 rfl ?_
        refine aw_if_eq 75 dX10_takenOf_48 (by decide) (fun _ => ?_) (fun q => absurd q (by decide))
        refine aw_iconst (v := 0) dX10_takenOf_75 (by decide) ?_
        refine aw_iadd dX10_takenOf_76 ?_
        refine aw_istore_n (lo' := [_, _, _, some (.int _), _, _]) dX10_takenOf_77 (by decide) rfl ?_
        refine aw_iinc (lo' := [_, _, _, _, some (.int _), _]) dX10_takenOf_78 rfl (by decide) rfl ?_
        refine aw_goto 5 dX10_takenOf_81 (by decide) ?_
        refine aw_lo2 (lo' := [some (.ref 63), some (.int c), some (.int d), some (.int _), some (.int _), none]) ⟨rfl, rfl, rfl, rfl, rfl, trivial⟩ ?_
        exact ih (k + 1) _ _ (by omega) (by omega) (by rw [h4]; exact inc1 k) (by rw [h3]; simp [cnt, tkB, inc1, nI_1, c24, n24])
      · have n24 := Int32.not_lt.mp c24
        refine aw_iload_n dX10_takenOf_27 rfl ?_
        refine aw_aload_n dX10_takenOf_28 rfl ?_
        refine aw_iload dX10_takenOf_29 rfl ?_
        refine aw_iconst (v := 2) dX10_takenOf_31 (by decide) ?_
        refine ap_callVi kv_X10_102 ko_X10_booking (c_X10_booking_2 hn h4 (by omega)) dX10_takenOf_32 e_63 (l_63 hn) rfl rfl rfl rfl (ble' rfl) (by decide) ?_
        refine aw_icmp_ge 42 dX10_takenOf_35 (by decide) (fun c35 => ?_) (fun c35 => ?_)
        · have n35 := Int32.not_lt.mpr c35
          refine aw_iconst (v := 0) dX10_takenOf_42 (by decide) ?_
          refine aw_istore (lo' := [_, _, _, _, _, some (.int _)]) dX10_takenOf_43 (by decide) rfl ?_
          refine aw_iload_n dX10_takenOf_45 rfl ?_
          refine aw_iload dX10_takenOf_46 rfl ?_
          refine aw_if_eq 75 dX10_takenOf_48 (by decide) (fun _ => ?_) (fun q => absurd q (by decide))
          refine aw_iconst (v := 0) dX10_takenOf_75 (by decide) ?_
          refine aw_iadd dX10_takenOf_76 ?_
          refine aw_istore_n (lo' := [_, _, _, some (.int _), _, _]) dX10_takenOf_77 (by decide) rfl ?_
          refine aw_iinc (lo' := [_, _, _, _, some (.int _), _]) dX10_takenOf_78 rfl (by decide) rfl ?_
          refine aw_goto 5 dX10_takenOf_81 (by decide) ?_
          refine aw_lo2 (lo' := [some (.ref 63), some (.int c), some (.int d), some (.int _), some (.int _), none]) ⟨rfl, rfl, rfl, rfl, rfl, trivial⟩ ?_
          exact ih (k + 1) _ _ (by omega) (by omega) (by rw [h4]; exact inc1 k) (by rw [h3]; simp [cnt, tkB, inc1, nI_1, c24, n24, c35, n35])
        · have n35 := Int32.not_le.mp c35
          refine aw_iconst (v := 1) dX10_takenOf_38 (by decide) ?_
          refine aw_goto 43 dX10_takenOf_39 (by decide) ?_
          refine aw_istore (lo' := [_, _, _, _, _, some (.int _)]) dX10_takenOf_43 (by decide) rfl ?_
          refine aw_iload_n dX10_takenOf_45 rfl ?_
          refine aw_iload dX10_takenOf_46 rfl ?_
          refine aw_if_eq 75 dX10_takenOf_48 (by decide) (fun q => absurd q (by decide)) (fun _ => ?_)
          refine aw_aload_n dX10_takenOf_51 rfl ?_
          refine aw_iload dX10_takenOf_52 rfl ?_
          refine ap_callVi kv_X10_105 ko_X10_isActive (c_X10_isActive hn h4 (by omega)) dX10_takenOf_54 e_63 (l_63 hn) rfl rfl rfl rfl (ble' rfl) (by decide) ?_
          refine aw_if_eq 75 dX10_takenOf_57 (by decide) (fun c57 => ?_) (fun c57 => ?_)
          · have n57 := bI_z.mp c57
            refine aw_iconst (v := 0) dX10_takenOf_75 (by decide) ?_
            refine aw_iadd dX10_takenOf_76 ?_
            refine aw_istore_n (lo' := [_, _, _, some (.int _), _, _]) dX10_takenOf_77 (by decide) rfl ?_
            refine aw_iinc (lo' := [_, _, _, _, some (.int _), _]) dX10_takenOf_78 rfl (by decide) rfl ?_
            refine aw_goto 5 dX10_takenOf_81 (by decide) ?_
            refine aw_lo2 (lo' := [some (.ref 63), some (.int c), some (.int d), some (.int _), some (.int _), none]) ⟨rfl, rfl, rfl, rfl, rfl, trivial⟩ ?_
            exact ih (k + 1) _ _ (by omega) (by omega) (by rw [h4]; exact inc1 k) (by rw [h3]; simp [cnt, tkB, inc1, nI_1, c24, n24, c35, n35, c57, n57])
          · have n57 := bI_nz.mp c57
            refine aw_aload_n dX10_takenOf_60 rfl ?_
            refine aw_iload dX10_takenOf_61 rfl ?_
            refine aw_iconst (v := 0) dX10_takenOf_63 (by decide) ?_
            refine ap_callVi kv_X10_102 ko_X10_booking (c_X10_booking_0 hn h4 (by omega)) dX10_takenOf_64 e_63 (l_63 hn) rfl rfl rfl rfl (ble' rfl) (by decide) ?_
            refine aw_iload_n dX10_takenOf_67 rfl ?_
            refine aw_icmp_ne 75 dX10_takenOf_68 (by decide) (fun c68 => ?_) (fun c68 => ?_)
            · refine aw_iconst (v := 0) dX10_takenOf_75 (by decide) ?_
              refine aw_iadd dX10_takenOf_76 ?_
              refine aw_istore_n (lo' := [_, _, _, some (.int _), _, _]) dX10_takenOf_77 (by decide) rfl ?_
              refine aw_iinc (lo' := [_, _, _, _, some (.int _), _]) dX10_takenOf_78 rfl (by decide) rfl ?_
              refine aw_goto 5 dX10_takenOf_81 (by decide) ?_
              refine aw_lo2 (lo' := [some (.ref 63), some (.int c), some (.int d), some (.int _), some (.int _), none]) ⟨rfl, rfl, rfl, rfl, rfl, trivial⟩ ?_
              exact ih (k + 1) _ _ (by omega) (by omega) (by rw [h4]; exact inc1 k) (by rw [h3]; simp [cnt, tkB, inc1, nI_1, c24, n24, c35, n35, c57, n57, c68])
            · refine aw_iconst (v := 1) dX10_takenOf_71 (by decide) ?_
              refine aw_goto 76 dX10_takenOf_72 (by decide) ?_
              refine aw_iadd dX10_takenOf_76 ?_
              refine aw_istore_n (lo' := [_, _, _, some (.int _), _, _]) dX10_takenOf_77 (by decide) rfl ?_
              refine aw_iinc (lo' := [_, _, _, _, some (.int _), _]) dX10_takenOf_78 rfl (by decide) rfl ?_
              refine aw_goto 5 dX10_takenOf_81 (by decide) ?_
              refine aw_lo2 (lo' := [some (.ref 63), some (.int c), some (.int d), some (.int _), some (.int _), none]) ⟨rfl, rfl, rfl, rfl, rfl, trivial⟩ ?_
              exact ih (k + 1) _ _ (by omega) (by omega) (by rw [h4]; exact inc1 k) (by rw [h3]; simp [cnt, tkB, inc1, nI_1, c24, n24, c35, n35, c57, n57, c68])

set_option maxRecDepth 100000 in
set_option maxHeartbeats 4000000 in
theorem c_X10_takenOf {G : AG} {M : Nat → Nat → Int32} {n : Nat} (hn : 72 ≤ n) {nb : Nat} (hb : M 64 4 = nI nb) (hbl : nb ≤ 60) (c d : Int32) : AMet tX10_takenOf yX10_takenOf [Cond.code yX10_takenOf cX10_takenOf 6 (some .int)] [.ref 63, .int c, .int d] (wld G M) n (PD (.inl (some (.int (nI (cnt (tkB (V M 16) (V M 17) (V M 18) (V M 20) c d) nb))))) (wld G M) n) := by
  refine am_of (lo := [_, _, _, _, _, _]) (by decide) rfl (fun q => by cases q) rfl rfl rfl ?_
  refine aw_iconst (v := 0) dX10_takenOf_0 (by decide) ?_
  refine aw_istore_n (lo' := [_, _, _, some (.int _), _, _]) dX10_takenOf_1 (by decide) rfl ?_
  refine aw_iconst (v := 0) dX10_takenOf_2 (by decide) ?_
  refine aw_istore (lo' := [_, _, _, _, some (.int _), _]) dX10_takenOf_3 (by decide) rfl ?_
  exact lp_X10_takenOf hn hb hbl c d (nb + 1) 0 _ _ (by omega) (by omega) rfl rfl

/-- the sites that the reference releases, puts on offer -/
def rlR (t w s q op d : Int32) : Int32 := if ¬ (t ≤ d ∧ d ≤ 998) ∨ w < d - t then 0 else if d - t ≤ s then (if t ≤ d ∧ d ≤ 998 then op else 0) else if q < (if t ≤ d ∧ d ≤ 998 then op else 0) then q else (if t ≤ d ∧ d ≤ 998 then op else 0)
def rlV (M : Nat → Nat → Int32) (ns k : Nat) (c d : Int32) : Int32 := rlR (M 64 0) (V M 3 k) (V M 4 k) (V M 5 k) (nI (cnt (opB (V M 7) (V M 8) c d) ns)) d
set_option maxRecDepth 100000 in
set_option maxHeartbeats 4000000 in
theorem c_X10_releasedOf {G : AG} {M : Nat → Nat → Int32} {n : Nat} (hn : 72 ≤ n) {ns : Nat} (hs : M 64 2 = nI ns) (hsl : ns ≤ 16) {c : Int32} {kc : Nat} (hk : c = nI kc) (hkc : kc < 4) (d : Int32) : AMet tX10_releasedOf yX10_releasedOf [Cond.code yX10_releasedOf cX10_releasedOf 4 (some .int)] [.ref 63, .int c, .int d] (wld G M) n (PD (.inl (some (.int (rlV M ns kc c d)))) (wld G M) n) := by
  refine am_of (lo := [_, _, _, _]) (by decide) rfl (fun q => by cases q) rfl rfl rfl ?_
  refine aw_aload_n dX10_releasedOf_0 rfl ?_
  refine aw_iload_n dX10_releasedOf_1 rfl ?_
  refine ap_callVi kv_X10_88 ko_X10_isNight (c_X10_isNight hn _) dX10_releasedOf_2 e_63 (l_63 hn) rfl rfl rfl rfl (ble' rfl) (by decide) ?_
  refine aw_if_eq 25 dX10_releasedOf_5 (by decide) (fun c5 => ?_) (fun c5 => ?_)
  · have n5 := bI_z.mp c5
    refine aw_iconst (v := 0) dX10_releasedOf_25 (by decide) ?_
    refine aw_iret rfl dX10_releasedOf_26 (ble' rfl) (ble' rfl) ?_
    exact pd_i (by unfold rlV rlR; rw [if_pos (Or.inl n5)])
  · have n5 := bI_nz.mp c5
    refine aw_iload_n dX10_releasedOf_8 rfl ?_
    refine aw_aload_n dX10_releasedOf_9 rfl ?_
    refine aw_get fl_X10_7 dX10_releasedOf_10 e_63 (l_63 hn) rfl ?_
    refine aw_iconst (v := 0) dX10_releasedOf_13 (by decide) ?_
    refine aw_ialdk dX10_releasedOf_14 e_64 (l_64 hn) (show (0 : Int32) = nI 0 from rfl) (by decide) rfl ?_
    refine aw_isub dX10_releasedOf_15 ?_
    refine aw_aload_n dX10_releasedOf_16 rfl ?_
    refine aw_iload_n dX10_releasedOf_17 rfl ?_
    refine aw_iconst (v := 0) dX10_releasedOf_18 (by decide) ?_
    refine ap_callVi kv_X10_91 ko_X10_siteClass (c_X10_siteClass_0 hn hk hkc) dX10_releasedOf_19 e_63 (l_63 hn) rfl rfl rfl rfl (ble' rfl) (by decide) ?_
    refine aw_icmp_le 27 dX10_releasedOf_22 (by decide) (fun c22 => ?_) (fun c22 => ?_)
    · have n22 := Int32.not_lt.mpr c22
      refine aw_aload_n dX10_releasedOf_27 rfl ?_
      refine aw_iload_n dX10_releasedOf_28 rfl ?_
      refine aw_iload_n dX10_releasedOf_29 rfl ?_
      refine ap_callVi kv_X10_94 ko_X10_capacityOf (c_X10_capacityOf hn hs hsl c d) dX10_releasedOf_30 e_63 (l_63 hn) rfl rfl rfl rfl (ble' rfl) (by decide) ?_
      refine aw_istore_n (lo' := [_, _, _, some (.int _)]) dX10_releasedOf_33 (by decide) rfl ?_
      refine aw_iload_n dX10_releasedOf_34 rfl ?_
      refine aw_aload_n dX10_releasedOf_35 rfl ?_
      refine aw_get fl_X10_7 dX10_releasedOf_36 e_63 (l_63 hn) rfl ?_
      refine aw_iconst (v := 0) dX10_releasedOf_39 (by decide) ?_
      refine aw_ialdk dX10_releasedOf_40 e_64 (l_64 hn) (show (0 : Int32) = nI 0 from rfl) (by decide) rfl ?_
      refine aw_isub dX10_releasedOf_41 ?_
      refine aw_aload_n dX10_releasedOf_42 rfl ?_
      refine aw_iload_n dX10_releasedOf_43 rfl ?_
      refine aw_iconst (v := 1) dX10_releasedOf_44 (by decide) ?_
      refine ap_callVi kv_X10_91 ko_X10_siteClass (c_X10_siteClass_1 hn hk hkc) dX10_releasedOf_45 e_63 (l_63 hn) rfl rfl rfl rfl (ble' rfl) (by decide) ?_
      refine aw_icmp_gt 55 dX10_releasedOf_48 (by decide) (fun c48 => ?_) (fun c48 => ?_)
      · have n48 := Int32.not_le.mpr c48
        refine aw_iload_n dX10_releasedOf_55 rfl ?_
        refine aw_aload_n dX10_releasedOf_56 rfl ?_
        refine aw_iload_n dX10_releasedOf_57 rfl ?_
        refine aw_iconst (v := 2) dX10_releasedOf_58 (by decide) ?_
        refine ap_callVi kv_X10_91 ko_X10_siteClass (c_X10_siteClass_2 hn hk hkc) dX10_releasedOf_59 e_63 (l_63 hn) rfl rfl rfl rfl (ble' rfl) (by decide) ?_
        refine aw_mmin km_X10_97 dX10_releasedOf_62 ⟨by decide, ble' rfl, by decide, by decide⟩ ?_
        refine aw_iret rfl dX10_releasedOf_65 (ble' rfl) (ble' rfl) ?_
        exact pd_i (by unfold rlV rlR; rw [if_neg (show ¬ (¬ (M 64 0 ≤ d ∧ d ≤ 998) ∨ V M 3 kc < d - M 64 0) from fun q => q.elim (fun r => r n5) (Int32.not_lt.mpr c22)), if_neg (Int32.not_le.mpr c48)])
      · have n48 := Int32.not_lt.mp c48
        refine aw_iload_n dX10_releasedOf_51 rfl ?_
        refine aw_goto 65 dX10_releasedOf_52 (by decide) ?_
        refine aw_iret rfl dX10_releasedOf_65 (ble' rfl) (ble' rfl) ?_
        exact pd_i (by unfold rlV rlR; rw [if_neg (show ¬ (¬ (M 64 0 ≤ d ∧ d ≤ 998) ∨ V M 3 kc < d - M 64 0) from fun q => q.elim (fun r => r n5) (Int32.not_lt.mpr c22)), if_pos n48])
    · have n22 := Int32.not_le.mp c22
      refine aw_iconst (v := 0) dX10_releasedOf_25 (by decide) ?_
      refine aw_iret rfl dX10_releasedOf_26 (ble' rfl) (ble' rfl) ?_
      exact pd_i (by unfold rlV rlR; rw [if_pos (Or.inr n22)])

def avV (M : Nat → Nat → Int32) (ns nb k : Nat) (c d : Int32) : Int32 := if 0 < rlV M ns k c d - nI (cnt (tkB (V M 16) (V M 17) (V M 18) (V M 20) c d) nb) then rlV M ns k c d - nI (cnt (tkB (V M 16) (V M 17) (V M 18) (V M 20) c d) nb) else 0
theorem mx_0 (x : Int32) : (if (0 : Int32) < x then x else 0) = (if 0 < x then x else 0) := rfl
set_option maxRecDepth 100000 in
set_option maxHeartbeats 4000000 in
theorem c_X10_availableOf {G : AG} {M : Nat → Nat → Int32} {n : Nat} (hn : 72 ≤ n) {ns : Nat} (hs : M 64 2 = nI ns) (hsl : ns ≤ 16) {nb : Nat} (hb : M 64 4 = nI nb) (hbl : nb ≤ 60) {c : Int32} {kc : Nat} (hk : c = nI kc) (hkc : kc < 4) (d : Int32) : AMet tX10_availableOf yX10_availableOf [Cond.code yX10_availableOf cX10_availableOf 3 (some .int)] [.ref 63, .int c, .int d] (wld G M) n (PD (.inl (some (.int (avV M ns nb kc c d)))) (wld G M) n) := by
  refine am_of (lo := [_, _, _]) (by decide) rfl (fun q => by cases q) rfl rfl rfl ?_
  refine aw_iconst (v := 0) dX10_availableOf_0 (by decide) ?_
  refine aw_aload_n dX10_availableOf_1 rfl ?_
  refine aw_iload_n dX10_availableOf_2 rfl ?_
  refine aw_iload_n dX10_availableOf_3 rfl ?_
  refine ap_callVi kv_X10_108 ko_X10_releasedOf (c_X10_releasedOf hn hs hsl hk hkc d) dX10_availableOf_4 e_63 (l_63 hn) rfl rfl rfl rfl (ble' rfl) (by decide) ?_
  refine aw_aload_n dX10_availableOf_7 rfl ?_
  refine aw_iload_n dX10_availableOf_8 rfl ?_
  refine aw_iload_n dX10_availableOf_9 rfl ?_
  refine ap_callVi kv_X10_111 ko_X10_takenOf (c_X10_takenOf hn hb hbl c d) dX10_availableOf_10 e_63 (l_63 hn) rfl rfl rfl rfl (ble' rfl) (by decide) ?_
  refine aw_isub dX10_availableOf_13 ?_
  refine aw_mmax km_X10_114 dX10_availableOf_14 ⟨by decide, ble' rfl, by decide, by decide⟩ ?_
  refine aw_iret rfl dX10_availableOf_17 (ble' rfl) (ble' rfl) ?_
  exact pd_i (mx_0 _)
