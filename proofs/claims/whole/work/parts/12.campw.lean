set_option maxRecDepth 100000 in
set_option maxHeartbeats 4000000 in
theorem c_X1_addBooking {G : AG} {M : Nat → Nat → Int32} {n : Nat} (hn : 72 ≤ n) {nb : Nat} (hb : M 15 6 = nI nb) (hbl : nb < 60) {nz : Nat} (hz : M 9 5 = nI nz) (hzl : nz ≤ 12) (c : Int32) {a m : Nat} (ha : a ≤ 2000) (hm : m ≤ 2000) {x2 x3 : Int32} (h2 : x2 = nI a) (h3 : x3 = nI m) : AMet tX1_addBooking yX1_addBooking [Cond.code yX1_addBooking cX1_addBooking 6 (some .int)] [.ref 1, .int c, .int x2, .int x3] (wld G M) n (PD (.inl (some (.int (nI nb)))) (wld G (addB M nb c (nI a) (nI (a + m)) (psum (fun d => sval (seasN (M 10) (M 11) (M 12) c d nz) (M 14) 20) a m))) n) := by
  refine am_of (lo := [_, _, _, _, _, _]) (by decide) rfl (fun q => by cases q) rfl rfl rfl ?_
  refine aw_iload_n dX1_addBooking_0 rfl ?_
  refine aw_iload_n dX1_addBooking_1 rfl ?_
  refine aw_iadd dX1_addBooking_2 ?_
  refine aw_istore (lo' := [_, _, _, _, some (.int _), _]) dX1_addBooking_3 (by decide) rfl ?_
  refine aw_aload_n dX1_addBooking_5 rfl ?_
  refine aw_get fl_X1_28 dX1_addBooking_6 e_1 (l_1 hn) rfl ?_
  refine aw_iload_n dX1_addBooking_9 rfl ?_
  refine aw_iload_n dX1_addBooking_10 rfl ?_
  refine aw_iload dX1_addBooking_11 rfl ?_
  refine ap_callVi kv_X1_106 ko_X5_priceOfNights (c_X5_priceOfNights hn hz hzl c (a := a) (b := a + m) (by omega) (by omega) h2 (by rw [h2, h3]; exact nI_add a m)) dX1_addBooking_13 e_9 (l_9 hn) rfl rfl rfl rfl (ble' rfl) (by decide) ?_
  refine aw_istore (lo' := [_, _, _, _, _, some (.int _)]) dX1_addBooking_16 (by decide) rfl ?_
  refine aw_aload_n dX1_addBooking_18 rfl ?_
  refine aw_get fl_X1_35 dX1_addBooking_19 e_1 (l_1 hn) rfl ?_
  refine aw_iload_n dX1_addBooking_22 rfl ?_
  refine aw_iload_n dX1_addBooking_23 rfl ?_
  refine aw_iload dX1_addBooking_24 rfl ?_
  refine aw_iload dX1_addBooking_26 rfl ?_
  refine ap_callVi kv_X1_110 ko_X0_add (c_X0_add hn hb hbl _ _ _ _) dX1_addBooking_28 e_15 (l_15 hn) rfl rfl rfl rfl (ble' rfl) (by decide) ?_
  refine aw_iret rfl dX1_addBooking_31 (ble' rfl) (ble' rfl) ?_
  exact pd_ih rfl (by rw [h2, h3, nI_add]; simp)

def bkReq (M : Nat → Nat → Int32) (k nb a m : Nat) (p : Int32) : Nat → Nat → Int32 := updM (updM (addB M nb (M 23 k) (nI a) (nI (a + m)) p) 27 (upd (M 27) k (nI nb))) 26 (upd (M 26) k 1)

set_option maxRecDepth 100000 in
set_option maxHeartbeats 4000000 in
theorem c_X1_bookRequest {G : AG} {M : Nat → Nat → Int32} {n : Nat} (hn : 72 ≤ n) {nb : Nat} (hb : M 15 6 = nI nb) (hbl : nb < 60) {nz : Nat} (hz : M 9 5 = nI nz) (hzl : nz ≤ 12) {k : Nat} {x : Int32} (hx : x = nI k) (hk : k < 20) {a m : Nat} (ha : a ≤ 2000) (hm : m ≤ 2000) (hra : M 24 k = nI a) (hrm : M 25 k = nI m) : AMet tX1_bookRequest yX1_bookRequest [Cond.code yX1_bookRequest cX1_bookRequest 3 none] [.ref 1, .int x] (wld G M) n (PD (.inl none) (wld G (bkReq M k nb a m (psum (fun d => sval (seasN (M 10) (M 11) (M 12) (M 23 k) d nz) (M 14) 20) a m))) n) := by
  refine am_of (lo := [_, _, _]) (by decide) rfl (fun q => by cases q) rfl rfl rfl ?_
  refine aw_aload_n dX1_bookRequest_0 rfl ?_
  refine aw_aload_n dX1_bookRequest_1 rfl ?_
  refine aw_get fl_X1_42 dX1_bookRequest_2 e_1 (l_1 hn) rfl ?_
  refine aw_get fl_X1_114 dX1_bookRequest_5 e_22 (l_22 hn) rfl ?_
  refine aw_iload_n dX1_bookRequest_8 rfl ?_
  refine aw_ialdk dX1_bookRequest_9 e_23 (l_23 hn) hx hk rfl ?_
  refine aw_aload_n dX1_bookRequest_10 rfl ?_
  refine aw_get fl_X1_42 dX1_bookRequest_11 e_1 (l_1 hn) rfl ?_
  refine aw_get fl_X1_115 dX1_bookRequest_14 e_22 (l_22 hn) rfl ?_
  refine aw_iload_n dX1_bookRequest_17 rfl ?_
  refine aw_ialdk dX1_bookRequest_18 e_24 (l_24 hn) hx hk rfl ?_
  refine aw_aload_n dX1_bookRequest_19 rfl ?_
  refine aw_get fl_X1_42 dX1_bookRequest_20 e_1 (l_1 hn) rfl ?_
  refine aw_get fl_X1_118 dX1_bookRequest_23 e_22 (l_22 hn) rfl ?_
  refine aw_iload_n dX1_bookRequest_26 rfl ?_
  refine aw_ialdk dX1_bookRequest_27 e_25 (l_25 hn) hx hk rfl ?_
  refine ap_callVi kv_X1_121 ko_X1_addBooking (c_X1_addBooking hn hb hbl hz hzl _ ha hm hra hrm) dX1_bookRequest_28 e_1 (l_1 hn) rfl rfl rfl rfl (ble' rfl) (by decide) ?_
  refine aw_istore_n (lo' := [_, _, some (.int _)]) dX1_bookRequest_31 (by decide) rfl ?_
  refine aw_aload_n dX1_bookRequest_32 rfl ?_
  refine aw_get fl_X1_42 dX1_bookRequest_33 e_1 (l_1 hn) rfl ?_
  refine aw_get fl_X1_124 dX1_bookRequest_36 e_22 (l_22 hn) rfl ?_
  refine aw_iload_n dX1_bookRequest_39 rfl ?_
  refine aw_iload_n dX1_bookRequest_40 rfl ?_
  refine aw_iastk dX1_bookRequest_41 e_27 (l_27 hn) hx hk rfl (hwa rfl) ?_
  refine aw_aload_n dX1_bookRequest_42 rfl ?_
  refine aw_get fl_X1_42 dX1_bookRequest_43 e_1 (l_1 hn) rfl ?_
  refine aw_get fl_X1_127 dX1_bookRequest_46 e_22 (l_22 hn) rfl ?_
  refine aw_iload_n dX1_bookRequest_49 rfl ?_
  refine aw_iconst (v := 1) dX1_bookRequest_50 (by decide) ?_
  refine aw_iastk dX1_bookRequest_51 e_26 (l_26 hn) hx hk rfl (hwa rfl) ?_
  refine aw_vret rfl dX1_bookRequest_52 (ble' rfl) (ble' rfl) ?_
  exact pd_v rfl

set_option maxRecDepth 100000 in
set_option maxHeartbeats 4000000 in
theorem c_X1_refundOfCancelling {G : AG} {M : Nat → Nat → Int32} {n : Nat} (hn : 72 ≤ n) {x : Int32} {k : Nat} (hx : x = nI k) (hk : k < 60) : AMet tX1_refundOfCancelling yX1_refundOfCancelling [Cond.code yX1_refundOfCancelling cX1_refundOfCancelling 3 (some .int)] [.ref 1, .int x] (wld G M) n (PD (.inl (some (.int (rcF (M 17 k - M 1 5) (M 19 k))))) (wld G M) n) := by
  refine am_of (lo := [_, _, _]) (by decide) rfl (fun q => by cases q) rfl rfl rfl ?_
  refine aw_aload_n dX1_refundOfCancelling_0 rfl ?_
  refine aw_get fl_X1_35 dX1_refundOfCancelling_1 e_1 (l_1 hn) rfl ?_
  refine aw_get fl_X1_130 dX1_refundOfCancelling_4 e_15 (l_15 hn) rfl ?_
  refine aw_iload_n dX1_refundOfCancelling_7 rfl ?_
  refine aw_ialdk dX1_refundOfCancelling_8 e_17 (l_17 hn) hx hk rfl ?_
  refine aw_aload_n dX1_refundOfCancelling_9 rfl ?_
  refine aw_get fl_X1_46 dX1_refundOfCancelling_10 e_1 (l_1 hn) rfl ?_
  refine aw_isub dX1_refundOfCancelling_13 ?_
  refine aw_istore_n (lo' := [_, _, some (.int _)]) dX1_refundOfCancelling_14 (by decide) rfl ?_
  refine aw_iload_n dX1_refundOfCancelling_15 rfl ?_
  refine aw_bipush (v := 14) dX1_refundOfCancelling_16 (by decide) ?_
  refine aw_icmp_lt 31 dX1_refundOfCancelling_18 (by decide) (fun c18 => ?_) (fun c18 => ?_)
  · have n18 := Int32.not_le.mpr c18
    refine aw_iload_n dX1_refundOfCancelling_31 rfl ?_
    refine aw_iconst (v := 3) dX1_refundOfCancelling_32 (by decide) ?_
    refine aw_icmp_lt 50 dX1_refundOfCancelling_33 (by decide) (fun c33 => ?_) (fun c33 => ?_)
    · have n33 := Int32.not_le.mpr c33
      refine aw_iconst (v := 0) dX1_refundOfCancelling_50 (by decide) ?_
      refine aw_iret rfl dX1_refundOfCancelling_51 (ble' rfl) (ble' rfl) ?_
      exact pd_i (by simp [rcF, c18, n18, c33, n33])
    · have n33 := Int32.not_lt.mp c33
      refine aw_aload_n dX1_refundOfCancelling_36 rfl ?_
      refine aw_get fl_X1_35 dX1_refundOfCancelling_37 e_1 (l_1 hn) rfl ?_
      refine aw_get fl_X1_131 dX1_refundOfCancelling_40 e_15 (l_15 hn) rfl ?_
      refine aw_iload_n dX1_refundOfCancelling_43 rfl ?_
      refine aw_ialdk dX1_refundOfCancelling_44 e_19 (l_19 hn) hx hk rfl ?_
      refine aw_iconst (v := 2) dX1_refundOfCancelling_45 (by decide) ?_
      refine aw_idiv dX1_refundOfCancelling_46 (by decide) ?_
      refine aw_goto 51 dX1_refundOfCancelling_47 (by decide) ?_
      refine aw_iret rfl dX1_refundOfCancelling_51 (ble' rfl) (ble' rfl) ?_
      exact pd_i (by simp [rcF, c18, n18, c33, n33])
  · have n18 := Int32.not_lt.mp c18
    refine aw_aload_n dX1_refundOfCancelling_21 rfl ?_
    refine aw_get fl_X1_35 dX1_refundOfCancelling_22 e_1 (l_1 hn) rfl ?_
    refine aw_get fl_X1_131 dX1_refundOfCancelling_25 e_15 (l_15 hn) rfl ?_
    refine aw_iload_n dX1_refundOfCancelling_28 rfl ?_
    refine aw_ialdk dX1_refundOfCancelling_29 e_19 (l_19 hn) hx hk rfl ?_
    refine aw_iret rfl dX1_refundOfCancelling_30 (ble' rfl) (ble' rfl) ?_
    exact pd_i (by simp [rcF, c18, n18])

set_option maxRecDepth 100000 in
set_option maxHeartbeats 4000000 in
theorem c_X1_refundOfDeparting {G : AG} {M : Nat → Nat → Int32} {n : Nat} (hn : 72 ≤ n) {nz : Nat} (hz : M 9 5 = nI nz) (hzl : nz ≤ 12) {x : Int32} {k : Nat} (hx : x = nI k) (hk : k < 60) {a b : Nat} (ht : M 1 5 = nI a) (hdp : M 18 k = nI b) (ha : a ≤ 2000) (hbb : b ≤ 2000) : AMet tX1_refundOfDeparting yX1_refundOfDeparting [Cond.code yX1_refundOfDeparting cX1_refundOfDeparting 3 (some .int)] [.ref 1, .int x] (wld G M) n (PD (.inl (some (.int (let s := psum (fun d => sval (seasN (M 10) (M 11) (M 12) (M 16 k) d nz) (M 14) 20) (a + 1) (b - (a + 1)) / 2; if M 19 k < s then M 19 k else s)))) (wld G M) n) := by
  refine am_of (lo := [_, _, _]) (by decide) rfl (fun q => by cases q) rfl rfl rfl ?_
  refine aw_aload_n dX1_refundOfDeparting_0 rfl ?_
  refine aw_get fl_X1_28 dX1_refundOfDeparting_1 e_1 (l_1 hn) rfl ?_
  refine aw_aload_n dX1_refundOfDeparting_4 rfl ?_
  refine aw_get fl_X1_35 dX1_refundOfDeparting_5 e_1 (l_1 hn) rfl ?_
  refine aw_get fl_X1_134 dX1_refundOfDeparting_8 e_15 (l_15 hn) rfl ?_
  refine aw_iload_n dX1_refundOfDeparting_11 rfl ?_
  refine aw_ialdk dX1_refundOfDeparting_12 e_16 (l_16 hn) hx hk rfl ?_
  refine aw_aload_n dX1_refundOfDeparting_13 rfl ?_
  refine aw_get fl_X1_46 dX1_refundOfDeparting_14 e_1 (l_1 hn) rfl ?_
  refine aw_iconst (v := 1) dX1_refundOfDeparting_17 (by decide) ?_
  refine aw_iadd dX1_refundOfDeparting_18 ?_
  refine aw_aload_n dX1_refundOfDeparting_19 rfl ?_
  refine aw_get fl_X1_35 dX1_refundOfDeparting_20 e_1 (l_1 hn) rfl ?_
  refine aw_get fl_X1_135 dX1_refundOfDeparting_23 e_15 (l_15 hn) rfl ?_
  refine aw_iload_n dX1_refundOfDeparting_26 rfl ?_
  refine aw_ialdk dX1_refundOfDeparting_27 e_18 (l_18 hn) hx hk rfl ?_
  refine ap_callVi kv_X1_106 ko_X5_priceOfNights (c_X5_priceOfNights hn hz hzl _ (a := a + 1) (b := b) (by omega) (by omega) (by rw [ht]; exact nI_1 a) hdp) dX1_refundOfDeparting_28 e_9 (l_9 hn) rfl rfl rfl rfl (ble' rfl) (by decide) ?_
  refine aw_istore_n (lo' := [_, _, some (.int _)]) dX1_refundOfDeparting_31 (by decide) rfl ?_
  refine aw_iload_n dX1_refundOfDeparting_32 rfl ?_
  refine aw_iconst (v := 2) dX1_refundOfDeparting_33 (by decide) ?_
  refine aw_idiv dX1_refundOfDeparting_34 (by decide) ?_
  refine aw_aload_n dX1_refundOfDeparting_35 rfl ?_
  refine aw_get fl_X1_35 dX1_refundOfDeparting_36 e_1 (l_1 hn) rfl ?_
  refine aw_get fl_X1_131 dX1_refundOfDeparting_39 e_15 (l_15 hn) rfl ?_
  refine aw_iload_n dX1_refundOfDeparting_42 rfl ?_
  refine aw_ialdk dX1_refundOfDeparting_43 e_19 (l_19 hn) hx hk rfl ?_
  refine aw_mmin km_X1_80 dX1_refundOfDeparting_44 ⟨by decide, ble' rfl, by decide, by decide⟩ ?_
  refine aw_iret rfl dX1_refundOfDeparting_47 (ble' rfl) (ble' rfl) ?_
  exact pd_i rfl

def enD (M : Nat → Nat → Int32) (nb nr : Nat) : Nat → Nat → Int32 := updM (updM (updM M 20 (mapK (enS (M 17) (M 18) (M 20) (M 1 5)) (M 20) nb)) 1 (upd (M 1) 5 (M 1 5 + 1))) 26 (mapK (exS (M 24) (M 26) (M 1 5 + 1)) (M 26) nr)

set_option maxRecDepth 100000 in
set_option maxHeartbeats 4000000 in
theorem c_X1_endToday {G : AG} {M : Nat → Nat → Int32} {n : Nat} (hn : 72 ≤ n) {nb : Nat} (hb : M 15 6 = nI nb) (hbl : nb ≤ 60) {nr : Nat} (hr : M 22 5 = nI nr) (hrl : nr ≤ 20) : AMet tX1_endToday yX1_endToday [Cond.code yX1_endToday cX1_endToday 1 none] [.ref 1] (wld G M) n (PD (.inl none) (wld G (enD M nb nr)) n) := by
  refine am_of (lo := [_]) (by decide) rfl (fun q => by cases q) rfl rfl rfl ?_
  refine aw_aload_n dX1_endToday_0 rfl ?_
  refine aw_get fl_X1_35 dX1_endToday_1 e_1 (l_1 hn) rfl ?_
  refine aw_aload_n dX1_endToday_4 rfl ?_
  refine aw_get fl_X1_46 dX1_endToday_5 e_1 (l_1 hn) rfl ?_
  refine ap_callVv kv_X1_138 ko_X0_endNight (c_X0_endNight hn hb hbl _) dX1_endToday_8 e_15 (l_15 hn) rfl rfl rfl rfl (ble' rfl) (by decide) ?_
  refine aw_aload_n dX1_endToday_11 rfl ?_
  refine aw_dup dX1_endToday_12 rfl ?_
  refine aw_get fl_X1_46 dX1_endToday_13 e_1 (l_1 hn) rfl ?_
  refine aw_iconst (v := 1) dX1_endToday_16 (by decide) ?_
  refine aw_iadd dX1_endToday_17 ?_
  refine aw_put fp_X1_46_m dX1_endToday_18 e_1 (l_1 hn) (ble' rfl) (fun _ => ⟨rfl, rfl⟩) (hwf rfl) ?_
  refine aw_aload_n dX1_endToday_21 rfl ?_
  refine aw_get fl_X1_42 dX1_endToday_22 e_1 (l_1 hn) rfl ?_
  refine aw_aload_n dX1_endToday_25 rfl ?_
  refine aw_get fl_X1_46 dX1_endToday_26 e_1 (l_1 hn) rfl ?_
  refine ap_callVv kv_X1_142 ko_X4_expireBefore (c_X4_expireBefore (M := updM (updM M 20 _) 1 _) hn hr hrl _) dX1_endToday_29 e_22 (l_22 hn) rfl rfl rfl rfl (ble' rfl) (by decide) ?_
  refine aw_vret rfl dX1_endToday_32 (ble' rfl) (ble' rfl) ?_
  exact pd_v rfl
