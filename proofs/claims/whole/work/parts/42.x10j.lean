set_option maxRecDepth 100000 in
set_option maxHeartbeats 4000000 in
theorem c_X10_nightsOf {G : AG} {M : Nat → Nat → Int32} {n : Nat} (hn : 72 ≤ n) {b : Int32} {k : Nat} (hb : b = nI k) (hk : k < 60) : AMet tX10_nightsOf yX10_nightsOf [Cond.code yX10_nightsOf cX10_nightsOf 2 (some .long)] [.ref 63, .int b] (wld G M) n (PD (.inl (some (.long ((V M 18 k).toInt64 - (V M 17 k).toInt64)))) (wld G M) n) := by
  refine am_of (lo := [_, _]) (by decide) rfl (fun q => by cases q) rfl rfl rfl ?_
  refine aw_aload_n dX10_nightsOf_0 rfl ?_
  refine aw_iload_n dX10_nightsOf_1 rfl ?_
  refine aw_iconst (v := 2) dX10_nightsOf_2 (by decide) ?_
  refine ap_callVi kv_X10_102 ko_X10_booking (c_X10_booking_2 hn hb hk) dX10_nightsOf_3 e_63 (l_63 hn) rfl rfl rfl rfl (ble' rfl) (by decide) ?_
  refine aw_i2l dX10_nightsOf_6 ?_
  refine aw_aload_n dX10_nightsOf_7 rfl ?_
  refine aw_iload_n dX10_nightsOf_8 rfl ?_
  refine aw_iconst (v := 1) dX10_nightsOf_9 (by decide) ?_
  refine ap_callVi kv_X10_102 ko_X10_booking (c_X10_booking_1 hn hb hk) dX10_nightsOf_10 e_63 (l_63 hn) rfl rfl rfl rfl (ble' rfl) (by decide) ?_
  refine aw_i2l dX10_nightsOf_13 ?_
  refine aw_lsub dX10_nightsOf_14 ?_
  refine aw_lret rfl dX10_nightsOf_15 (ble' rfl) (ble' rfl) ?_
  exact ⟨rfl, rfl, rfl⟩

set_option maxRecDepth 100000 in
set_option maxHeartbeats 4000000 in
theorem lp_X10_dearestBooking {G : AG} {M : Nat → Nat → Int32} {n : Nat} (hn : 72 ≤ n) {nb : Nat} (hb : M 64 4 = nI nb) (hbl : nb ≤ 60) {c : Int32} {Po : APost} (hR : ∀ v, v = (bestN (fun b => decide (actP (V M 20 b) ∧ V M 16 b = c)) (fun k b => decide ((V M 19 b).toInt64 * ((V M 18 k).toInt64 - (V M 17 k).toInt64) < (V M 19 k).toInt64 * ((V M 18 b).toInt64 - (V M 17 b).toInt64))) nb) → Po (.inl (some (.int v))) (wld G M) n) : ∀ (j k : Nat) (x2 x3 : Int32), nb - k < j → k ≤ nb → x3 = nI k → x2 = (bestN (fun b => decide (actP (V M 20 b) ∧ V M 16 b = c)) (fun k b => decide ((V M 19 b).toInt64 * ((V M 18 k).toInt64 - (V M 17 k).toInt64) < (V M 19 k).toInt64 * ((V M 18 b).toInt64 - (V M 17 b).toInt64))) k) →  AW tX10_dearestBooking (AQm tX10_dearestBooking (Po)) C0 23 [some (.ref 63), some (.int c), some (.int x2), some (.int x3), none] [] (wld G M) n 0 0 := by
  intro j
  induction j with
  | zero => intro k x2 x3 h0; omega
  | succ j ih =>
    intro k x2 x3 h0 hk h3 h2
    refine aw_iload_n dX10_dearestBooking_23 rfl ?_
    refine aw_aload_n dX10_dearestBooking_24 rfl ?_
    refine aw_get fl_X10_7 dX10_dearestBooking_25 e_63 (l_63 hn) rfl ?_
    refine aw_iconst (v := 4) dX10_dearestBooking_28 (by decide) ?_
    refine aw_ialdk dX10_dearestBooking_29 e_64 (l_64 hn) (show (4 : Int32) = nI 4 from rfl) (by decide) rfl ?_
    refine aw_icmp_ge 106 dX10_dearestBooking_30 (by decide) (fun c30 => ?_) (fun c30 => ?_)
    · have n30 := Int32.not_lt.mpr c30
      refine aw_iload_n dX10_dearestBooking_106 rfl ?_
      refine aw_iret rfl dX10_dearestBooking_107 (ble' rfl) (ble' rfl) ?_
      have hke : k = nb := Nat.le_antisymm hk (le_of_le hb h3 (by omega) (by omega) c30)
      exact hR _ (by rw [h2, hke])
    · have n30 := Int32.not_le.mp c30
      have hlt : k < nb := lt_of_nle hb h3 (by omega) (by omega) c30
      refine aw_aload_n dX10_dearestBooking_33 rfl ?_
      refine aw_iload_n dX10_dearestBooking_34 rfl ?_
      refine ap_callVi kv_X10_105 ko_X10_isActive (c_X10_isActive hn h3 (by omega)) dX10_dearestBooking_35 e_63 (l_63 hn) rfl rfl rfl rfl (ble' rfl) (by decide) ?_
      refine aw_if_eq 55 dX10_dearestBooking_38 (by decide) (fun c38 => ?_) (fun c38 => ?_)
      · have n38 := bI_z.mp c38
        refine aw_iconst (v := 0) dX10_dearestBooking_55 (by decide) ?_
        refine aw_istore (lo' := [_, _, _, _, some (.int _)]) dX10_dearestBooking_56 (by decide) rfl ?_
        refine aw_iload dX10_dearestBooking_58 rfl ?_
        refine aw_if_eq 100 dX10_dearestBooking_60 (by decide) (fun _ => ?_) (fun q => absurd q (by decide))
        refine aw_iinc (lo' := [_, _, _, some (.int _), _]) dX10_dearestBooking_100 rfl (by decide) rfl ?_
        refine aw_goto 23 dX10_dearestBooking_103 (by decide) ?_
        refine aw_lo2 (lo' := [some (.ref 63), some (.int c), some (.int _), some (.int _), none]) ⟨rfl, rfl, rfl, rfl, trivial⟩ ?_
        exact ih (k + 1) _ _ (by omega) (by omega) (by rw [h3]; exact inc1 k) (by rw [h2, best_n (by simp only [decide_eq_false_iff_not]; exact fun q => n38 q.1)])
      · have n38 := bI_nz.mp c38
        refine aw_aload_n dX10_dearestBooking_41 rfl ?_
        refine aw_iload_n dX10_dearestBooking_42 rfl ?_
        refine aw_iconst (v := 0) dX10_dearestBooking_43 (by decide) ?_
        refine ap_callVi kv_X10_102 ko_X10_booking (c_X10_booking_0 hn h3 (by omega)) dX10_dearestBooking_44 e_63 (l_63 hn) rfl rfl rfl rfl (ble' rfl) (by decide) ?_
        refine aw_iload_n dX10_dearestBooking_47 rfl ?_
        refine aw_icmp_ne 55 dX10_dearestBooking_48 (by decide) (fun c48 => ?_) (fun c48 => ?_)
        · refine aw_iconst (v := 0) dX10_dearestBooking_55 (by decide) ?_
          refine aw_istore (lo' := [_, _, _, _, some (.int _)]) dX10_dearestBooking_56 (by decide) rfl ?_
          refine aw_iload dX10_dearestBooking_58 rfl ?_
          refine aw_if_eq 100 dX10_dearestBooking_60 (by decide) (fun _ => ?_) (fun q => absurd q (by decide))
          refine aw_iinc (lo' := [_, _, _, some (.int _), _]) dX10_dearestBooking_100 rfl (by decide) rfl ?_
          refine aw_goto 23 dX10_dearestBooking_103 (by decide) ?_
          refine aw_lo2 (lo' := [some (.ref 63), some (.int c), some (.int _), some (.int _), none]) ⟨rfl, rfl, rfl, rfl, trivial⟩ ?_
          exact ih (k + 1) _ _ (by omega) (by omega) (by rw [h3]; exact inc1 k) (by rw [h2, best_n (by simp only [decide_eq_false_iff_not]; exact fun q => c48 q.2)])
        · refine aw_iconst (v := 1) dX10_dearestBooking_51 (by decide) ?_
          refine aw_goto 56 dX10_dearestBooking_52 (by decide) ?_
          refine aw_istore (lo' := [_, _, _, _, some (.int _)]) dX10_dearestBooking_56 (by decide) rfl ?_
          refine aw_iload dX10_dearestBooking_58 rfl ?_
          refine aw_if_eq 100 dX10_dearestBooking_60 (by decide) (fun q => absurd q (by decide)) (fun _ => ?_)
          refine aw_iload_n dX10_dearestBooking_63 rfl ?_
          refine aw_iconst (v := -1) dX10_dearestBooking_64 (by decide) ?_
          refine aw_icmp_eq 98 dX10_dearestBooking_65 (by decide) (fun c65 => ?_) (fun c65 => ?_)
          · refine aw_iload_n dX10_dearestBooking_98 rfl ?_
            refine aw_istore_n (lo' := [_, _, some (.int _), _, _]) dX10_dearestBooking_99 (by decide) rfl ?_
            refine aw_iinc (lo' := [_, _, _, some (.int _), _]) dX10_dearestBooking_100 rfl (by decide) rfl ?_
            refine aw_goto 23 dX10_dearestBooking_103 (by decide) ?_
            refine aw_lo2 (lo' := [some (.ref 63), some (.int c), some (.int _), some (.int _), none]) ⟨rfl, rfl, rfl, rfl, trivial⟩ ?_
            exact ih (k + 1) _ _ (by omega) (by omega) (by rw [h3]; exact inc1 k) (by rw [h3, best_t (by simp only [decide_eq_true_eq]; exact ⟨n38, c48⟩) (Or.inl (by rw [← h2]; exact c65))])
          · obtain ⟨b0, hb0, hx2, -⟩ := (best_in (fun b => decide (actP (V M 20 b) ∧ V M 16 b = c)) (fun k b => decide ((V M 19 b).toInt64 * ((V M 18 k).toInt64 - (V M 17 k).toInt64) < (V M 19 k).toInt64 * ((V M 18 b).toInt64 - (V M 17 b).toInt64))) k).resolve_left (by rw [← h2]; exact c65)
            rw [← h2] at hx2
            refine aw_aload_n dX10_dearestBooking_68 rfl ?_
            refine aw_iload_n dX10_dearestBooking_69 rfl ?_
            refine aw_iconst (v := 3) dX10_dearestBooking_70 (by decide) ?_
            refine ap_callVi kv_X10_102 ko_X10_booking (c_X10_booking_3 hn h3 (by omega)) dX10_dearestBooking_71 e_63 (l_63 hn) rfl rfl rfl rfl (ble' rfl) (by decide) ?_
            refine aw_i2l dX10_dearestBooking_74 ?_
            refine aw_aload_n dX10_dearestBooking_75 rfl ?_
            refine aw_iload_n dX10_dearestBooking_76 rfl ?_
            refine ap_callVl kv_X10_209 ko_X10_nightsOf (c_X10_nightsOf hn hx2 (by omega)) dX10_dearestBooking_77 e_63 (l_63 hn) rfl rfl rfl rfl (ble' rfl) (by decide) ?_
            refine aw_lmul dX10_dearestBooking_80 ?_
            refine aw_aload_n dX10_dearestBooking_81 rfl ?_
            refine aw_iload_n dX10_dearestBooking_82 rfl ?_
            refine aw_iconst (v := 3) dX10_dearestBooking_83 (by decide) ?_
            refine ap_callVi kv_X10_102 ko_X10_booking (c_X10_booking_3 hn hx2 (by omega)) dX10_dearestBooking_84 e_63 (l_63 hn) rfl rfl rfl rfl (ble' rfl) (by decide) ?_
            refine aw_i2l dX10_dearestBooking_87 ?_
            refine aw_aload_n dX10_dearestBooking_88 rfl ?_
            refine aw_iload_n dX10_dearestBooking_89 rfl ?_
            refine ap_callVl kv_X10_209 ko_X10_nightsOf (c_X10_nightsOf hn h3 (by omega)) dX10_dearestBooking_90 e_63 (l_63 hn) rfl rfl rfl rfl (ble' rfl) (by decide) ?_
            refine aw_lmul dX10_dearestBooking_93 ?_
            refine aw_lcmp dX10_dearestBooking_94 ?_
            refine aw_if_le 100 dX10_dearestBooking_95 (by decide) (fun c95 => ?_) (fun c95 => ?_)
            · have n95 := Int32.not_lt.mpr c95
              refine aw_iinc (lo' := [_, _, _, some (.int _), _]) dX10_dearestBooking_100 rfl (by decide) rfl ?_
              refine aw_goto 23 dX10_dearestBooking_103 (by decide) ?_
              refine aw_lo2 (lo' := [some (.ref 63), some (.int c), some (.int _), some (.int _), none]) ⟨rfl, rfl, rfl, rfl, trivial⟩ ?_
              exact ih (k + 1) _ _ (by omega) (by omega) (by rw [h3]; exact inc1 k) (by rw [h2, best_w (h2.symm.trans hx2) (by omega) (by simpa using lg_le.mp c95)])
            · have n95 := Int32.not_le.mp c95
              refine aw_iload_n dX10_dearestBooking_98 rfl ?_
              refine aw_istore_n (lo' := [_, _, some (.int _), _, _]) dX10_dearestBooking_99 (by decide) rfl ?_
              refine aw_iinc (lo' := [_, _, _, some (.int _), _]) dX10_dearestBooking_100 rfl (by decide) rfl ?_
              refine aw_goto 23 dX10_dearestBooking_103 (by decide) ?_
              refine aw_lo2 (lo' := [some (.ref 63), some (.int c), some (.int _), some (.int _), none]) ⟨rfl, rfl, rfl, rfl, trivial⟩ ?_
              exact ih (k + 1) _ _ (by omega) (by omega) (by rw [h3]; exact inc1 k) (by rw [h3, best_b (by simp only [decide_eq_true_eq]; exact ⟨n38, c48⟩) (h2.symm.trans hx2) (by omega) (by simpa using lg_gt.mp (Int32.not_le.mp c95))])

def cr_dearestBooking (M : Nat → Nat → Int32) (c : Int32) : Nat := if ¬ (0 ≤ c ∧ c ≤ M 64 1 - 1) then 1 else 0
set_option maxRecDepth 100000 in
set_option maxHeartbeats 4000000 in
theorem c_X10_dearestBooking {G : AG} {M : Nat → Nat → Int32} {n : Nat} (hn : 72 ≤ n) {nc ns nz nb nr tt : Nat} (hI : CR M nc ns nz nb nr tt)  (c : Int32) : AMet tX10_dearestBooking yX10_dearestBooking [Cond.code yX10_dearestBooking cX10_dearestBooking 5 (some .int)] [.ref 63, .int c] (wld G M) n (PR (cr_dearestBooking M c) (bestN (fun b => decide (actP (V M 20 b) ∧ V M 16 b = c)) (fun k b => decide ((V M 19 b).toInt64 * ((V M 18 k).toInt64 - (V M 17 k).toInt64) < (V M 19 k).toInt64 * ((V M 18 b).toInt64 - (V M 17 b).toInt64))) (nbR M)) G M M n) := by
  refine am_of (lo := [_, _, _, _, _]) (by decide) rfl (fun q => by cases q) rfl rfl rfl ?_
  refine aw_aload_n dX10_dearestBooking_0 rfl ?_
  refine aw_iconst (v := 0) dX10_dearestBooking_1 (by decide) ?_
  refine aw_put fp_X10_36_m dX10_dearestBooking_2 e_63 (l_63 hn) (ble' rfl) (fun _ => ⟨rfl, rfl⟩) (hwf rfl) ?_
  obtain ⟨M', e64, e63, eRS, e4, eW⟩ : ∃ M', M 64 = M' 64 ∧ (∀ j, j ≠ 4 → M 63 j = M' 63 j) ∧ RS M M' ∧ M' 63 4 = 0 ∧ wld G (updM M 63 (upd (M 63) 4 0)) = wld G M' := ⟨_, rfl, fun j h => (if_neg h).symm, rs_1, rfl, rfl⟩
  refine aw_heq eW ?_
  rw [show cr_dearestBooking M c = cr_dearestBooking M' c from by unfold cr_dearestBooking; simp only [e64, V_eq e64, rlV_eq e64, avV_eq e64, frR_eq e64, onV_eq e64, mnV_eq e64, osV_eq e64, vaV_eq e64, nsR_eq e64, nbR_eq e64, nzR_eq e64, nrR_eq e64]]
  rw [show (bestN (fun b => decide (actP (V M 20 b) ∧ V M 16 b = c)) (fun k b => decide ((V M 19 b).toInt64 * ((V M 18 k).toInt64 - (V M 17 k).toInt64) < (V M 19 k).toInt64 * ((V M 18 b).toInt64 - (V M 17 b).toInt64))) (nbR M)) = (bestN (fun b => decide (actP (V M' 20 b) ∧ V M' 16 b = c)) (fun k b => decide ((V M' 19 b).toInt64 * ((V M' 18 k).toInt64 - (V M' 17 k).toInt64) < (V M' 19 k).toInt64 * ((V M' 18 b).toInt64 - (V M' 17 b).toInt64))) (nbR M')) from by simp only [e64, V_eq e64, rlV_eq e64, avV_eq e64, frR_eq e64, onV_eq e64, mnV_eq e64, osV_eq e64, vaV_eq e64, nsR_eq e64, nbR_eq e64, nzR_eq e64, nrR_eq e64]]
  have hI' : CR M' nc ns nz nb nr tt := by unfold CR at hI ⊢; rw [← e64]; exact hI
  clear hI eW
  obtain ⟨hc, hcl, hs, hsl, hz, hzl, hb, hbl, hr, hrl, ht, htl⟩ := id hI'
  have ens : nsR M' = ns := cl_of hs (by omega)
  have enb : nbR M' = nb := cl_of hb (by omega)
  have enz : nzR M' = nz := cl_of hz (by omega)
  have enr : nrR M' = nr := cl_of hr (by omega)
  refine aw_aload_n dX10_dearestBooking_5 rfl ?_
  refine aw_iload_n dX10_dearestBooking_6 rfl ?_
  refine ap_callVi kv_X10_51 ko_X10_isClass (c_X10_isClass hn _) dX10_dearestBooking_7 e_63 (l_63 hn) rfl rfl rfl rfl (ble' rfl) (by decide) ?_
  refine aw_if_ne 19 dX10_dearestBooking_10 (by decide) (fun c10 => ?_) (fun c10 => ?_)
  · have n10 := bI_nz.mp c10
    refine aw_iconst (v := -1) dX10_dearestBooking_19 (by decide) ?_
    refine aw_istore_n (lo' := [_, _, some (.int _), _, _]) dX10_dearestBooking_20 (by decide) rfl ?_
    refine aw_iconst (v := 0) dX10_dearestBooking_21 (by decide) ?_
    refine aw_istore_n (lo' := [_, _, _, some (.int _), _]) dX10_dearestBooking_22 (by decide) rfl ?_
    exact lp_X10_dearestBooking hn hb hbl (fun v q => pr_ok (by rw [cr_dearestBooking, if_neg (fun q => q n10)]) (by rw [enb]; exact q) eRS e4) (nb + 1) 0 _ _ (by omega) (by omega) rfl rfl
  · have n10 := bI_z.mp c10
    refine aw_aload_n dX10_dearestBooking_13 rfl ?_
    refine aw_iconst (v := 1) dX10_dearestBooking_14 (by decide) ?_
    refine ap_callVi kv_X10_43 ko_X10_fail (c_X10_fail hn _) dX10_dearestBooking_15 e_63 (l_63 hn) rfl rfl rfl rfl (ble' rfl) (by decide) ?_
    refine aw_iret rfl dX10_dearestBooking_18 (ble' rfl) (ble' rfl) ?_
    exact pr_no (k := 0) (by rw [cr_dearestBooking, if_pos n10]) (rs_tr eRS rs_1) rfl
