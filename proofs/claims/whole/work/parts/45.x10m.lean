/-- half of what the nights behind tomorrow cost; what comes back of it -/
def haR (M : Nat → Nat → Int32) (k : Nat) : Int32 := psum (fun d => sval (seasN (V M 10) (V M 11) (V M 12) (V M 16 k) d (nzR M)) (V M 14) 20) ((M 64 0).toNatClampNeg + 1) ((V M 18 k).toNatClampNeg - ((M 64 0).toNatClampNeg + 1)) / 2
def deR (M : Nat → Nat → Int32) (k : Nat) : Int32 := if V M 19 k < haR M k then V M 19 k else haR M k
theorem deR_eq {A B : Nat → Nat → Int32} (h : A 64 = B 64) : deR A = deR B := by funext a; unfold deR haR; rw [V_eq h, nzR_eq h, h]
def cr_departEarly (M : Nat → Nat → Int32) (b : Int32) : Nat := if ¬ (0 ≤ b ∧ b ≤ M 64 4 - 1) then 1 else if ¬ (V M 20 b.toNatClampNeg = 1) then 2 else 0
set_option maxRecDepth 100000 in
set_option maxHeartbeats 4000000 in
theorem c_X10_departEarly {G : AG} {M : Nat → Nat → Int32} {n : Nat} (hn : 72 ≤ n) {nc ns nz nb nr tt : Nat} (hI : CR M nc ns nz nb nr tt) (hBD : ∀ k, k < nb → ∃ j, j ≤ 1100 ∧ V M 18 k = nI j) (b : Int32) : AMet tX10_departEarly yX10_departEarly [Cond.code yX10_departEarly cX10_departEarly 5 (some .int)] [.ref 63, .int b] (wld G M) n (PR (cr_departEarly M b) (deR M b.toNatClampNeg) G M (w64 (w64 (w64 M (112 + 6 * b.toNatClampNeg + 2) (if V M 17 b.toNatClampNeg = M 64 0 then M 64 0 + 1 else M 64 0)) (112 + 6 * b.toNatClampNeg + 3) (V M 19 b.toNatClampNeg - (deR M b.toNatClampNeg))) (112 + 6 * b.toNatClampNeg + 4) 2) n) := by
  refine am_of (lo := [_, _, _, _, _]) (by decide) rfl (fun q => by cases q) rfl rfl rfl ?_
  refine aw_aload_n dX10_departEarly_0 rfl ?_
  refine aw_iconst (v := 0) dX10_departEarly_1 (by decide) ?_
  refine aw_put fp_X10_36_m dX10_departEarly_2 e_63 (l_63 hn) (ble' rfl) (fun _ => ⟨rfl, rfl⟩) (hwf rfl) ?_
  obtain ⟨M', e64, e63, eRS, e4, eW⟩ : ∃ M', M 64 = M' 64 ∧ (∀ j, j ≠ 4 → M 63 j = M' 63 j) ∧ RS M M' ∧ M' 63 4 = 0 ∧ wld G (updM M 63 (upd (M 63) 4 0)) = wld G M' := ⟨_, rfl, fun j h => (if_neg h).symm, rs_1, rfl, rfl⟩
  refine aw_heq eW ?_
  rw [show cr_departEarly M b = cr_departEarly M' b from by unfold cr_departEarly; simp only [e64, V_eq e64, rlV_eq e64, avV_eq e64, frR_eq e64, onV_eq e64, mnV_eq e64, osV_eq e64, vaV_eq e64, deR_eq e64, nsR_eq e64, nbR_eq e64, nzR_eq e64, nrR_eq e64]]
  rw [show (deR M b.toNatClampNeg) = (deR M' b.toNatClampNeg) from by simp only [e64, V_eq e64, rlV_eq e64, avV_eq e64, frR_eq e64, onV_eq e64, mnV_eq e64, osV_eq e64, vaV_eq e64, deR_eq e64, nsR_eq e64, nbR_eq e64, nzR_eq e64, nrR_eq e64]]
  have hI' : CR M' nc ns nz nb nr tt := by unfold CR at hI ⊢; rw [← e64]; exact hI
  clear hI eW
  obtain ⟨hc, hcl, hs, hsl, hz, hzl, hb, hbl, hr, hrl, ht, htl⟩ := id hI'
  have ens : nsR M' = ns := cl_of hs (by omega)
  have enb : nbR M' = nb := cl_of hb (by omega)
  have enz : nzR M' = nz := cl_of hz (by omega)
  have enr : nrR M' = nr := cl_of hr (by omega)
  rw [V_eq e64] at hBD
  refine aw_aload_n dX10_departEarly_5 rfl ?_
  refine aw_iload_n dX10_departEarly_6 rfl ?_
  refine ap_callVi kv_X10_141 ko_X10_isBooking (c_X10_isBooking hn _) dX10_departEarly_7 e_63 (l_63 hn) rfl rfl rfl rfl (ble' rfl) (by decide) ?_
  refine aw_if_ne 19 dX10_departEarly_10 (by decide) (fun c10 => ?_) (fun c10 => ?_)
  · have n10 := bI_nz.mp c10
    obtain ⟨kb, hkb, hkB⟩ := cls_of hb (by omega) n10
    refine aw_aload_n dX10_departEarly_19 rfl ?_
    refine aw_iload_n dX10_departEarly_20 rfl ?_
    refine aw_iconst (v := 4) dX10_departEarly_21 (by decide) ?_
    refine ap_callVi kv_X10_102 ko_X10_booking (c_X10_booking_4 hn hkB (by omega)) dX10_departEarly_22 e_63 (l_63 hn) rfl rfl rfl rfl (ble' rfl) (by decide) ?_
    refine aw_iconst (v := 1) dX10_departEarly_25 (by decide) ?_
    refine aw_icmp_eq 35 dX10_departEarly_26 (by decide) (fun c26 => ?_) (fun c26 => ?_)
    · obtain ⟨ke, hke, hkE⟩ := hBD kb hkb
      refine aw_aload_n dX10_departEarly_35 rfl ?_
      refine aw_get fl_X10_7 dX10_departEarly_36 e_63 (l_63 hn) rfl ?_
      refine aw_iconst (v := 0) dX10_departEarly_39 (by decide) ?_
      refine aw_ialdk dX10_departEarly_40 e_64 (l_64 hn) (show (0 : Int32) = nI 0 from rfl) (by decide) rfl ?_
      refine aw_istore_n (lo' := [_, _, some (.int _), _, _]) dX10_departEarly_41 (by decide) rfl ?_
      refine aw_aload_n dX10_departEarly_42 rfl ?_
      refine aw_aload_n dX10_departEarly_43 rfl ?_
      refine aw_iload_n dX10_departEarly_44 rfl ?_
      refine aw_iconst (v := 0) dX10_departEarly_45 (by decide) ?_
      refine ap_callVi kv_X10_102 ko_X10_booking (c_X10_booking_0 hn hkB (by omega)) dX10_departEarly_46 e_63 (l_63 hn) rfl rfl rfl rfl (ble' rfl) (by decide) ?_
      refine aw_iload_n dX10_departEarly_49 rfl ?_
      refine aw_iconst (v := 1) dX10_departEarly_50 (by decide) ?_
      refine aw_iadd dX10_departEarly_51 ?_
      refine aw_aload_n dX10_departEarly_52 rfl ?_
      refine aw_iload_n dX10_departEarly_53 rfl ?_
      refine aw_iconst (v := 2) dX10_departEarly_54 (by decide) ?_
      refine ap_callVi kv_X10_102 ko_X10_booking (c_X10_booking_2 hn hkB (by omega)) dX10_departEarly_55 e_63 (l_63 hn) rfl rfl rfl rfl (ble' rfl) (by decide) ?_
      refine ap_callVi kv_X10_131 ko_X10_pricesOf (c_X10_pricesOf hn hz hzl _ (a := tt + 1) (b := ke) (by omega) (by omega) (show M' 64 0 + 1 = nI (tt + 1) by rw [ht]; exact nI_1 tt) hkE) dX10_departEarly_58 e_63 (l_63 hn) rfl rfl rfl rfl (ble' rfl) (by decide) ?_
      refine aw_iconst (v := 2) dX10_departEarly_61 (by decide) ?_
      refine aw_idiv dX10_departEarly_62 (by decide) ?_
      have eh : haR M' kb = psum (fun d => sval (seasN (V M' 10) (V M' 11) (V M' 12) (V M' 16 kb) d nz) (V M' 14) 20) (tt + 1) (ke - (tt + 1)) / 2 := by unfold haR; rw [enz, cl_of hkE (by omega), cl_of ht (by omega)]
      rw [← eh]
      refine aw_istore_n (lo' := [_, _, _, some (.int _), _]) dX10_departEarly_63 (by decide) rfl ?_
      refine aw_iload_n dX10_departEarly_64 rfl ?_
      refine aw_aload_n dX10_departEarly_65 rfl ?_
      refine aw_iload_n dX10_departEarly_66 rfl ?_
      refine aw_iconst (v := 3) dX10_departEarly_67 (by decide) ?_
      refine ap_callVi kv_X10_102 ko_X10_booking (c_X10_booking_3 hn hkB (by omega)) dX10_departEarly_68 e_63 (l_63 hn) rfl rfl rfl rfl (ble' rfl) (by decide) ?_
      refine aw_mmin km_X10_97 dX10_departEarly_71 ⟨by decide, ble' rfl, by decide, by decide⟩ ?_
      have ed : (if V M' 19 kb < haR M' kb then V M' 19 kb else haR M' kb) = deR M' kb := rfl
      rw [ed]
      refine aw_istore (lo' := [_, _, _, _, some (.int _)]) dX10_departEarly_74 (by decide) rfl ?_
      refine aw_aload_n dX10_departEarly_76 rfl ?_
      refine aw_iload_n dX10_departEarly_77 rfl ?_
      refine aw_iconst (v := 2) dX10_departEarly_78 (by decide) ?_
      refine aw_aload_n dX10_departEarly_79 rfl ?_
      refine aw_iload_n dX10_departEarly_80 rfl ?_
      refine aw_iconst (v := 1) dX10_departEarly_81 (by decide) ?_
      refine ap_callVi kv_X10_102 ko_X10_booking (c_X10_booking_1 hn hkB (by omega)) dX10_departEarly_82 e_63 (l_63 hn) rfl rfl rfl rfl (ble' rfl) (by decide) ?_
      refine aw_iload_n dX10_departEarly_85 rfl ?_
      refine aw_icmp_ne 95 dX10_departEarly_86 (by decide) (fun c86 => ?_) (fun c86 => ?_)
      · refine aw_iload_n dX10_departEarly_95 rfl ?_
        refine ap_callVv kv_X10_134 ko_X10_setBooking (c_X10_setBooking hn hkB (by omega) (show (2 : Int32) = nI 2 from rfl) (by decide) _) dX10_departEarly_96 e_63 (l_63 hn) rfl rfl rfl rfl (ble' rfl) (by decide) ?_
        refine aw_aload_n dX10_departEarly_99 rfl ?_
        refine aw_iload_n dX10_departEarly_100 rfl ?_
        refine aw_iconst (v := 3) dX10_departEarly_101 (by decide) ?_
        refine aw_aload_n dX10_departEarly_102 rfl ?_
        refine aw_iload_n dX10_departEarly_103 rfl ?_
        refine aw_iconst (v := 3) dX10_departEarly_104 (by decide) ?_
        refine ap_callVi kv_X10_102 ko_X10_booking (c_X10_booking_3 hn hkB (by omega)) dX10_departEarly_105 e_63 (l_63 hn) rfl rfl rfl rfl (ble' rfl) (by decide) ?_
        rw [vw_112_19 (by omega) (by decide), if_neg (show ¬ (2 : Nat) = 3 by decide)]
        refine aw_iload dX10_departEarly_108 rfl ?_
        refine aw_isub dX10_departEarly_110 ?_
        refine ap_callVv kv_X10_134 ko_X10_setBooking (c_X10_setBooking hn hkB (by omega) (show (3 : Int32) = nI 3 from rfl) (by decide) _) dX10_departEarly_111 e_63 (l_63 hn) rfl rfl rfl rfl (ble' rfl) (by decide) ?_
        refine aw_aload_n dX10_departEarly_114 rfl ?_
        refine aw_iload_n dX10_departEarly_115 rfl ?_
        refine aw_iconst (v := 4) dX10_departEarly_116 (by decide) ?_
        refine aw_iconst (v := 2) dX10_departEarly_117 (by decide) ?_
        refine ap_callVv kv_X10_134 ko_X10_setBooking (c_X10_setBooking hn hkB (by omega) (show (4 : Int32) = nI 4 from rfl) (by decide) _) dX10_departEarly_118 e_63 (l_63 hn) rfl rfl rfl rfl (ble' rfl) (by decide) ?_
        refine aw_iload dX10_departEarly_121 rfl ?_
        refine aw_iret rfl dX10_departEarly_123 (ble' rfl) (ble' rfl) ?_
        exact pr_ok (by rw [cr_departEarly, if_neg (fun q => q n10), if_neg (fun q => q (by rw [cl_of hkB (show kb < 2 ^ 31 by omega)]; exact c26))]) (by rw [cl_of hkB (show kb < 2 ^ 31 by omega)]) (by simp only [deR_eq e64, V_eq e64, e64, cl_of hkB (show kb < 2 ^ 31 by omega)]; rw [if_neg c86]; exact rs_w (rs_w (rs_w eRS))) e4
      · refine aw_iload_n dX10_departEarly_89 rfl ?_
        refine aw_iconst (v := 1) dX10_departEarly_90 (by decide) ?_
        refine aw_iadd dX10_departEarly_91 ?_
        refine aw_goto 96 dX10_departEarly_92 (by decide) ?_
        refine ap_callVv kv_X10_134 ko_X10_setBooking (c_X10_setBooking hn hkB (by omega) (show (2 : Int32) = nI 2 from rfl) (by decide) _) dX10_departEarly_96 e_63 (l_63 hn) rfl rfl rfl rfl (ble' rfl) (by decide) ?_
        refine aw_aload_n dX10_departEarly_99 rfl ?_
        refine aw_iload_n dX10_departEarly_100 rfl ?_
        refine aw_iconst (v := 3) dX10_departEarly_101 (by decide) ?_
        refine aw_aload_n dX10_departEarly_102 rfl ?_
        refine aw_iload_n dX10_departEarly_103 rfl ?_
        refine aw_iconst (v := 3) dX10_departEarly_104 (by decide) ?_
        refine ap_callVi kv_X10_102 ko_X10_booking (c_X10_booking_3 hn hkB (by omega)) dX10_departEarly_105 e_63 (l_63 hn) rfl rfl rfl rfl (ble' rfl) (by decide) ?_
        rw [vw_112_19 (by omega) (by decide), if_neg (show ¬ (2 : Nat) = 3 by decide)]
        refine aw_iload dX10_departEarly_108 rfl ?_
        refine aw_isub dX10_departEarly_110 ?_
        refine ap_callVv kv_X10_134 ko_X10_setBooking (c_X10_setBooking hn hkB (by omega) (show (3 : Int32) = nI 3 from rfl) (by decide) _) dX10_departEarly_111 e_63 (l_63 hn) rfl rfl rfl rfl (ble' rfl) (by decide) ?_
        refine aw_aload_n dX10_departEarly_114 rfl ?_
        refine aw_iload_n dX10_departEarly_115 rfl ?_
        refine aw_iconst (v := 4) dX10_departEarly_116 (by decide) ?_
        refine aw_iconst (v := 2) dX10_departEarly_117 (by decide) ?_
        refine ap_callVv kv_X10_134 ko_X10_setBooking (c_X10_setBooking hn hkB (by omega) (show (4 : Int32) = nI 4 from rfl) (by decide) _) dX10_departEarly_118 e_63 (l_63 hn) rfl rfl rfl rfl (ble' rfl) (by decide) ?_
        refine aw_iload dX10_departEarly_121 rfl ?_
        refine aw_iret rfl dX10_departEarly_123 (ble' rfl) (ble' rfl) ?_
        exact pr_ok (by rw [cr_departEarly, if_neg (fun q => q n10), if_neg (fun q => q (by rw [cl_of hkB (show kb < 2 ^ 31 by omega)]; exact c26))]) (by rw [cl_of hkB (show kb < 2 ^ 31 by omega)]) (by simp only [deR_eq e64, V_eq e64, e64, cl_of hkB (show kb < 2 ^ 31 by omega)]; rw [if_pos c86]; exact rs_w (rs_w (rs_w eRS))) e4
    · refine aw_aload_n dX10_departEarly_29 rfl ?_
      refine aw_iconst (v := 2) dX10_departEarly_30 (by decide) ?_
      refine ap_callVi kv_X10_43 ko_X10_fail (c_X10_fail hn _) dX10_departEarly_31 e_63 (l_63 hn) rfl rfl rfl rfl (ble' rfl) (by decide) ?_
      refine aw_iret rfl dX10_departEarly_34 (ble' rfl) (ble' rfl) ?_
      exact pr_no (k := 1) (by rw [cr_departEarly, if_neg (fun q => q n10), if_pos (fun q => c26 (by rw [cl_of hkB (show kb < 2 ^ 31 by omega)] at q; exact q))]) (rs_tr eRS rs_1) rfl
  · have n10 := bI_z.mp c10
    refine aw_aload_n dX10_departEarly_13 rfl ?_
    refine aw_iconst (v := 1) dX10_departEarly_14 (by decide) ?_
    refine ap_callVi kv_X10_43 ko_X10_fail (c_X10_fail hn _) dX10_departEarly_15 e_63 (l_63 hn) rfl rfl rfl rfl (ble' rfl) (by decide) ?_
    refine aw_iret rfl dX10_departEarly_18 (ble' rfl) (ble' rfl) ?_
    exact pr_no (k := 0) (by rw [cr_departEarly, if_pos n10]) (rs_tr eRS rs_1) rfl
