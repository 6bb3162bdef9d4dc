theorem on0_lv {M : Nat → Nat → Int32} {ns nb k : Nat} {c a m : Int32} (h : onV M ns nb k c a m = 0) : ¬ lvR (M 64 0) (V M 3 k) a m := by
  intro hl
  have h1 : onV M ns nb k c a m = 1 := by unfold onV obN; rw [if_pos hl]
  rw [h1] at h
  exact absurd h (by decide)
theorem prR_eq {A B : Nat → Nat → Int32} (h : A 64 = B 64) : prR A = prR B := by funext a b c; unfold prR; rw [V_eq h, nzR_eq h]
def cr_extend (M : Nat → Nat → Int32) (b m : Int32) : Nat := if ¬ (0 ≤ b ∧ b ≤ M 64 4 - 1) then 1 else if ¬ (1 ≤ m ∧ m ≤ 28) then 2 else if ¬ (actP (V M 20 b.toNatClampNeg) ∧ onV M (nsR M) (nbR M) (V M 16 b.toNatClampNeg).toNatClampNeg (V M 16 b.toNatClampNeg) (V M 18 b.toNatClampNeg) m = 0) then 3 else 0
set_option maxRecDepth 100000 in
set_option maxHeartbeats 4000000 in
theorem c_X10_extend {G : AG} {M : Nat → Nat → Int32} {n : Nat} (hn : 72 ≤ n) {nc ns nz nb nr tt : Nat} (hI : CR M nc ns nz nb nr tt) (hBC : ∀ k, k < nb → ∃ j, j < 4 ∧ V M 16 k = nI j) (b m : Int32) : AMet tX10_extend yX10_extend [Cond.code yX10_extend cX10_extend 6 (some .int)] [.ref 63, .int b, .int m] (wld G M) n (PR (cr_extend M b m) (prR M (V M 16 b.toNatClampNeg) (V M 18 b.toNatClampNeg) m) G M (w64 (w64 M (112 + 6 * b.toNatClampNeg + 2) ((V M 18 b.toNatClampNeg) + m)) (112 + 6 * b.toNatClampNeg + 3) (V M 19 b.toNatClampNeg + (prR M (V M 16 b.toNatClampNeg) (V M 18 b.toNatClampNeg) m))) n) := by
  refine am_of (lo := [_, _, _, _, _, _]) (by decide) rfl (fun q => by cases q) rfl rfl rfl ?_
  refine aw_aload_n dX10_extend_0 rfl ?_
  refine aw_iconst (v := 0) dX10_extend_1 (by decide) ?_
  refine aw_put fp_X10_36_m dX10_extend_2 e_63 (l_63 hn) (ble' rfl) (fun _ => ⟨rfl, rfl⟩) (hwf rfl) ?_
  obtain ⟨M', e64, e63, eRS, e4, eW⟩ : ∃ M', M 64 = M' 64 ∧ (∀ j, j ≠ 4 → M 63 j = M' 63 j) ∧ RS M M' ∧ M' 63 4 = 0 ∧ wld G (updM M 63 (upd (M 63) 4 0)) = wld G M' := ⟨_, rfl, fun j h => (if_neg h).symm, rs_1, rfl, rfl⟩
  refine aw_heq eW ?_
  rw [show cr_extend M b m = cr_extend M' b m from by unfold cr_extend; simp only [e64, V_eq e64, rlV_eq e64, avV_eq e64, frR_eq e64, onV_eq e64, mnV_eq e64, osV_eq e64, vaV_eq e64, prR_eq e64, nsR_eq e64, nbR_eq e64, nzR_eq e64, nrR_eq e64]]
  rw [show (prR M (V M 16 b.toNatClampNeg) (V M 18 b.toNatClampNeg) m) = (prR M' (V M' 16 b.toNatClampNeg) (V M' 18 b.toNatClampNeg) m) from by simp only [e64, V_eq e64, rlV_eq e64, avV_eq e64, frR_eq e64, onV_eq e64, mnV_eq e64, osV_eq e64, vaV_eq e64, prR_eq e64, nsR_eq e64, nbR_eq e64, nzR_eq e64, nrR_eq e64]]
  have hI' : CR M' nc ns nz nb nr tt := by unfold CR at hI ⊢; rw [← e64]; exact hI
  clear hI eW
  obtain ⟨hc, hcl, hs, hsl, hz, hzl, hb, hbl, hr, hrl, ht, htl⟩ := id hI'
  have ens : nsR M' = ns := cl_of hs (by omega)
  have enb : nbR M' = nb := cl_of hb (by omega)
  have enz : nzR M' = nz := cl_of hz (by omega)
  have enr : nrR M' = nr := cl_of hr (by omega)
  rw [V_eq e64] at hBC
  refine aw_aload_n dX10_extend_5 rfl ?_
  refine aw_iload_n dX10_extend_6 rfl ?_
  refine ap_callVi kv_X10_141 ko_X10_isBooking (c_X10_isBooking hn _) dX10_extend_7 e_63 (l_63 hn) rfl rfl rfl rfl (ble' rfl) (by decide) ?_
  refine aw_if_ne 19 dX10_extend_10 (by decide) (fun c10 => ?_) (fun c10 => ?_)
  · have n10 := bI_nz.mp c10
    obtain ⟨kb, hkb, hkB⟩ := cls_of hb (by omega) n10
    refine aw_iload_n dX10_extend_19 rfl ?_
    refine ap_callSi ks_X10_125 ko_X10_isStay (c_X10_isStay _) dX10_extend_20 rfl rfl (ble' rfl) (by decide) ?_
    refine aw_if_ne 32 dX10_extend_23 (by decide) (fun c23 => ?_) (fun c23 => ?_)
    · have n23 := bI_nz.mp c23
      obtain ⟨mm, hm1, hm9, hm⟩ := stay_of n23
      obtain ⟨kc, hkc4, hkC⟩ := hBC kb hkb
      refine aw_aload_n dX10_extend_32 rfl ?_
      refine aw_iload_n dX10_extend_33 rfl ?_
      refine aw_iconst (v := 0) dX10_extend_34 (by decide) ?_
      refine ap_callVi kv_X10_102 ko_X10_booking (c_X10_booking_0 hn hkB (by omega)) dX10_extend_35 e_63 (l_63 hn) rfl rfl rfl rfl (ble' rfl) (by decide) ?_
      refine aw_istore_n (lo' := [_, _, _, some (.int _), _, _]) dX10_extend_38 (by decide) rfl ?_
      refine aw_aload_n dX10_extend_39 rfl ?_
      refine aw_iload_n dX10_extend_40 rfl ?_
      refine aw_iconst (v := 2) dX10_extend_41 (by decide) ?_
      refine ap_callVi kv_X10_102 ko_X10_booking (c_X10_booking_2 hn hkB (by omega)) dX10_extend_42 e_63 (l_63 hn) rfl rfl rfl rfl (ble' rfl) (by decide) ?_
      refine aw_istore (lo' := [_, _, _, _, some (.int _), _]) dX10_extend_45 (by decide) rfl ?_
      refine aw_aload_n dX10_extend_47 rfl ?_
      refine aw_iload_n dX10_extend_48 rfl ?_
      refine ap_callVi kv_X10_105 ko_X10_isActive (c_X10_isActive hn hkB (by omega)) dX10_extend_49 e_63 (l_63 hn) rfl rfl rfl rfl (ble' rfl) (by decide) ?_
      refine aw_if_eq 66 dX10_extend_52 (by decide) (fun c52 => ?_) (fun c52 => ?_)
      · have n52 := bI_z.mp c52
        refine aw_aload_n dX10_extend_66 rfl ?_
        refine aw_iconst (v := 3) dX10_extend_67 (by decide) ?_
        refine ap_callVi kv_X10_43 ko_X10_fail (c_X10_fail hn _) dX10_extend_68 e_63 (l_63 hn) rfl rfl rfl rfl (ble' rfl) (by decide) ?_
        refine aw_iret rfl dX10_extend_71 (ble' rfl) (ble' rfl) ?_
        exact pr_no (k := 2) (by rw [cr_extend, if_neg (fun q => q n10), if_neg (fun q => q n23), if_pos (fun q => n52 (by rw [cl_of hkB (show kb < 2 ^ 31 by omega)] at q; exact q.1))]) (rs_tr eRS rs_1) rfl
      · have n52 := bI_nz.mp c52
        refine aw_aload_n dX10_extend_55 rfl ?_
        refine aw_iload_n dX10_extend_56 rfl ?_
        refine aw_iload dX10_extend_57 rfl ?_
        refine aw_iload_n dX10_extend_59 rfl ?_
        refine ap_callVi kv_X10_122 ko_X10_nightsObstacle (c_X10_nightsObstacle hn hs hsl hb hbl hkC hkc4 ht htl hm hm1 hm9) dX10_extend_60 e_63 (l_63 hn) rfl rfl rfl rfl (ble' rfl) (by decide) ?_
        refine aw_if_eq 72 dX10_extend_63 (by decide) (fun c63 => ?_) (fun c63 => ?_)
        · have hno := on0_lv c63
          obtain ⟨x, hx, hx1, hx2⟩ := lv_natR ht htl hm hm1 hm9 (fun q => hno (Or.inl q)) (fun q => hno (Or.inr (Or.inl q)))
          refine aw_aload_n dX10_extend_72 rfl ?_
          refine aw_iload_n dX10_extend_73 rfl ?_
          refine aw_iload dX10_extend_74 rfl ?_
          refine aw_iload dX10_extend_76 rfl ?_
          refine aw_iload_n dX10_extend_78 rfl ?_
          refine aw_iadd dX10_extend_79 ?_
          refine ap_callVi kv_X10_131 ko_X10_pricesOf (c_X10_pricesOf hn hz hzl _ (a := x) (b := x + mm) (by omega) (by omega) hx (by rw [hx, hm, nI_add])) dX10_extend_80 e_63 (l_63 hn) rfl rfl rfl rfl (ble' rfl) (by decide) ?_
          have ep : prR M' (V M' 16 kb) (V M' 18 kb) m = psum (fun d => sval (seasN (V M' 10) (V M' 11) (V M' 12) (V M' 16 kb) d nz) (V M' 14) 20) x (x + mm - x) := by unfold prR; rw [enz, cl_of hx (by omega), cl_of hm (by omega), show x + mm - x = mm by omega]
          rw [← ep]
          refine aw_istore (lo' := [_, _, _, _, _, some (.int _)]) dX10_extend_83 (by decide) rfl ?_
          refine aw_aload_n dX10_extend_85 rfl ?_
          refine aw_iload_n dX10_extend_86 rfl ?_
          refine aw_iconst (v := 2) dX10_extend_87 (by decide) ?_
          refine aw_iload dX10_extend_88 rfl ?_
          refine aw_iload_n dX10_extend_90 rfl ?_
          refine aw_iadd dX10_extend_91 ?_
          refine ap_callVv kv_X10_134 ko_X10_setBooking (c_X10_setBooking hn hkB (by omega) (show (2 : Int32) = nI 2 from rfl) (by decide) _) dX10_extend_92 e_63 (l_63 hn) rfl rfl rfl rfl (ble' rfl) (by decide) ?_
          refine aw_aload_n dX10_extend_95 rfl ?_
          refine aw_iload_n dX10_extend_96 rfl ?_
          refine aw_iconst (v := 3) dX10_extend_97 (by decide) ?_
          refine aw_aload_n dX10_extend_98 rfl ?_
          refine aw_iload_n dX10_extend_99 rfl ?_
          refine aw_iconst (v := 3) dX10_extend_100 (by decide) ?_
          refine ap_callVi kv_X10_102 ko_X10_booking (c_X10_booking_3 hn hkB (by omega)) dX10_extend_101 e_63 (l_63 hn) rfl rfl rfl rfl (ble' rfl) (by decide) ?_
          rw [vw_112_19 (by omega) (by decide), if_neg (by decide)]
          refine aw_iload dX10_extend_104 rfl ?_
          refine aw_iadd dX10_extend_106 ?_
          refine ap_callVv kv_X10_134 ko_X10_setBooking (c_X10_setBooking hn hkB (by omega) (show (3 : Int32) = nI 3 from rfl) (by decide) _) dX10_extend_107 e_63 (l_63 hn) rfl rfl rfl rfl (ble' rfl) (by decide) ?_
          refine aw_iload dX10_extend_110 rfl ?_
          refine aw_iret rfl dX10_extend_112 (ble' rfl) (ble' rfl) ?_
          exact pr_ok (by rw [cr_extend, if_neg (fun q => q n10), if_neg (fun q => q n23), if_neg (fun q => q (by rw [cl_of hkB (show kb < 2 ^ 31 by omega), ens, enb, cl_of hkC (show kc < 2 ^ 31 by omega)]; exact ⟨n52, c63⟩))]) (by rw [cl_of hkB (show kb < 2 ^ 31 by omega)]) (by simp only [prR_eq e64, V_eq e64, cl_of hkB (show kb < 2 ^ 31 by omega)]; exact rs_w (rs_w eRS)) e4
        · refine aw_aload_n dX10_extend_66 rfl ?_
          refine aw_iconst (v := 3) dX10_extend_67 (by decide) ?_
          refine ap_callVi kv_X10_43 ko_X10_fail (c_X10_fail hn _) dX10_extend_68 e_63 (l_63 hn) rfl rfl rfl rfl (ble' rfl) (by decide) ?_
          refine aw_iret rfl dX10_extend_71 (ble' rfl) (ble' rfl) ?_
          exact pr_no (k := 2) (by rw [cr_extend, if_neg (fun q => q n10), if_neg (fun q => q n23), if_pos (fun q => c63 (by rw [cl_of hkB (show kb < 2 ^ 31 by omega), ens, enb, cl_of hkC (show kc < 2 ^ 31 by omega)] at q; exact q.2))]) (rs_tr eRS rs_1) rfl
    · have n23 := bI_z.mp c23
      refine aw_aload_n dX10_extend_26 rfl ?_
      refine aw_iconst (v := 2) dX10_extend_27 (by decide) ?_
      refine ap_callVi kv_X10_43 ko_X10_fail (c_X10_fail hn _) dX10_extend_28 e_63 (l_63 hn) rfl rfl rfl rfl (ble' rfl) (by decide) ?_
      refine aw_iret rfl dX10_extend_31 (ble' rfl) (ble' rfl) ?_
      exact pr_no (k := 1) (by rw [cr_extend, if_neg (fun q => q n10), if_pos n23]) (rs_tr eRS rs_1) rfl
  · have n10 := bI_z.mp c10
    refine aw_aload_n dX10_extend_13 rfl ?_
    refine aw_iconst (v := 1) dX10_extend_14 (by decide) ?_
    refine ap_callVi kv_X10_43 ko_X10_fail (c_X10_fail hn _) dX10_extend_15 e_63 (l_63 hn) rfl rfl rfl rfl (ble' rfl) (by decide) ?_
    refine aw_iret rfl dX10_extend_18 (ble' rfl) (ble' rfl) ?_
    exact pr_no (k := 0) (by rw [cr_extend, if_pos n10]) (rs_tr eRS rs_1) rfl
