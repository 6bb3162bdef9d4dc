theorem os0_lv {M : Nat → Nat → Int32} {ns nb nz k : Nat} {c a m : Int32} (h : osV M ns nb nz k c a m = 0) : ¬ lvR (M 64 0) (V M 3 k) a m := by
  intro hl
  have h1 : onV M ns nb k c a m = 1 := by unfold onV obN; rw [if_pos hl]
  unfold osV obS at h
  rw [h1, if_pos (by decide)] at h
  exact absurd h (by decide)
def prR (M : Nat → Nat → Int32) (c a m : Int32) : Int32 := psum (fun d => sval (seasN (V M 10) (V M 11) (V M 12) c d (nzR M)) (V M 14) 20) a.toNatClampNeg m.toNatClampNeg
def cr_book (M : Nat → Nat → Int32) (c a m : Int32) : Nat := if ¬ (0 ≤ c ∧ c ≤ M 64 1 - 1) then 1 else if ¬ (1 ≤ m ∧ m ≤ 28) then 2 else if ¬ (¬ M 64 4 = 60 ∧ osV M (nsR M) (nbR M) (nzR M) c.toNatClampNeg c a m = 0) then 3 else 0
set_option maxRecDepth 100000 in
set_option maxHeartbeats 4000000 in
theorem c_X10_book {G : AG} {M : Nat → Nat → Int32} {n : Nat} (hn : 72 ≤ n) {nc ns nz nb nr tt : Nat} (hI : CR M nc ns nz nb nr tt)  (c a m : Int32) : AMet tX10_book yX10_book [Cond.code yX10_book cX10_book 4 (some .int)] [.ref 63, .int c, .int a, .int m] (wld G M) n (PR (cr_book M c a m) (nI nb) G M (appendBookingM M nb c a m (prR M c a m)) n) := by
  refine am_of (lo := [_, _, _, _]) (by decide) rfl (fun q => by cases q) rfl rfl rfl ?_
  refine aw_aload_n dX10_book_0 rfl ?_
  refine aw_iconst (v := 0) dX10_book_1 (by decide) ?_
  refine aw_put fp_X10_36_m dX10_book_2 e_63 (l_63 hn) (ble' rfl) (fun _ => ⟨rfl, rfl⟩) (hwf rfl) ?_
  obtain ⟨M', e64, e63, eRS, e4, eW⟩ : ∃ M', M 64 = M' 64 ∧ (∀ j, j ≠ 4 → M 63 j = M' 63 j) ∧ RS M M' ∧ M' 63 4 = 0 ∧ wld G (updM M 63 (upd (M 63) 4 0)) = wld G M' := ⟨_, rfl, fun j h => (if_neg h).symm, rs_1, rfl, rfl⟩
  refine aw_heq eW ?_
  rw [show cr_book M c a m = cr_book M' c a m from by unfold cr_book; simp only [e64, V_eq e64, rlV_eq e64, avV_eq e64, frR_eq e64, onV_eq e64, mnV_eq e64, osV_eq e64, vaV_eq e64, nsR_eq e64, nbR_eq e64, nzR_eq e64, nrR_eq e64]]
  have hI' : CR M' nc ns nz nb nr tt := by unfold CR at hI ⊢; rw [← e64]; exact hI
  clear hI eW
  obtain ⟨hc, hcl, hs, hsl, hz, hzl, hb, hbl, hr, hrl, ht, htl⟩ := id hI'
  have ens : nsR M' = ns := cl_of hs (by omega)
  have enb : nbR M' = nb := cl_of hb (by omega)
  have enz : nzR M' = nz := cl_of hz (by omega)
  have enr : nrR M' = nr := cl_of hr (by omega)
  refine aw_aload_n dX10_book_5 rfl ?_
  refine aw_iload_n dX10_book_6 rfl ?_
  refine ap_callVi kv_X10_51 ko_X10_isClass (c_X10_isClass hn _) dX10_book_7 e_63 (l_63 hn) rfl rfl rfl rfl (ble' rfl) (by decide) ?_
  refine aw_if_ne 19 dX10_book_10 (by decide) (fun c10 => ?_) (fun c10 => ?_)
  · have n10 := bI_nz.mp c10
    obtain ⟨kc, hkc, hk⟩ := cls_of hc (by omega) n10
    refine aw_iload_n dX10_book_19 rfl ?_
    refine ap_callSi ks_X10_125 ko_X10_isStay (c_X10_isStay _) dX10_book_20 rfl rfl (ble' rfl) (by decide) ?_
    refine aw_if_ne 32 dX10_book_23 (by decide) (fun c23 => ?_) (fun c23 => ?_)
    · have n23 := bI_nz.mp c23
      obtain ⟨mm, hm1, hm9, hm⟩ := stay_of n23
      refine aw_aload_n dX10_book_32 rfl ?_
      refine aw_get fl_X10_7 dX10_book_33 e_63 (l_63 hn) rfl ?_
      refine aw_iconst (v := 4) dX10_book_36 (by decide) ?_
      refine aw_ialdk dX10_book_37 e_64 (l_64 hn) (show (4 : Int32) = nI 4 from rfl) (by decide) rfl ?_
      refine aw_bipush (v := 60) dX10_book_38 (by decide) ?_
      refine aw_icmp_eq 53 dX10_book_40 (by decide) (fun c40 => ?_) (fun c40 => ?_)
      · refine aw_aload_n dX10_book_53 rfl ?_
        refine aw_iconst (v := 3) dX10_book_54 (by decide) ?_
        refine ap_callVi kv_X10_43 ko_X10_fail (c_X10_fail hn _) dX10_book_55 e_63 (l_63 hn) rfl rfl rfl rfl (ble' rfl) (by decide) ?_
        refine aw_iret rfl dX10_book_58 (ble' rfl) (ble' rfl) ?_
        exact pr_no (k := 2) (by rw [cr_book, if_neg (fun q => q n10), if_neg (fun q => q n23), if_pos (fun q => q.1 c40)]) (rs_tr eRS rs_1) rfl
      · refine aw_aload_n dX10_book_43 rfl ?_
        refine aw_iload_n dX10_book_44 rfl ?_
        refine aw_iload_n dX10_book_45 rfl ?_
        refine aw_iload_n dX10_book_46 rfl ?_
        refine ap_callVi kv_X10_128 ko_X10_obstacleOf (c_X10_obstacleOf hn hs hsl hb hbl hk (by omega) hz hzl ht htl hm hm1 hm9) dX10_book_47 e_63 (l_63 hn) rfl rfl rfl rfl (ble' rfl) (by decide) ?_
        refine aw_if_eq 59 dX10_book_50 (by decide) (fun c50 => ?_) (fun c50 => ?_)
        · have hno := os0_lv c50
          obtain ⟨x, hx, hx1, hx2⟩ := lv_natR ht htl hm hm1 hm9 (fun q => hno (Or.inl q)) (fun q => hno (Or.inr (Or.inl q)))
          have hb60 : nb < 60 := by rcases Nat.lt_or_ge nb 60 with q | q; exact q; exact absurd (by rw [hb, show nb = 60 by omega]; rfl) c40
          have ep : prR M c a m = psum (fun d => sval (seasN (V M' 10) (V M' 11) (V M' 12) c d nz) (V M' 14) 20) x mm := by unfold prR; rw [nzR_eq e64, V_eq e64, enz, cl_of hx (by omega), cl_of hm (by omega)]
          refine aw_aload_n dX10_book_59 rfl ?_
          refine aw_iload_n dX10_book_60 rfl ?_
          refine aw_iload_n dX10_book_61 rfl ?_
          refine aw_iload_n dX10_book_62 rfl ?_
          refine ap_callVi kv_X10_138 ko_X10_appendBooking (c_X10_appendBooking hn hb hb60 hz hzl hx hm (by omega)) dX10_book_63 e_63 (l_63 hn) rfl rfl rfl rfl (ble' rfl) (by decide) ?_
          refine aw_iret rfl dX10_book_66 (ble' rfl) (ble' rfl) ?_
          exact pr_ok (by rw [cr_book, if_neg (fun q => q n10), if_neg (fun q => q n23), if_neg (fun q => q ⟨c40, (by rw [ens, enb, enz, cl_of hk (by omega)]; exact c50)⟩)]) (rfl) (by rw [ep]; exact rs_w (rs_w (rs_w (rs_w (rs_w (rs_w (rs_w eRS))))))) e4
        · refine aw_aload_n dX10_book_53 rfl ?_
          refine aw_iconst (v := 3) dX10_book_54 (by decide) ?_
          refine ap_callVi kv_X10_43 ko_X10_fail (c_X10_fail hn _) dX10_book_55 e_63 (l_63 hn) rfl rfl rfl rfl (ble' rfl) (by decide) ?_
          refine aw_iret rfl dX10_book_58 (ble' rfl) (ble' rfl) ?_
          exact pr_no (k := 2) (by rw [cr_book, if_neg (fun q => q n10), if_neg (fun q => q n23), if_pos (fun q => c50 (by have := q.2; rw [ens, enb, enz, cl_of hk (by omega)] at this; exact this))]) (rs_tr eRS rs_1) rfl
    · have n23 := bI_z.mp c23
      refine aw_aload_n dX10_book_26 rfl ?_
      refine aw_iconst (v := 2) dX10_book_27 (by decide) ?_
      refine ap_callVi kv_X10_43 ko_X10_fail (c_X10_fail hn _) dX10_book_28 e_63 (l_63 hn) rfl rfl rfl rfl (ble' rfl) (by decide) ?_
      refine aw_iret rfl dX10_book_31 (ble' rfl) (ble' rfl) ?_
      exact pr_no (k := 1) (by rw [cr_book, if_neg (fun q => q n10), if_pos n23]) (rs_tr eRS rs_1) rfl
  · have n10 := bI_z.mp c10
    refine aw_aload_n dX10_book_13 rfl ?_
    refine aw_iconst (v := 1) dX10_book_14 (by decide) ?_
    refine ap_callVi kv_X10_43 ko_X10_fail (c_X10_fail hn _) dX10_book_15 e_63 (l_63 hn) rfl rfl rfl rfl (ble' rfl) (by decide) ?_
    refine aw_iret rfl dX10_book_18 (ble' rfl) (ble' rfl) ?_
    exact pr_no (k := 0) (by rw [cr_book, if_pos n10]) (rs_tr eRS rs_1) rfl

def cr_cancel (M : Nat → Nat → Int32) (b : Int32) : Nat := if ¬ (0 ≤ b ∧ b ≤ M 64 4 - 1) then 1 else if ¬ (V M 20 b.toNatClampNeg = 0) then 2 else 0
set_option maxRecDepth 100000 in
set_option maxHeartbeats 4000000 in
theorem c_X10_cancel {G : AG} {M : Nat → Nat → Int32} {n : Nat} (hn : 72 ≤ n) {nc ns nz nb nr tt : Nat} (hI : CR M nc ns nz nb nr tt)  (b : Int32) : AMet tX10_cancel yX10_cancel [Cond.code yX10_cancel cX10_cancel 5 (some .int)] [.ref 63, .int b] (wld G M) n (PR (cr_cancel M b) (rcF (V M 17 b.toNatClampNeg - M 64 0) (V M 19 b.toNatClampNeg)) G M (w64 (w64 M (112 + 6 * b.toNatClampNeg + 3) (V M 19 b.toNatClampNeg - (rcF (V M 17 b.toNatClampNeg - M 64 0) (V M 19 b.toNatClampNeg)))) (112 + 6 * b.toNatClampNeg + 4) 3) n) := by
  refine am_of (lo := [_, _, _, _, _]) (by decide) rfl (fun q => by cases q) rfl rfl rfl ?_
  refine aw_aload_n dX10_cancel_0 rfl ?_
  refine aw_iconst (v := 0) dX10_cancel_1 (by decide) ?_
  refine aw_put fp_X10_36_m dX10_cancel_2 e_63 (l_63 hn) (ble' rfl) (fun _ => ⟨rfl, rfl⟩) (hwf rfl) ?_
  obtain ⟨M', e64, e63, eRS, e4, eW⟩ : ∃ M', M 64 = M' 64 ∧ (∀ j, j ≠ 4 → M 63 j = M' 63 j) ∧ RS M M' ∧ M' 63 4 = 0 ∧ wld G (updM M 63 (upd (M 63) 4 0)) = wld G M' := ⟨_, rfl, fun j h => (if_neg h).symm, rs_1, rfl, rfl⟩
  refine aw_heq eW ?_
  rw [show cr_cancel M b = cr_cancel M' b from by unfold cr_cancel; simp only [e64, V_eq e64, rlV_eq e64, avV_eq e64, frR_eq e64, onV_eq e64, mnV_eq e64, osV_eq e64, vaV_eq e64, nsR_eq e64, nbR_eq e64, nzR_eq e64, nrR_eq e64]]
  rw [show (rcF (V M 17 b.toNatClampNeg - M 64 0) (V M 19 b.toNatClampNeg)) = (rcF (V M' 17 b.toNatClampNeg - M' 64 0) (V M' 19 b.toNatClampNeg)) from by simp only [e64, V_eq e64, rlV_eq e64, avV_eq e64, frR_eq e64, onV_eq e64, mnV_eq e64, osV_eq e64, vaV_eq e64, nsR_eq e64, nbR_eq e64, nzR_eq e64, nrR_eq e64]]
  have hI' : CR M' nc ns nz nb nr tt := by unfold CR at hI ⊢; rw [← e64]; exact hI
  clear hI eW
  obtain ⟨hc, hcl, hs, hsl, hz, hzl, hb, hbl, hr, hrl, ht, htl⟩ := id hI'
  have ens : nsR M' = ns := cl_of hs (by omega)
  have enb : nbR M' = nb := cl_of hb (by omega)
  have enz : nzR M' = nz := cl_of hz (by omega)
  have enr : nrR M' = nr := cl_of hr (by omega)
  refine aw_aload_n dX10_cancel_5 rfl ?_
  refine aw_iload_n dX10_cancel_6 rfl ?_
  refine ap_callVi kv_X10_141 ko_X10_isBooking (c_X10_isBooking hn _) dX10_cancel_7 e_63 (l_63 hn) rfl rfl rfl rfl (ble' rfl) (by decide) ?_
  refine aw_if_ne 19 dX10_cancel_10 (by decide) (fun c10 => ?_) (fun c10 => ?_)
  · have n10 := bI_nz.mp c10
    obtain ⟨kb, hkb, hkB⟩ := cls_of hb (by omega) n10
    refine aw_aload_n dX10_cancel_19 rfl ?_
    refine aw_iload_n dX10_cancel_20 rfl ?_
    refine aw_iconst (v := 4) dX10_cancel_21 (by decide) ?_
    refine ap_callVi kv_X10_102 ko_X10_booking (c_X10_booking_4 hn hkB (by omega)) dX10_cancel_22 e_63 (l_63 hn) rfl rfl rfl rfl (ble' rfl) (by decide) ?_
    refine aw_if_eq 34 dX10_cancel_25 (by decide) (fun c25 => ?_) (fun c25 => ?_)
    · refine aw_aload_n dX10_cancel_34 rfl ?_
      refine aw_iload_n dX10_cancel_35 rfl ?_
      refine aw_iconst (v := 1) dX10_cancel_36 (by decide) ?_
      refine ap_callVi kv_X10_102 ko_X10_booking (c_X10_booking_1 hn hkB (by omega)) dX10_cancel_37 e_63 (l_63 hn) rfl rfl rfl rfl (ble' rfl) (by decide) ?_
      refine aw_aload_n dX10_cancel_40 rfl ?_
      refine aw_get fl_X10_7 dX10_cancel_41 e_63 (l_63 hn) rfl ?_
      refine aw_iconst (v := 0) dX10_cancel_44 (by decide) ?_
      refine aw_ialdk dX10_cancel_45 e_64 (l_64 hn) (show (0 : Int32) = nI 0 from rfl) (by decide) rfl ?_
      refine aw_isub dX10_cancel_46 ?_
      refine aw_istore_n (lo' := [_, _, some (.int _), _, _]) dX10_cancel_47 (by decide) rfl ?_
      refine aw_aload_n dX10_cancel_48 rfl ?_
      refine aw_iload_n dX10_cancel_49 rfl ?_
      refine aw_iconst (v := 3) dX10_cancel_50 (by decide) ?_
      refine ap_callVi kv_X10_102 ko_X10_booking (c_X10_booking_3 hn hkB (by omega)) dX10_cancel_51 e_63 (l_63 hn) rfl rfl rfl rfl (ble' rfl) (by decide) ?_
      refine aw_istore_n (lo' := [_, _, _, some (.int _), _]) dX10_cancel_54 (by decide) rfl ?_
      refine aw_iload_n dX10_cancel_55 rfl ?_
      refine aw_bipush (v := 14) dX10_cancel_56 (by decide) ?_
      refine aw_icmp_lt 65 dX10_cancel_58 (by decide) (fun c58 => ?_) (fun c58 => ?_)
      · have n58 := Int32.not_le.mpr c58
        refine aw_iload_n dX10_cancel_65 rfl ?_
        refine aw_iconst (v := 3) dX10_cancel_66 (by decide) ?_
        refine aw_icmp_lt 76 dX10_cancel_67 (by decide) (fun c67 => ?_) (fun c67 => ?_)
        · have n67 := Int32.not_le.mpr c67
          refine aw_iconst (v := 0) dX10_cancel_76 (by decide) ?_
          refine aw_istore (lo' := [_, _, _, _, some (.int _)]) dX10_cancel_77 (by decide) rfl ?_
          refine aw_aload_n dX10_cancel_79 rfl ?_
          refine aw_iload_n dX10_cancel_80 rfl ?_
          refine aw_iconst (v := 3) dX10_cancel_81 (by decide) ?_
          refine aw_iload_n dX10_cancel_82 rfl ?_
          refine aw_iload dX10_cancel_83 rfl ?_
          refine aw_isub dX10_cancel_85 ?_
          refine ap_callVv kv_X10_134 ko_X10_setBooking (c_X10_setBooking hn hkB (by omega) (show (3 : Int32) = nI 3 from rfl) (by decide) _) dX10_cancel_86 e_63 (l_63 hn) rfl rfl rfl rfl (ble' rfl) (by decide) ?_
          refine aw_aload_n dX10_cancel_89 rfl ?_
          refine aw_iload_n dX10_cancel_90 rfl ?_
          refine aw_iconst (v := 4) dX10_cancel_91 (by decide) ?_
          refine aw_iconst (v := 3) dX10_cancel_92 (by decide) ?_
          refine ap_callVv kv_X10_134 ko_X10_setBooking (c_X10_setBooking hn hkB (by omega) (show (4 : Int32) = nI 4 from rfl) (by decide) _) dX10_cancel_93 e_63 (l_63 hn) rfl rfl rfl rfl (ble' rfl) (by decide) ?_
          refine aw_iload dX10_cancel_96 rfl ?_
          refine aw_iret rfl dX10_cancel_98 (ble' rfl) (ble' rfl) ?_
          exact pr_ok (by rw [cr_cancel, if_neg (fun q => q n10), if_neg (fun q => q (by rw [cl_of hkB (by omega)]; exact c25))]) (by rw [cl_of hkB (by omega), rcF, if_pos c58, if_pos c67]) (by simp only [V_eq e64, e64, cl_of hkB (show kb < 2 ^ 31 by omega)]; rw [rcF, if_pos c58, if_pos c67]; exact rs_w (rs_w eRS)) e4
        · have n67 := Int32.not_lt.mp c67
          refine aw_iload_n dX10_cancel_70 rfl ?_
          refine aw_iconst (v := 2) dX10_cancel_71 (by decide) ?_
          refine aw_idiv dX10_cancel_72 (by decide) ?_
          refine aw_goto 77 dX10_cancel_73 (by decide) ?_
          refine aw_istore (lo' := [_, _, _, _, some (.int _)]) dX10_cancel_77 (by decide) rfl ?_
          refine aw_aload_n dX10_cancel_79 rfl ?_
          refine aw_iload_n dX10_cancel_80 rfl ?_
          refine aw_iconst (v := 3) dX10_cancel_81 (by decide) ?_
          refine aw_iload_n dX10_cancel_82 rfl ?_
          refine aw_iload dX10_cancel_83 rfl ?_
          refine aw_isub dX10_cancel_85 ?_
          refine ap_callVv kv_X10_134 ko_X10_setBooking (c_X10_setBooking hn hkB (by omega) (show (3 : Int32) = nI 3 from rfl) (by decide) _) dX10_cancel_86 e_63 (l_63 hn) rfl rfl rfl rfl (ble' rfl) (by decide) ?_
          refine aw_aload_n dX10_cancel_89 rfl ?_
          refine aw_iload_n dX10_cancel_90 rfl ?_
          refine aw_iconst (v := 4) dX10_cancel_91 (by decide) ?_
          refine aw_iconst (v := 3) dX10_cancel_92 (by decide) ?_
          refine ap_callVv kv_X10_134 ko_X10_setBooking (c_X10_setBooking hn hkB (by omega) (show (4 : Int32) = nI 4 from rfl) (by decide) _) dX10_cancel_93 e_63 (l_63 hn) rfl rfl rfl rfl (ble' rfl) (by decide) ?_
          refine aw_iload dX10_cancel_96 rfl ?_
          refine aw_iret rfl dX10_cancel_98 (ble' rfl) (ble' rfl) ?_
          exact pr_ok (by rw [cr_cancel, if_neg (fun q => q n10), if_neg (fun q => q (by rw [cl_of hkB (by omega)]; exact c25))]) (by rw [cl_of hkB (by omega), rcF, if_pos c58, if_neg c67]) (by simp only [V_eq e64, e64, cl_of hkB (show kb < 2 ^ 31 by omega)]; rw [rcF, if_pos c58, if_neg c67]; exact rs_w (rs_w eRS)) e4
      · have n58 := Int32.not_lt.mp c58
        refine aw_iload_n dX10_cancel_61 rfl ?_
        refine aw_goto 77 dX10_cancel_62 (by decide) ?_
        refine aw_istore (lo' := [_, _, _, _, some (.int _)]) dX10_cancel_77 (by decide) rfl ?_
        refine aw_aload_n dX10_cancel_79 rfl ?_
        refine aw_iload_n dX10_cancel_80 rfl ?_
        refine aw_iconst (v := 3) dX10_cancel_81 (by decide) ?_
        refine aw_iload_n dX10_cancel_82 rfl ?_
        refine aw_iload dX10_cancel_83 rfl ?_
        refine aw_isub dX10_cancel_85 ?_
        refine ap_callVv kv_X10_134 ko_X10_setBooking (c_X10_setBooking hn hkB (by omega) (show (3 : Int32) = nI 3 from rfl) (by decide) _) dX10_cancel_86 e_63 (l_63 hn) rfl rfl rfl rfl (ble' rfl) (by decide) ?_
        refine aw_aload_n dX10_cancel_89 rfl ?_
        refine aw_iload_n dX10_cancel_90 rfl ?_
        refine aw_iconst (v := 4) dX10_cancel_91 (by decide) ?_
        refine aw_iconst (v := 3) dX10_cancel_92 (by decide) ?_
        refine ap_callVv kv_X10_134 ko_X10_setBooking (c_X10_setBooking hn hkB (by omega) (show (4 : Int32) = nI 4 from rfl) (by decide) _) dX10_cancel_93 e_63 (l_63 hn) rfl rfl rfl rfl (ble' rfl) (by decide) ?_
        refine aw_iload dX10_cancel_96 rfl ?_
        refine aw_iret rfl dX10_cancel_98 (ble' rfl) (ble' rfl) ?_
        exact pr_ok (by rw [cr_cancel, if_neg (fun q => q n10), if_neg (fun q => q (by rw [cl_of hkB (by omega)]; exact c25))]) (by rw [cl_of hkB (by omega), rcF, if_neg c58]) (by simp only [V_eq e64, e64, cl_of hkB (show kb < 2 ^ 31 by omega)]; rw [rcF, if_neg c58]; exact rs_w (rs_w eRS)) e4
    · refine aw_aload_n dX10_cancel_28 rfl ?_
      refine aw_iconst (v := 2) dX10_cancel_29 (by decide) ?_
      refine ap_callVi kv_X10_43 ko_X10_fail (c_X10_fail hn _) dX10_cancel_30 e_63 (l_63 hn) rfl rfl rfl rfl (ble' rfl) (by decide) ?_
      refine aw_iret rfl dX10_cancel_33 (ble' rfl) (ble' rfl) ?_
      exact pr_no (k := 1) (by rw [cr_cancel, if_neg (fun q => q n10), if_pos (fun q => c25 (by rw [cl_of hkB (by omega)] at q; exact q))]) (rs_tr eRS rs_1) rfl
  · have n10 := bI_z.mp c10
    refine aw_aload_n dX10_cancel_13 rfl ?_
    refine aw_iconst (v := 1) dX10_cancel_14 (by decide) ?_
    refine ap_callVi kv_X10_43 ko_X10_fail (c_X10_fail hn _) dX10_cancel_15 e_63 (l_63 hn) rfl rfl rfl rfl (ble' rfl) (by decide) ?_
    refine aw_iret rfl dX10_cancel_18 (ble' rfl) (ble' rfl) ?_
    exact pr_no (k := 0) (by rw [cr_cancel, if_pos n10]) (rs_tr eRS rs_1) rfl

def cr_open (M : Nat → Nat → Int32) (s : Int32) : Nat := if ¬ (0 ≤ s ∧ s ≤ M 64 2 - 1) then 1 else if ¬ (¬ V M 8 s.toNatClampNeg ≤ M 64 0) then 2 else 0
set_option maxRecDepth 100000 in
set_option maxHeartbeats 4000000 in
theorem c_X10_open {G : AG} {M : Nat → Nat → Int32} {n : Nat} (hn : 72 ≤ n) {nc ns nz nb nr tt : Nat} (hI : CR M nc ns nz nb nr tt)  (s : Int32) : AMet tX10_open yX10_open [Cond.code yX10_open cX10_open 3 (some .int)] [.ref 63, .int s] (wld G M) n (PR (cr_open M s) (V M 8 s.toNatClampNeg) G M (w64 M (20 + 2 * s.toNatClampNeg + 1) 0) n) := by
  refine am_of (lo := [_, _, _]) (by decide) rfl (fun q => by cases q) rfl rfl rfl ?_
  refine aw_aload_n dX10_open_0 rfl ?_
  refine aw_iconst (v := 0) dX10_open_1 (by decide) ?_
  refine aw_put fp_X10_36_m dX10_open_2 e_63 (l_63 hn) (ble' rfl) (fun _ => ⟨rfl, rfl⟩) (hwf rfl) ?_
  obtain ⟨M', e64, e63, eRS, e4, eW⟩ : ∃ M', M 64 = M' 64 ∧ (∀ j, j ≠ 4 → M 63 j = M' 63 j) ∧ RS M M' ∧ M' 63 4 = 0 ∧ wld G (updM M 63 (upd (M 63) 4 0)) = wld G M' := ⟨_, rfl, fun j h => (if_neg h).symm, rs_1, rfl, rfl⟩
  refine aw_heq eW ?_
  rw [show cr_open M s = cr_open M' s from by unfold cr_open; simp only [e64, V_eq e64, rlV_eq e64, avV_eq e64, frR_eq e64, onV_eq e64, mnV_eq e64, osV_eq e64, vaV_eq e64, nsR_eq e64, nbR_eq e64, nzR_eq e64, nrR_eq e64]]
  rw [show (V M 8 s.toNatClampNeg) = (V M' 8 s.toNatClampNeg) from by simp only [e64, V_eq e64, rlV_eq e64, avV_eq e64, frR_eq e64, onV_eq e64, mnV_eq e64, osV_eq e64, vaV_eq e64, nsR_eq e64, nbR_eq e64, nzR_eq e64, nrR_eq e64]]
  have hI' : CR M' nc ns nz nb nr tt := by unfold CR at hI ⊢; rw [← e64]; exact hI
  clear hI eW
  obtain ⟨hc, hcl, hs, hsl, hz, hzl, hb, hbl, hr, hrl, ht, htl⟩ := id hI'
  have ens : nsR M' = ns := cl_of hs (by omega)
  have enb : nbR M' = nb := cl_of hb (by omega)
  have enz : nzR M' = nz := cl_of hz (by omega)
  have enr : nrR M' = nr := cl_of hr (by omega)
  refine aw_aload_n dX10_open_5 rfl ?_
  refine aw_iload_n dX10_open_6 rfl ?_
  refine ap_callVi kv_X10_65 ko_X10_isSite (c_X10_isSite hn _) dX10_open_7 e_63 (l_63 hn) rfl rfl rfl rfl (ble' rfl) (by decide) ?_
  refine aw_if_ne 19 dX10_open_10 (by decide) (fun c10 => ?_) (fun c10 => ?_)
  · have n10 := bI_nz.mp c10
    obtain ⟨ks, hks, hkS⟩ := cls_of hs (by omega) n10
    refine aw_aload_n dX10_open_19 rfl ?_
    refine aw_iload_n dX10_open_20 rfl ?_
    refine aw_aload_n dX10_open_21 rfl ?_
    refine aw_get fl_X10_7 dX10_open_22 e_63 (l_63 hn) rfl ?_
    refine aw_iconst (v := 0) dX10_open_25 (by decide) ?_
    refine aw_ialdk dX10_open_26 e_64 (l_64 hn) (show (0 : Int32) = nI 0 from rfl) (by decide) rfl ?_
    refine ap_callVi kv_X10_84 ko_X10_isOpenOn (c_X10_isOpenOn hn hkS (by omega)) dX10_open_27 e_63 (l_63 hn) rfl rfl rfl rfl (ble' rfl) (by decide) ?_
    refine aw_if_eq 39 dX10_open_30 (by decide) (fun c30 => ?_) (fun c30 => ?_)
    · have n30 := bI_z.mp c30
      refine aw_aload_n dX10_open_39 rfl ?_
      refine aw_iload_n dX10_open_40 rfl ?_
      refine aw_iconst (v := 1) dX10_open_41 (by decide) ?_
      refine ap_callVi kv_X10_68 ko_X10_site (c_X10_site_1 hn hkS (by omega)) dX10_open_42 e_63 (l_63 hn) rfl rfl rfl rfl (ble' rfl) (by decide) ?_
      refine aw_istore_n (lo' := [_, _, some (.int _)]) dX10_open_45 (by decide) rfl ?_
      refine aw_aload_n dX10_open_46 rfl ?_
      refine aw_get fl_X10_7 dX10_open_47 e_63 (l_63 hn) rfl ?_
      refine aw_bipush (v := 20) dX10_open_50 (by decide) ?_
      refine aw_iconst (v := 2) dX10_open_52 (by decide) ?_
      refine aw_iload_n dX10_open_53 rfl ?_
      refine aw_imul dX10_open_54 ?_
      refine aw_iadd dX10_open_55 ?_
      refine aw_iconst (v := 1) dX10_open_56 (by decide) ?_
      refine aw_iadd dX10_open_57 ?_
      refine aw_iconst (v := 0) dX10_open_58 (by decide) ?_
      refine aw_iastk dX10_open_59 e_64 (l_64 hn) (k := 20 + 2 * ks + 1) (by rw [hkS, show (20 : Int32) = nI 20 from rfl, show (2 : Int32) = nI 2 from rfl, nI_mul, nI_add]; exact nI_add _ 1) (by omega) rfl hw64 ?_
      refine aw_iload_n dX10_open_60 rfl ?_
      refine aw_iret rfl dX10_open_61 (ble' rfl) (ble' rfl) ?_
      exact pr_ok (by rw [cr_open, if_neg (fun q => q n10), if_neg (fun q => q (by rw [cl_of hkS (show ks < 2 ^ 31 by omega)]; exact n30))]) (by rw [cl_of hkS (show ks < 2 ^ 31 by omega)]) (by rw [cl_of hkS (show ks < 2 ^ 31 by omega)]; exact rs_w eRS) e4
    · have n30 := bI_nz.mp c30
      refine aw_aload_n dX10_open_33 rfl ?_
      refine aw_iconst (v := 2) dX10_open_34 (by decide) ?_
      refine ap_callVi kv_X10_43 ko_X10_fail (c_X10_fail hn _) dX10_open_35 e_63 (l_63 hn) rfl rfl rfl rfl (ble' rfl) (by decide) ?_
      refine aw_iret rfl dX10_open_38 (ble' rfl) (ble' rfl) ?_
      exact pr_no (k := 1) (by rw [cr_open, if_neg (fun q => q n10), if_pos (fun q => q (by rw [cl_of hkS (show ks < 2 ^ 31 by omega)]; exact n30))]) (rs_tr eRS rs_1) rfl
  · have n10 := bI_z.mp c10
    refine aw_aload_n dX10_open_13 rfl ?_
    refine aw_iconst (v := 1) dX10_open_14 (by decide) ?_
    refine ap_callVi kv_X10_43 ko_X10_fail (c_X10_fail hn _) dX10_open_15 e_63 (l_63 hn) rfl rfl rfl rfl (ble' rfl) (by decide) ?_
    refine aw_iret rfl dX10_open_18 (ble' rfl) (ble' rfl) ?_
    exact pr_no (k := 0) (by rw [cr_open, if_pos n10]) (rs_tr eRS rs_1) rfl

def cr_move (M : Nat → Nat → Int32) (b s : Int32) : Nat := if ¬ ((0 ≤ b ∧ b ≤ M 64 4 - 1) ∧ (0 ≤ s ∧ s ≤ M 64 2 - 1)) then 1 else if ¬ (V M 7 s.toNatClampNeg = V M 16 b.toNatClampNeg) then 2 else if ¬ (V M 20 b.toNatClampNeg = 1 ∧ vaV M (nbR M) s s.toNatClampNeg = true) then 3 else 0
set_option maxRecDepth 100000 in
set_option maxHeartbeats 4000000 in
theorem c_X10_move {G : AG} {M : Nat → Nat → Int32} {n : Nat} (hn : 72 ≤ n) {nc ns nz nb nr tt : Nat} (hI : CR M nc ns nz nb nr tt)  (b s : Int32) : AMet tX10_move yX10_move [Cond.code yX10_move cX10_move 4 (some .int)] [.ref 63, .int b, .int s] (wld G M) n (PR (cr_move M b s) (V M 21 b.toNatClampNeg) G M (w64 M (112 + 6 * b.toNatClampNeg + 5) s) n) := by
  refine am_of (lo := [_, _, _, _]) (by decide) rfl (fun q => by cases q) rfl rfl rfl ?_
  refine aw_aload_n dX10_move_0 rfl ?_
  refine aw_iconst (v := 0) dX10_move_1 (by decide) ?_
  refine aw_put fp_X10_36_m dX10_move_2 e_63 (l_63 hn) (ble' rfl) (fun _ => ⟨rfl, rfl⟩) (hwf rfl) ?_
  obtain ⟨M', e64, e63, eRS, e4, eW⟩ : ∃ M', M 64 = M' 64 ∧ (∀ j, j ≠ 4 → M 63 j = M' 63 j) ∧ RS M M' ∧ M' 63 4 = 0 ∧ wld G (updM M 63 (upd (M 63) 4 0)) = wld G M' := ⟨_, rfl, fun j h => (if_neg h).symm, rs_1, rfl, rfl⟩
  refine aw_heq eW ?_
  rw [show cr_move M b s = cr_move M' b s from by unfold cr_move; simp only [e64, V_eq e64, rlV_eq e64, avV_eq e64, frR_eq e64, onV_eq e64, mnV_eq e64, osV_eq e64, vaV_eq e64, nsR_eq e64, nbR_eq e64, nzR_eq e64, nrR_eq e64]]
  rw [show (V M 21 b.toNatClampNeg) = (V M' 21 b.toNatClampNeg) from by simp only [e64, V_eq e64, rlV_eq e64, avV_eq e64, frR_eq e64, onV_eq e64, mnV_eq e64, osV_eq e64, vaV_eq e64, nsR_eq e64, nbR_eq e64, nzR_eq e64, nrR_eq e64]]
  have hI' : CR M' nc ns nz nb nr tt := by unfold CR at hI ⊢; rw [← e64]; exact hI
  clear hI eW
  obtain ⟨hc, hcl, hs, hsl, hz, hzl, hb, hbl, hr, hrl, ht, htl⟩ := id hI'
  have ens : nsR M' = ns := cl_of hs (by omega)
  have enb : nbR M' = nb := cl_of hb (by omega)
  have enz : nzR M' = nz := cl_of hz (by omega)
  have enr : nrR M' = nr := cl_of hr (by omega)
  refine aw_aload_n dX10_move_5 rfl ?_
  refine aw_iload_n dX10_move_6 rfl ?_
  refine ap_callVi kv_X10_141 ko_X10_isBooking (c_X10_isBooking hn _) dX10_move_7 e_63 (l_63 hn) rfl rfl rfl rfl (ble' rfl) (by decide) ?_
  refine aw_if_eq 21 dX10_move_10 (by decide) (fun c10 => ?_) (fun c10 => ?_)
  · have n10 := bI_z.mp c10
    refine aw_aload_n dX10_move_21 rfl ?_
    refine aw_iconst (v := 1) dX10_move_22 (by decide) ?_
    refine ap_callVi kv_X10_43 ko_X10_fail (c_X10_fail hn _) dX10_move_23 e_63 (l_63 hn) rfl rfl rfl rfl (ble' rfl) (by decide) ?_
    refine aw_iret rfl dX10_move_26 (ble' rfl) (ble' rfl) ?_
    exact pr_no (k := 0) (by rw [cr_move, if_pos (fun q => n10 q.1)]) (rs_tr eRS rs_1) rfl
  · have n10 := bI_nz.mp c10
    refine aw_aload_n dX10_move_13 rfl ?_
    refine aw_iload_n dX10_move_14 rfl ?_
    refine ap_callVi kv_X10_65 ko_X10_isSite (c_X10_isSite hn _) dX10_move_15 e_63 (l_63 hn) rfl rfl rfl rfl (ble' rfl) (by decide) ?_
    refine aw_if_ne 27 dX10_move_18 (by decide) (fun c18 => ?_) (fun c18 => ?_)
    · have n18 := bI_nz.mp c18
      obtain ⟨kb, hkb, hkB⟩ := cls_of hb (by omega) n10
      obtain ⟨ks, hks, hkS⟩ := cls_of hs (by omega) n18
      refine aw_aload_n dX10_move_27 rfl ?_
      refine aw_iload_n dX10_move_28 rfl ?_
      refine aw_iconst (v := 0) dX10_move_29 (by decide) ?_
      refine ap_callVi kv_X10_68 ko_X10_site (c_X10_site_0 hn hkS (by omega)) dX10_move_30 e_63 (l_63 hn) rfl rfl rfl rfl (ble' rfl) (by decide) ?_
      refine aw_aload_n dX10_move_33 rfl ?_
      refine aw_iload_n dX10_move_34 rfl ?_
      refine aw_iconst (v := 0) dX10_move_35 (by decide) ?_
      refine ap_callVi kv_X10_102 ko_X10_booking (c_X10_booking_0 hn hkB (by omega)) dX10_move_36 e_63 (l_63 hn) rfl rfl rfl rfl (ble' rfl) (by decide) ?_
      refine aw_icmp_eq 48 dX10_move_39 (by decide) (fun c39 => ?_) (fun c39 => ?_)
      · refine aw_aload_n dX10_move_48 rfl ?_
        refine aw_iload_n dX10_move_49 rfl ?_
        refine aw_iconst (v := 4) dX10_move_50 (by decide) ?_
        refine ap_callVi kv_X10_102 ko_X10_booking (c_X10_booking_4 hn hkB (by omega)) dX10_move_51 e_63 (l_63 hn) rfl rfl rfl rfl (ble' rfl) (by decide) ?_
        refine aw_iconst (v := 1) dX10_move_54 (by decide) ?_
        refine aw_icmp_ne 66 dX10_move_55 (by decide) (fun c55 => ?_) (fun c55 => ?_)
        · refine aw_aload_n dX10_move_66 rfl ?_
          refine aw_iconst (v := 3) dX10_move_67 (by decide) ?_
          refine ap_callVi kv_X10_43 ko_X10_fail (c_X10_fail hn _) dX10_move_68 e_63 (l_63 hn) rfl rfl rfl rfl (ble' rfl) (by decide) ?_
          refine aw_iret rfl dX10_move_71 (ble' rfl) (ble' rfl) ?_
          exact pr_no (k := 2) (by rw [cr_move, if_neg (fun q => q ⟨n10, n18⟩), if_neg (fun q => q (by rw [cl_of hkB (show kb < 2 ^ 31 by omega), cl_of hkS (show ks < 2 ^ 31 by omega)]; exact c39)), if_pos (fun q => c55 (by rw [cl_of hkB (show kb < 2 ^ 31 by omega)] at q; exact q.1))]) (rs_tr eRS rs_1) rfl
        · refine aw_aload_n dX10_move_58 rfl ?_
          refine aw_iload_n dX10_move_59 rfl ?_
          refine ap_callVi kv_X10_150 ko_X10_isVacant (c_X10_isVacant hn hb hbl hkS (by omega)) dX10_move_60 e_63 (l_63 hn) rfl rfl rfl rfl (ble' rfl) (by decide) ?_
          refine aw_if_ne 72 dX10_move_63 (by decide) (fun c63 => ?_) (fun c63 => ?_)
          · have n63 := bI_nz.mp c63
            refine aw_aload_n dX10_move_72 rfl ?_
            refine aw_iload_n dX10_move_73 rfl ?_
            refine aw_iconst (v := 5) dX10_move_74 (by decide) ?_
            refine ap_callVi kv_X10_102 ko_X10_booking (c_X10_booking_5 hn hkB (by omega)) dX10_move_75 e_63 (l_63 hn) rfl rfl rfl rfl (ble' rfl) (by decide) ?_
            refine aw_istore_n (lo' := [_, _, _, some (.int _)]) dX10_move_78 (by decide) rfl ?_
            refine aw_aload_n dX10_move_79 rfl ?_
            refine aw_iload_n dX10_move_80 rfl ?_
            refine aw_iconst (v := 5) dX10_move_81 (by decide) ?_
            refine aw_iload_n dX10_move_82 rfl ?_
            refine ap_callVv kv_X10_134 ko_X10_setBooking (c_X10_setBooking hn hkB (by omega) (show (5 : Int32) = nI 5 from rfl) (by decide) _) dX10_move_83 e_63 (l_63 hn) rfl rfl rfl rfl (ble' rfl) (by decide) ?_
            refine aw_iload_n dX10_move_86 rfl ?_
            refine aw_iret rfl dX10_move_87 (ble' rfl) (ble' rfl) ?_
            exact pr_ok (by rw [cr_move, if_neg (fun q => q ⟨n10, n18⟩), if_neg (fun q => q (by rw [cl_of hkB (show kb < 2 ^ 31 by omega), cl_of hkS (show ks < 2 ^ 31 by omega)]; exact c39)), if_neg (fun q => q (by rw [cl_of hkB (show kb < 2 ^ 31 by omega), cl_of hkS (show ks < 2 ^ 31 by omega), enb]; exact ⟨c55, n63⟩))]) (by rw [cl_of hkB (show kb < 2 ^ 31 by omega)]) (by rw [cl_of hkB (show kb < 2 ^ 31 by omega)]; exact rs_w eRS) e4
          · have n63 := bI_z.mp c63
            refine aw_aload_n dX10_move_66 rfl ?_
            refine aw_iconst (v := 3) dX10_move_67 (by decide) ?_
            refine ap_callVi kv_X10_43 ko_X10_fail (c_X10_fail hn _) dX10_move_68 e_63 (l_63 hn) rfl rfl rfl rfl (ble' rfl) (by decide) ?_
            refine aw_iret rfl dX10_move_71 (ble' rfl) (ble' rfl) ?_
            exact pr_no (k := 2) (by rw [cr_move, if_neg (fun q => q ⟨n10, n18⟩), if_neg (fun q => q (by rw [cl_of hkB (show kb < 2 ^ 31 by omega), cl_of hkS (show ks < 2 ^ 31 by omega)]; exact c39)), if_pos (fun q => n63 (by rw [cl_of hkS (show ks < 2 ^ 31 by omega), enb] at q; exact q.2))]) (rs_tr eRS rs_1) rfl
      · refine aw_aload_n dX10_move_42 rfl ?_
        refine aw_iconst (v := 2) dX10_move_43 (by decide) ?_
        refine ap_callVi kv_X10_43 ko_X10_fail (c_X10_fail hn _) dX10_move_44 e_63 (l_63 hn) rfl rfl rfl rfl (ble' rfl) (by decide) ?_
        refine aw_iret rfl dX10_move_47 (ble' rfl) (ble' rfl) ?_
        exact pr_no (k := 1) (by rw [cr_move, if_neg (fun q => q ⟨n10, n18⟩), if_pos (fun q => c39 (by rw [cl_of hkB (show kb < 2 ^ 31 by omega), cl_of hkS (show ks < 2 ^ 31 by omega)] at q; exact q))]) (rs_tr eRS rs_1) rfl
    · have n18 := bI_z.mp c18
      refine aw_aload_n dX10_move_21 rfl ?_
      refine aw_iconst (v := 1) dX10_move_22 (by decide) ?_
      refine ap_callVi kv_X10_43 ko_X10_fail (c_X10_fail hn _) dX10_move_23 e_63 (l_63 hn) rfl rfl rfl rfl (ble' rfl) (by decide) ?_
      refine aw_iret rfl dX10_move_26 (ble' rfl) (ble' rfl) ?_
      exact pr_no (k := 0) (by rw [cr_move, if_pos (fun q => n18 q.2)]) (rs_tr eRS rs_1) rfl
