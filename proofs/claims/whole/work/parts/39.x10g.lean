set_option maxRecDepth 100000 in
set_option maxHeartbeats 4000000 in
theorem lp_X10_revenue {G : AG} {M : Nat → Nat → Int32} {n : Nat} (hn : 72 ≤ n) {nb : Nat} (hb : M 64 4 = nI nb) (hbl : nb ≤ 60) {Po : APost} (hR : ∀ v, v = sumK (V M 19) nb → Po (.inl (some (.int v))) (wld G M) n) : ∀ (j k : Nat) (x1 x2 : Int32), nb - k < j → k ≤ nb → x2 = nI k → x1 = sumK (V M 19) k →  AW tX10_revenue (AQm tX10_revenue (Po)) C0 9 [some (.ref 63), some (.int x1), some (.int x2)] [] (wld G M) n 0 0 := by
  intro j
  induction j with
  | zero => intro k x1 x2 h0; omega
  | succ j ih =>
    intro k x1 x2 h0 hk h2 h1
    refine aw_iload_n dX10_revenue_9 rfl ?_
    refine aw_aload_n dX10_revenue_10 rfl ?_
    refine aw_get fl_X10_7 dX10_revenue_11 e_63 (l_63 hn) rfl ?_
    refine aw_iconst (v := 4) dX10_revenue_14 (by decide) ?_
    refine aw_ialdk dX10_revenue_15 e_64 (l_64 hn) (show (4 : Int32) = nI 4 from rfl) (by decide) rfl ?_
    refine aw_icmp_ge 34 dX10_revenue_16 (by decide) (fun c16 => ?_) (fun c16 => ?_)
    · have n16 := Int32.not_lt.mpr c16
      refine aw_iload_n dX10_revenue_34 rfl ?_
      refine aw_iret rfl dX10_revenue_35 (ble' rfl) (ble' rfl) ?_
      have hke : k = nb := Nat.le_antisymm hk (le_of_le hb h2 (by omega) (by omega) c16)
      exact hR _ (by rw [h1, hke])
    · have n16 := Int32.not_le.mp c16
      have hlt : k < nb := lt_of_nle hb h2 (by omega) (by omega) c16
      refine aw_iload_n dX10_revenue_19 rfl ?_
      refine aw_aload_n dX10_revenue_20 rfl ?_
      refine aw_iload_n dX10_revenue_21 rfl ?_
      refine aw_iconst (v := 3) dX10_revenue_22 (by decide) ?_
      refine ap_callVi kv_X10_102 ko_X10_booking (c_X10_booking_3 hn h2 (by omega)) dX10_revenue_23 e_63 (l_63 hn) rfl rfl rfl rfl (ble' rfl) (by decide) ?_
      refine aw_iadd dX10_revenue_26 ?_
      refine aw_istore_n (lo' := [_, some (.int _), _]) dX10_revenue_27 (by decide) rfl ?_
      refine aw_iinc (lo' := [_, _, some (.int _)]) dX10_revenue_28 rfl (by decide) rfl ?_
      refine aw_goto 9 dX10_revenue_31 (by decide) ?_
      exact ih (k + 1) _ _ (by omega) (by omega) (by rw [h2]; exact inc1 k) (by rw [h1]; rfl)

def cr_revenue (M : Nat → Nat → Int32) : Nat := 0
set_option maxRecDepth 100000 in
set_option maxHeartbeats 4000000 in
theorem c_X10_revenue {G : AG} {M : Nat → Nat → Int32} {n : Nat} (hn : 72 ≤ n) {nc ns nz nb nr tt : Nat} (hI : CR M nc ns nz nb nr tt)  : AMet tX10_revenue yX10_revenue [Cond.code yX10_revenue cX10_revenue 3 (some .int)] [.ref 63] (wld G M) n (PR (cr_revenue M) (sumK (V M 19) (nbR M)) G M M n) := by
  refine am_of (lo := [_, _, _]) (by decide) rfl (fun q => by cases q) rfl rfl rfl ?_
  refine aw_aload_n dX10_revenue_0 rfl ?_
  refine aw_iconst (v := 0) dX10_revenue_1 (by decide) ?_
  refine aw_put fp_X10_36_m dX10_revenue_2 e_63 (l_63 hn) (ble' rfl) (fun _ => ⟨rfl, rfl⟩) (hwf rfl) ?_
  obtain ⟨M', e64, e63, eRS, e4, eW⟩ : ∃ M', M 64 = M' 64 ∧ (∀ j, j ≠ 4 → M 63 j = M' 63 j) ∧ RS M M' ∧ M' 63 4 = 0 ∧ wld G (updM M 63 (upd (M 63) 4 0)) = wld G M' := ⟨_, rfl, fun j h => (if_neg h).symm, rs_1, rfl, rfl⟩
  refine aw_heq eW ?_
  rw [show cr_revenue M = cr_revenue M' from rfl]
  rw [show (sumK (V M 19) (nbR M)) = (sumK (V M' 19) (nbR M')) from by simp only [e64, V_eq e64, rlV_eq e64, avV_eq e64, frR_eq e64, onV_eq e64, mnV_eq e64, osV_eq e64, vaV_eq e64, nsR_eq e64, nbR_eq e64, nzR_eq e64, nrR_eq e64]]
  have hI' : CR M' nc ns nz nb nr tt := by unfold CR at hI ⊢; rw [← e64]; exact hI
  clear hI eW
  obtain ⟨hc, hcl, hs, hsl, hz, hzl, hb, hbl, hr, hrl, ht, htl⟩ := id hI'
  have ens : nsR M' = ns := cl_of hs (by omega)
  have enb : nbR M' = nb := cl_of hb (by omega)
  have enz : nzR M' = nz := cl_of hz (by omega)
  have enr : nrR M' = nr := cl_of hr (by omega)
  refine aw_iconst (v := 0) dX10_revenue_5 (by decide) ?_
  refine aw_istore_n (lo' := [_, some (.int _), _]) dX10_revenue_6 (by decide) rfl ?_
  refine aw_iconst (v := 0) dX10_revenue_7 (by decide) ?_
  refine aw_istore_n (lo' := [_, _, some (.int _)]) dX10_revenue_8 (by decide) rfl ?_
  exact lp_X10_revenue hn hb hbl (fun v q => pr_ok rfl (by rw [enb]; exact q) eRS e4) (nb + 1) 0 _ _ (by omega) (by omega) rfl rfl

set_option maxRecDepth 100000 in
set_option maxHeartbeats 4000000 in
theorem lp_X10_longestStay {G : AG} {M : Nat → Nat → Int32} {n : Nat} (hn : 72 ≤ n) {ns nb nz tt : Nat} (hs : M 64 2 = nI ns) (hsl : ns ≤ 16) (hb : M 64 4 = nI nb) (hbl : nb ≤ 60) (hz : M 64 3 = nI nz) (hzl : nz ≤ 12) (ht : M 64 0 = nI tt) (htl : tt ≤ 999) {c a : Int32} {kc : Nat} (hk : c = nI kc) (hkc : kc < 4) {Po : APost} (hR : ∀ v, v = lngN (fun m => osV M ns nb nz kc c a m) 28 → Po (.inl (some (.int v))) (wld G M) n) : ∀ (j i : Nat) (x3 x4 : Int32), 28 - i < j → i ≤ 28 → x4 = nI (i + 1) → x3 = lngN (fun m => osV M ns nb nz kc c a m) i →  AW tX10_longestStay (AQm tX10_longestStay (Po)) C0 24 [some (.ref 63), some (.int c), some (.int a), some (.int x3), some (.int x4)] [] (wld G M) n 0 0 := by
  intro j
  induction j with
  | zero => intro i x3 x4 h0; omega
  | succ j ih =>
    intro i x3 x4 h0 hi h4 h3
    refine aw_iload dX10_longestStay_24 rfl ?_
    refine aw_bipush (v := 28) dX10_longestStay_26 (by decide) ?_
    refine aw_icmp_gt 55 dX10_longestStay_28 (by decide) (fun c28 => ?_) (fun c28 => ?_)
    · have n28 := Int32.not_le.mpr c28
      refine aw_iload_n dX10_longestStay_55 rfl ?_
      refine aw_iret rfl dX10_longestStay_56 (ble' rfl) (ble' rfl) ?_
      have hie : i = 28 := by have := lt_of_lt (show (28 : Int32) = nI 28 from rfl) h4 (by decide) (by omega) c28; omega
      exact hR _ (by rw [h3, hie])
    · have n28 := Int32.not_lt.mp c28
      have hlt : i + 1 ≤ 28 := le_of_nlt (show (28 : Int32) = nI 28 from rfl) h4 (by decide) (by omega) c28
      refine aw_aload_n dX10_longestStay_31 rfl ?_
      refine aw_iload_n dX10_longestStay_32 rfl ?_
      refine aw_iload_n dX10_longestStay_33 rfl ?_
      refine aw_iload dX10_longestStay_34 rfl ?_
      refine ap_callVi kv_X10_128 ko_X10_obstacleOf (c_X10_obstacleOf hn hs hsl hb hbl hk hkc hz hzl ht htl (mm := i + 1) h4 (by omega) (by omega)) dX10_longestStay_36 e_63 (l_63 hn) rfl rfl rfl rfl (ble' rfl) (by decide) ?_
      refine aw_if_ne 47 dX10_longestStay_39 (by decide) (fun c39 => ?_) (fun c39 => ?_)
      · refine aw_iload_n dX10_longestStay_47 rfl ?_
        refine aw_istore_n (lo' := [_, _, _, some (.int _), _]) dX10_longestStay_48 (by decide) rfl ?_
        refine aw_iinc (lo' := [_, _, _, _, some (.int _)]) dX10_longestStay_49 rfl (by decide) rfl ?_
        refine aw_goto 24 dX10_longestStay_52 (by decide) ?_
        exact ih (i + 1) _ _ (by omega) (by omega) (by rw [h4]; exact inc1 _) (by rw [lngN, if_neg (by rw [← h4]; exact c39)]; exact h3)
      · refine aw_iload dX10_longestStay_42 rfl ?_
        refine aw_goto 48 dX10_longestStay_44 (by decide) ?_
        refine aw_istore_n (lo' := [_, _, _, some (.int _), _]) dX10_longestStay_48 (by decide) rfl ?_
        refine aw_iinc (lo' := [_, _, _, _, some (.int _)]) dX10_longestStay_49 rfl (by decide) rfl ?_
        refine aw_goto 24 dX10_longestStay_52 (by decide) ?_
        exact ih (i + 1) _ _ (by omega) (by omega) (by rw [h4]; exact inc1 _) (by rw [lngN, if_pos (by rw [← h4]; exact c39)]; exact h4)

def cr_longestStay (M : Nat → Nat → Int32) (c a : Int32) : Nat := if ¬ (0 ≤ c ∧ c ≤ M 64 1 - 1) then 1 else 0
set_option maxRecDepth 100000 in
set_option maxHeartbeats 4000000 in
theorem c_X10_longestStay {G : AG} {M : Nat → Nat → Int32} {n : Nat} (hn : 72 ≤ n) {nc ns nz nb nr tt : Nat} (hI : CR M nc ns nz nb nr tt)  (c a : Int32) : AMet tX10_longestStay yX10_longestStay [Cond.code yX10_longestStay cX10_longestStay 5 (some .int)] [.ref 63, .int c, .int a] (wld G M) n (PR (cr_longestStay M c a) (lngN (fun m => osV M (nsR M) (nbR M) (nzR M) c.toNatClampNeg c a m) 28) G M M n) := by
  refine am_of (lo := [_, _, _, _, _]) (by decide) rfl (fun q => by cases q) rfl rfl rfl ?_
  refine aw_aload_n dX10_longestStay_0 rfl ?_
  refine aw_iconst (v := 0) dX10_longestStay_1 (by decide) ?_
  refine aw_put fp_X10_36_m dX10_longestStay_2 e_63 (l_63 hn) (ble' rfl) (fun _ => ⟨rfl, rfl⟩) (hwf rfl) ?_
  obtain ⟨M', e64, e63, eRS, e4, eW⟩ : ∃ M', M 64 = M' 64 ∧ (∀ j, j ≠ 4 → M 63 j = M' 63 j) ∧ RS M M' ∧ M' 63 4 = 0 ∧ wld G (updM M 63 (upd (M 63) 4 0)) = wld G M' := ⟨_, rfl, fun j h => (if_neg h).symm, rs_1, rfl, rfl⟩
  refine aw_heq eW ?_
  rw [show cr_longestStay M c a = cr_longestStay M' c a from by unfold cr_longestStay; simp only [e64, V_eq e64, rlV_eq e64, avV_eq e64, frR_eq e64, onV_eq e64, mnV_eq e64, osV_eq e64, vaV_eq e64, nsR_eq e64, nbR_eq e64, nzR_eq e64, nrR_eq e64]]
  rw [show (lngN (fun m => osV M (nsR M) (nbR M) (nzR M) c.toNatClampNeg c a m) 28) = (lngN (fun m => osV M' (nsR M') (nbR M') (nzR M') c.toNatClampNeg c a m) 28) from by simp only [e64, V_eq e64, rlV_eq e64, avV_eq e64, frR_eq e64, onV_eq e64, mnV_eq e64, osV_eq e64, vaV_eq e64, nsR_eq e64, nbR_eq e64, nzR_eq e64, nrR_eq e64]]
  have hI' : CR M' nc ns nz nb nr tt := by unfold CR at hI ⊢; rw [← e64]; exact hI
  clear hI eW
  obtain ⟨hc, hcl, hs, hsl, hz, hzl, hb, hbl, hr, hrl, ht, htl⟩ := id hI'
  have ens : nsR M' = ns := cl_of hs (by omega)
  have enb : nbR M' = nb := cl_of hb (by omega)
  have enz : nzR M' = nz := cl_of hz (by omega)
  have enr : nrR M' = nr := cl_of hr (by omega)
  refine aw_aload_n dX10_longestStay_5 rfl ?_
  refine aw_iload_n dX10_longestStay_6 rfl ?_
  refine ap_callVi kv_X10_51 ko_X10_isClass (c_X10_isClass hn _) dX10_longestStay_7 e_63 (l_63 hn) rfl rfl rfl rfl (ble' rfl) (by decide) ?_
  refine aw_if_ne 19 dX10_longestStay_10 (by decide) (fun c10 => ?_) (fun c10 => ?_)
  · have n10 := bI_nz.mp c10
    obtain ⟨kc, hkc, hk⟩ := cls_of hc (by omega) n10
    refine aw_iconst (v := 0) dX10_longestStay_19 (by decide) ?_
    refine aw_istore_n (lo' := [_, _, _, some (.int _), _]) dX10_longestStay_20 (by decide) rfl ?_
    refine aw_iconst (v := 1) dX10_longestStay_21 (by decide) ?_
    refine aw_istore (lo' := [_, _, _, _, some (.int _)]) dX10_longestStay_22 (by decide) rfl ?_
    exact lp_X10_longestStay hn hs hsl hb hbl hz hzl ht htl hk (by omega) (fun v q => pr_ok (by rw [cr_longestStay, if_neg (fun q => q n10)]) (by rw [ens, enb, enz, cl_of hk (by omega)]; exact q) eRS e4) 29 0 _ _ (by omega) (by omega) rfl rfl
  · have n10 := bI_z.mp c10
    refine aw_aload_n dX10_longestStay_13 rfl ?_
    refine aw_iconst (v := 1) dX10_longestStay_14 (by decide) ?_
    refine ap_callVi kv_X10_43 ko_X10_fail (c_X10_fail hn _) dX10_longestStay_15 e_63 (l_63 hn) rfl rfl rfl rfl (ble' rfl) (by decide) ?_
    refine aw_iret rfl dX10_longestStay_18 (ble' rfl) (ble' rfl) ?_
    exact pr_no (k := 0) (by rw [cr_longestStay, if_pos n10]) (rs_tr eRS rs_1) rfl
