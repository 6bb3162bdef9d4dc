theorem rng_of {a d x : Int32} {A N : Nat} (ha : a = nI A) (hA : A < 2 ^ 31) (hx : x = nI N) (hN : N < 2 ^ 31) (h : a ≤ d ∧ d ≤ x) : ∃ k, A ≤ k ∧ k ≤ N ∧ d = nI k := by
  have h0 : ¬ d < 0 := by
    intro q
    have h1 := h.1
    rw [ha, Int32.le_iff_toInt_le, nI_toInt hA] at h1
    rw [Int32.lt_iff_toInt_lt] at q
    have : (0 : Int32).toInt = 0 := by decide
    omega
  obtain ⟨j, hj, rfl⟩ := nI_of h0
  exact ⟨j, le_of_le ha rfl hA hj h.1, le_of_le rfl hx hj hN h.2, rfl⟩
/-- the busiest of the first k nights from a on (a itself if k is 0) -/
def bs1 (f : Nat → Int32) (a k : Nat) : Nat := bsyN f a (k - 1)
set_option maxRecDepth 100000 in
set_option maxHeartbeats 4000000 in
theorem lp_X10_busiestNight {G : AG} {M : Nat → Nat → Int32} {n : Nat} (hn : 72 ≤ n) {nb : Nat} (hb : M 64 4 = nI nb) (hbl : nb ≤ 60) {c f l : Int32} {a b : Nat} (hab : a ≤ b) (hb9 : b ≤ 998) (hl : l = nI b) {Po : APost} (hR : ∀ v, v = nI (bsyN (fun i => nI (cnt (tkB (V M 16) (V M 17) (V M 18) (V M 20) c (nI i)) nb)) a (b - a)) → Po (.inl (some (.int v))) (wld G M) n) : ∀ (j i : Nat) (x4 x5 : Int32), b + 1 - (a + i) < j → a + i ≤ b + 1 → x5 = nI (a + i) → x4 = nI (bs1 (fun i => nI (cnt (tkB (V M 16) (V M 17) (V M 18) (V M 20) c (nI i)) nb)) a i) →  AW tX10_busiestNight (AQm tX10_busiestNight (Po)) C0 50 [some (.ref 63), some (.int c), some (.int f), some (.int l), some (.int x4), some (.int x5)] [] (wld G M) n 0 0 := by
  intro j
  induction j with
  | zero => intro i x4 x5 h0; omega
  | succ j ih =>
    intro i x4 x5 h0 hi h5 h4
    refine aw_iload dX10_busiestNight_50 rfl ?_
    refine aw_iload_n dX10_busiestNight_52 rfl ?_
    refine aw_icmp_gt 88 dX10_busiestNight_53 (by decide) (fun c53 => ?_) (fun c53 => ?_)
    · have n53 := Int32.not_le.mpr c53
      refine aw_iload dX10_busiestNight_88 rfl ?_
      refine aw_iret rfl dX10_busiestNight_90 (ble' rfl) (ble' rfl) ?_
      have hie : i = b - a + 1 := by have := lt_of_lt hl h5 (by omega) (by omega) c53; omega
      exact hR _ (by rw [h4, hie]; rfl)
    · have n53 := Int32.not_lt.mp c53
      have hlt : a + i ≤ b := le_of_nlt hl h5 (by omega) (by omega) c53
      refine aw_aload_n dX10_busiestNight_56 rfl ?_
      refine aw_iload_n dX10_busiestNight_57 rfl ?_
      refine aw_iload dX10_busiestNight_58 rfl ?_
      refine ap_callVi kv_X10_111 ko_X10_takenOf (c_X10_takenOf hn hb hbl c _) dX10_busiestNight_60 e_63 (l_63 hn) rfl rfl rfl rfl (ble' rfl) (by decide) ?_
      refine aw_aload_n dX10_busiestNight_63 rfl ?_
      refine aw_iload_n dX10_busiestNight_64 rfl ?_
      refine aw_iload dX10_busiestNight_65 rfl ?_
      refine ap_callVi kv_X10_111 ko_X10_takenOf (c_X10_takenOf hn hb hbl c _) dX10_busiestNight_67 e_63 (l_63 hn) rfl rfl rfl rfl (ble' rfl) (by decide) ?_
      refine aw_icmp_le 78 dX10_busiestNight_70 (by decide) (fun c70 => ?_) (fun c70 => ?_)
      · have n70 := Int32.not_lt.mpr c70
        refine aw_iload dX10_busiestNight_78 rfl ?_
        refine aw_istore (lo' := [_, _, _, _, some (.int _), _]) dX10_busiestNight_80 (by decide) rfl ?_
        refine aw_iinc (lo' := [_, _, _, _, _, some (.int _)]) dX10_busiestNight_82 rfl (by decide) rfl ?_
        refine aw_goto 50 dX10_busiestNight_85 (by decide) ?_
        cases i with
        | zero =>
          exact ih (0 + 1) _ _ (by omega) (by omega) (by rw [h5]; exact inc1 _) (by rw [h4]; rfl)
        | succ i =>
          exact ih (i + 1 + 1) _ _ (by omega) (by omega) (by rw [h5]; exact inc1 _) (by rw [h4]; show nI (bsyN _ _ i) = nI (bsyN _ _ (i + 1)); rw [bsyN, if_neg (by rw [h4, h5] at n70; exact n70)])
      · have n70 := Int32.not_le.mp c70
        refine aw_iload dX10_busiestNight_73 rfl ?_
        refine aw_goto 80 dX10_busiestNight_75 (by decide) ?_
        refine aw_istore (lo' := [_, _, _, _, some (.int _), _]) dX10_busiestNight_80 (by decide) rfl ?_
        refine aw_iinc (lo' := [_, _, _, _, _, some (.int _)]) dX10_busiestNight_82 rfl (by decide) rfl ?_
        refine aw_goto 50 dX10_busiestNight_85 (by decide) ?_
        cases i with
        | zero =>
          exact ih (0 + 1) _ _ (by omega) (by omega) (by rw [h5]; exact inc1 _) (by rw [h5]; rfl)
        | succ i =>
          exact ih (i + 1 + 1) _ _ (by omega) (by omega) (by rw [h5]; exact inc1 _) (by rw [h5]; show _ = nI (bsyN _ _ (i + 1)); rw [bsyN, if_pos (by rw [h4, h5] at n70; exact n70)]; rfl)

def cr_busiestNight (M : Nat → Nat → Int32) (c f l : Int32) : Nat := if ¬ (0 ≤ c ∧ c ≤ M 64 1 - 1) then 1 else if ¬ ((M 64 0 ≤ f ∧ f ≤ 998) ∧ (f ≤ l ∧ l ≤ 998)) then 2 else 0
set_option maxRecDepth 100000 in
set_option maxHeartbeats 4000000 in
theorem c_X10_busiestNight {G : AG} {M : Nat → Nat → Int32} {n : Nat} (hn : 72 ≤ n) {nc ns nz nb nr tt : Nat} (hI : CR M nc ns nz nb nr tt)  (c f l : Int32) : AMet tX10_busiestNight yX10_busiestNight [Cond.code yX10_busiestNight cX10_busiestNight 6 (some .int)] [.ref 63, .int c, .int f, .int l] (wld G M) n (PR (cr_busiestNight M c f l) (nI (bsyN (fun i => nI (cnt (tkB (V M 16) (V M 17) (V M 18) (V M 20) c (nI i)) (nbR M))) f.toNatClampNeg (l.toNatClampNeg - f.toNatClampNeg))) G M M n) := by
  refine am_of (lo := [_, _, _, _, _, _]) (by decide) rfl (fun q => by cases q) rfl rfl rfl ?_
  refine aw_aload_n dX10_busiestNight_0 rfl ?_
  refine aw_iconst (v := 0) dX10_busiestNight_1 (by decide) ?_
  refine aw_put fp_X10_36_m dX10_busiestNight_2 e_63 (l_63 hn) (ble' rfl) (fun _ => ⟨rfl, rfl⟩) (hwf rfl) ?_
  obtain ⟨M', e64, e63, eRS, e4, eW⟩ : ∃ M', M 64 = M' 64 ∧ (∀ j, j ≠ 4 → M 63 j = M' 63 j) ∧ RS M M' ∧ M' 63 4 = 0 ∧ wld G (updM M 63 (upd (M 63) 4 0)) = wld G M' := ⟨_, rfl, fun j h => (if_neg h).symm, rs_1, rfl, rfl⟩
  refine aw_heq eW ?_
  rw [show cr_busiestNight M c f l = cr_busiestNight M' c f l from by unfold cr_busiestNight; simp only [e64, V_eq e64, rlV_eq e64, avV_eq e64, frR_eq e64, onV_eq e64, mnV_eq e64, osV_eq e64, vaV_eq e64, nsR_eq e64, nbR_eq e64, nzR_eq e64, nrR_eq e64]]
  rw [show (nI (bsyN (fun i => nI (cnt (tkB (V M 16) (V M 17) (V M 18) (V M 20) c (nI i)) (nbR M))) f.toNatClampNeg (l.toNatClampNeg - f.toNatClampNeg))) = (nI (bsyN (fun i => nI (cnt (tkB (V M' 16) (V M' 17) (V M' 18) (V M' 20) c (nI i)) (nbR M'))) f.toNatClampNeg (l.toNatClampNeg - f.toNatClampNeg))) from by simp only [e64, V_eq e64, rlV_eq e64, avV_eq e64, frR_eq e64, onV_eq e64, mnV_eq e64, osV_eq e64, vaV_eq e64, nsR_eq e64, nbR_eq e64, nzR_eq e64, nrR_eq e64]]
  have hI' : CR M' nc ns nz nb nr tt := by unfold CR at hI ⊢; rw [← e64]; exact hI
  clear hI eW
  obtain ⟨hc, hcl, hs, hsl, hz, hzl, hb, hbl, hr, hrl, ht, htl⟩ := id hI'
  have ens : nsR M' = ns := cl_of hs (by omega)
  have enb : nbR M' = nb := cl_of hb (by omega)
  have enz : nzR M' = nz := cl_of hz (by omega)
  have enr : nrR M' = nr := cl_of hr (by omega)
  refine aw_aload_n dX10_busiestNight_5 rfl ?_
  refine aw_iload_n dX10_busiestNight_6 rfl ?_
  refine ap_callVi kv_X10_51 ko_X10_isClass (c_X10_isClass hn _) dX10_busiestNight_7 e_63 (l_63 hn) rfl rfl rfl rfl (ble' rfl) (by decide) ?_
  refine aw_if_ne 19 dX10_busiestNight_10 (by decide) (fun c10 => ?_) (fun c10 => ?_)
  · have n10 := bI_nz.mp c10
    refine aw_aload_n dX10_busiestNight_19 rfl ?_
    refine aw_iload_n dX10_busiestNight_20 rfl ?_
    refine ap_callVi kv_X10_88 ko_X10_isNight (c_X10_isNight hn _) dX10_busiestNight_21 e_63 (l_63 hn) rfl rfl rfl rfl (ble' rfl) (by decide) ?_
    refine aw_if_eq 38 dX10_busiestNight_24 (by decide) (fun c24 => ?_) (fun c24 => ?_)
    · have n24 := bI_z.mp c24
      refine aw_aload_n dX10_busiestNight_38 rfl ?_
      refine aw_iconst (v := 2) dX10_busiestNight_39 (by decide) ?_
      refine ap_callVi kv_X10_43 ko_X10_fail (c_X10_fail hn _) dX10_busiestNight_40 e_63 (l_63 hn) rfl rfl rfl rfl (ble' rfl) (by decide) ?_
      refine aw_iret rfl dX10_busiestNight_43 (ble' rfl) (ble' rfl) ?_
      exact pr_no (k := 1) (by rw [cr_busiestNight, if_neg (fun q => q n10), if_pos (fun q => n24 q.1)]) (rs_tr eRS rs_1) rfl
    · have n24 := bI_nz.mp c24
      refine aw_iload_n dX10_busiestNight_27 rfl ?_
      refine aw_iload_n dX10_busiestNight_28 rfl ?_
      refine aw_sipush (v := 998) dX10_busiestNight_29 (by decide) ?_
      refine ap_callSi ks_X10_39 ko_X10_isBetween (c_X10_isBetween _ _ _) dX10_busiestNight_32 rfl rfl (ble' rfl) (by decide) ?_
      refine aw_if_ne 44 dX10_busiestNight_35 (by decide) (fun c35 => ?_) (fun c35 => ?_)
      · have n35 := bI_nz.mp c35
        obtain ⟨d, htd, hd9, hd⟩ := rng_of ht (by omega) (show (998 : Int32) = nI 998 from rfl) (by decide) n24
        obtain ⟨e, hde, he9, he⟩ := rng_of hd (by omega) (show (998 : Int32) = nI 998 from rfl) (by decide) n35
        refine aw_iload_n dX10_busiestNight_44 rfl ?_
        refine aw_istore (lo' := [_, _, _, _, some (.int _), _]) dX10_busiestNight_45 (by decide) rfl ?_
        refine aw_iload_n dX10_busiestNight_47 rfl ?_
        refine aw_istore (lo' := [_, _, _, _, _, some (.int _)]) dX10_busiestNight_48 (by decide) rfl ?_
        exact lp_X10_busiestNight hn hb hbl hde he9 he (fun v q => pr_ok (by rw [cr_busiestNight, if_neg (fun q => q n10), if_neg (fun q => q ⟨n24, n35⟩)]) (by rw [enb, cl_of hd (by omega), cl_of he (by omega)]; exact q) eRS e4) 1001 0 _ _ (by omega) (by omega) hd hd
      · have n35 := bI_z.mp c35
        refine aw_aload_n dX10_busiestNight_38 rfl ?_
        refine aw_iconst (v := 2) dX10_busiestNight_39 (by decide) ?_
        refine ap_callVi kv_X10_43 ko_X10_fail (c_X10_fail hn _) dX10_busiestNight_40 e_63 (l_63 hn) rfl rfl rfl rfl (ble' rfl) (by decide) ?_
        refine aw_iret rfl dX10_busiestNight_43 (ble' rfl) (ble' rfl) ?_
        exact pr_no (k := 1) (by rw [cr_busiestNight, if_neg (fun q => q n10), if_pos (fun q => n35 q.2)]) (rs_tr eRS rs_1) rfl
  · have n10 := bI_z.mp c10
    refine aw_aload_n dX10_busiestNight_13 rfl ?_
    refine aw_iconst (v := 1) dX10_busiestNight_14 (by decide) ?_
    refine ap_callVi kv_X10_43 ko_X10_fail (c_X10_fail hn _) dX10_busiestNight_15 e_63 (l_63 hn) rfl rfl rfl rfl (ble' rfl) (by decide) ?_
    refine aw_iret rfl dX10_busiestNight_18 (ble' rfl) (ble' rfl) ?_
    exact pr_no (k := 0) (by rw [cr_busiestNight, if_pos n10]) (rs_tr eRS rs_1) rfl
