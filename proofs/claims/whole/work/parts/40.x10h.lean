theorem av_pos {M : Nat → Nat → Int32} {ns nb k : Nat} {c d : Int32} : 0 < avV M ns nb k c d ↔ ¬ avV M ns nb k c d = 0 := by
  unfold avV
  split
  · rename_i h
    exact ⟨fun _ q => by rw [q] at h; exact absurd h (by decide), fun _ => h⟩
  · exact ⟨fun q => absurd q (by decide), fun q => absurd rfl q⟩
theorem day_of {d : Int32} {N : Nat} {x : Int32} (hx : x = nI N) (hN : N < 2 ^ 31) (h : 0 ≤ d ∧ d ≤ x) : ∃ k, k ≤ N ∧ d = nI k := by
  obtain ⟨j, hj, rfl⟩ := nI_of (Int32.not_lt.mpr h.1)
  exact ⟨j, le_of_le rfl hx hj hN h.2, rfl⟩
set_option maxRecDepth 100000 in
set_option maxHeartbeats 4000000 in
theorem lp_X10_nextGap {G : AG} {M : Nat → Nat → Int32} {n : Nat} (hn : 72 ≤ n) {ns nb : Nat} (hs : M 64 2 = nI ns) (hsl : ns ≤ 16) (hb : M 64 4 = nI nb) (hbl : nb ≤ 60) {c f : Int32} {kc a : Nat} (hk : c = nI kc) (hkc : kc < 4) (ha : a ≤ 999) {Po : APost} (hR : ∀ v, v = gapN (fun i => frR M ns nb kc c (nI i) && !frR M ns nb kc c (nI i - 1)) a (999 - a) → Po (.inl (some (.int v))) (wld G M) n) : ∀ (j i : Nat) (x3 : Int32), 999 - (a + i) < j → i ≤ 999 - a → x3 = nI (a + i) → gapN (fun i => frR M ns nb kc c (nI i) && !frR M ns nb kc c (nI i - 1)) a i = -1 →  AW tX10_nextGap (AQm tX10_nextGap (Po)) C0 34 [some (.ref 63), some (.int c), some (.int f), some (.int x3)] [] (wld G M) n 0 0 := by
  intro j
  induction j with
  | zero => intro i x3 h1; omega
  | succ j ih =>
    intro i x3 h1 hi h3 h4
    refine aw_iload_n dX10_nextGap_34 rfl ?_
    refine aw_sipush (v := 998) dX10_nextGap_35 (by decide) ?_
    refine aw_icmp_gt 69 dX10_nextGap_38 (by decide) (fun c38 => ?_) (fun c38 => ?_)
    · have n38 := Int32.not_le.mpr c38
      refine aw_iconst (v := -1) dX10_nextGap_69 (by decide) ?_
      refine aw_iret rfl dX10_nextGap_70 (ble' rfl) (ble' rfl) ?_
      have hie : i = 999 - a := by have := lt_of_lt (show (998 : Int32) = nI 998 from rfl) h3 (by decide) (by omega) c38; omega
      subst hie
      exact hR _ h4.symm
    · have n38 := Int32.not_lt.mp c38
      have hlt : a + i ≤ 998 := le_of_nlt (show (998 : Int32) = nI 998 from rfl) h3 (by decide) (by omega) c38
      refine aw_aload_n dX10_nextGap_41 rfl ?_
      refine aw_iload_n dX10_nextGap_42 rfl ?_
      refine aw_iload_n dX10_nextGap_43 rfl ?_
      refine ap_callVi kv_X10_117 ko_X10_availableOf (c_X10_availableOf hn hs hsl hb hbl hk hkc _) dX10_nextGap_44 e_63 (l_63 hn) rfl rfl rfl rfl (ble' rfl) (by decide) ?_
      refine aw_if_le 63 dX10_nextGap_47 (by decide) (fun c47 => ?_) (fun c47 => ?_)
      · have n47 := Int32.not_lt.mpr c47
        refine aw_iinc (lo' := [_, _, _, some (.int _)]) dX10_nextGap_63 rfl (by decide) rfl ?_
        refine aw_goto 34 dX10_nextGap_66 (by decide) ?_
        exact ih (i + 1) _ (by omega) (by omega) (by rw [h3]; exact inc1 _) (gap_no h4 (by have := (not_congr av_pos).mp n47; rw [h3] at this; simp only [Classical.not_not] at this; simp [frR, this]))
      · have n47 := Int32.not_le.mp c47
        refine aw_aload_n dX10_nextGap_50 rfl ?_
        refine aw_iload_n dX10_nextGap_51 rfl ?_
        refine aw_iload_n dX10_nextGap_52 rfl ?_
        refine aw_iconst (v := 1) dX10_nextGap_53 (by decide) ?_
        refine aw_isub dX10_nextGap_54 ?_
        refine ap_callVi kv_X10_117 ko_X10_availableOf (c_X10_availableOf hn hs hsl hb hbl hk hkc _) dX10_nextGap_55 e_63 (l_63 hn) rfl rfl rfl rfl (ble' rfl) (by decide) ?_
        refine aw_if_ne 63 dX10_nextGap_58 (by decide) (fun c58 => ?_) (fun c58 => ?_)
        · refine aw_iinc (lo' := [_, _, _, some (.int _)]) dX10_nextGap_63 rfl (by decide) rfl ?_
          refine aw_goto 34 dX10_nextGap_66 (by decide) ?_
          exact ih (i + 1) _ (by omega) (by omega) (by rw [h3]; exact inc1 _) (gap_no h4 (by rw [h3] at c58; simp [frR, c58]))
        · refine aw_iload_n dX10_nextGap_61 rfl ?_
          refine aw_iret rfl dX10_nextGap_62 (ble' rfl) (ble' rfl) ?_
          exact hR _ (by rw [h3]; exact (gap_hit h4 (by have := av_pos.mp n47; rw [h3] at this c58; simp [frR, this, c58]) (by omega) (by omega)).symm)

def cr_nextGap (M : Nat → Nat → Int32) (c f : Int32) : Nat := if ¬ (0 ≤ c ∧ c ≤ M 64 1 - 1) then 1 else if ¬ (0 ≤ f ∧ f ≤ 999) then 2 else 0
set_option maxRecDepth 100000 in
set_option maxHeartbeats 4000000 in
theorem c_X10_nextGap {G : AG} {M : Nat → Nat → Int32} {n : Nat} (hn : 72 ≤ n) {nc ns nz nb nr tt : Nat} (hI : CR M nc ns nz nb nr tt)  (c f : Int32) : AMet tX10_nextGap yX10_nextGap [Cond.code yX10_nextGap cX10_nextGap 4 (some .int)] [.ref 63, .int c, .int f] (wld G M) n (PR (cr_nextGap M c f) (gapN (fun i => frR M (nsR M) (nbR M) c.toNatClampNeg c (nI i) && !frR M (nsR M) (nbR M) c.toNatClampNeg c (nI i - 1)) f.toNatClampNeg (999 - f.toNatClampNeg)) G M M n) := by
  refine am_of (lo := [_, _, _, _]) (by decide) rfl (fun q => by cases q) rfl rfl rfl ?_
  refine aw_aload_n dX10_nextGap_0 rfl ?_
  refine aw_iconst (v := 0) dX10_nextGap_1 (by decide) ?_
  refine aw_put fp_X10_36_m dX10_nextGap_2 e_63 (l_63 hn) (ble' rfl) (fun _ => ⟨rfl, rfl⟩) (hwf rfl) ?_
  obtain ⟨M', e64, e63, eRS, e4, eW⟩ : ∃ M', M 64 = M' 64 ∧ (∀ j, j ≠ 4 → M 63 j = M' 63 j) ∧ RS M M' ∧ M' 63 4 = 0 ∧ wld G (updM M 63 (upd (M 63) 4 0)) = wld G M' := ⟨_, rfl, fun j h => (if_neg h).symm, rs_1, rfl, rfl⟩
  refine aw_heq eW ?_
  rw [show cr_nextGap M c f = cr_nextGap M' c f from by unfold cr_nextGap; simp only [e64, V_eq e64, rlV_eq e64, avV_eq e64, frR_eq e64, onV_eq e64, mnV_eq e64, osV_eq e64, vaV_eq e64, nsR_eq e64, nbR_eq e64, nzR_eq e64, nrR_eq e64]]
  rw [show (gapN (fun i => frR M (nsR M) (nbR M) c.toNatClampNeg c (nI i) && !frR M (nsR M) (nbR M) c.toNatClampNeg c (nI i - 1)) f.toNatClampNeg (999 - f.toNatClampNeg)) = (gapN (fun i => frR M' (nsR M') (nbR M') c.toNatClampNeg c (nI i) && !frR M' (nsR M') (nbR M') c.toNatClampNeg c (nI i - 1)) f.toNatClampNeg (999 - f.toNatClampNeg)) from by simp only [e64, V_eq e64, rlV_eq e64, avV_eq e64, frR_eq e64, onV_eq e64, mnV_eq e64, osV_eq e64, vaV_eq e64, nsR_eq e64, nbR_eq e64, nzR_eq e64, nrR_eq e64]]
  have hI' : CR M' nc ns nz nb nr tt := by unfold CR at hI ⊢; rw [← e64]; exact hI
  clear hI eW
  obtain ⟨hc, hcl, hs, hsl, hz, hzl, hb, hbl, hr, hrl, ht, htl⟩ := id hI'
  have ens : nsR M' = ns := cl_of hs (by omega)
  have enb : nbR M' = nb := cl_of hb (by omega)
  have enz : nzR M' = nz := cl_of hz (by omega)
  have enr : nrR M' = nr := cl_of hr (by omega)
  refine aw_aload_n dX10_nextGap_5 rfl ?_
  refine aw_iload_n dX10_nextGap_6 rfl ?_
  refine ap_callVi kv_X10_51 ko_X10_isClass (c_X10_isClass hn _) dX10_nextGap_7 e_63 (l_63 hn) rfl rfl rfl rfl (ble' rfl) (by decide) ?_
  refine aw_if_ne 19 dX10_nextGap_10 (by decide) (fun c10 => ?_) (fun c10 => ?_)
  · have n10 := bI_nz.mp c10
    obtain ⟨kc, hkc, hk⟩ := cls_of hc (by omega) n10
    refine aw_iload_n dX10_nextGap_19 rfl ?_
    refine ap_callSi ks_X10_58 ko_X10_isDay (c_X10_isDay _) dX10_nextGap_20 rfl rfl (ble' rfl) (by decide) ?_
    refine aw_if_ne 32 dX10_nextGap_23 (by decide) (fun c23 => ?_) (fun c23 => ?_)
    · have n23 := bI_nz.mp c23
      obtain ⟨d, hd9, hd⟩ := day_of (show (999 : Int32) = nI 999 from rfl) (by decide) n23
      refine aw_iload_n dX10_nextGap_32 rfl ?_
      refine aw_istore_n (lo' := [_, _, _, some (.int _)]) dX10_nextGap_33 (by decide) rfl ?_
      exact lp_X10_nextGap hn hs hsl hb hbl hk (by omega) hd9 (fun v q => pr_ok (by rw [cr_nextGap, if_neg (fun q => q n10), if_neg (fun q => q n23)]) (by rw [ens, enb, cl_of hk (by omega), cl_of hd (by omega)]; exact q) eRS e4) 1001 0 _ (by omega) (by omega) hd rfl
    · have n23 := bI_z.mp c23
      refine aw_aload_n dX10_nextGap_26 rfl ?_
      refine aw_iconst (v := 2) dX10_nextGap_27 (by decide) ?_
      refine ap_callVi kv_X10_43 ko_X10_fail (c_X10_fail hn _) dX10_nextGap_28 e_63 (l_63 hn) rfl rfl rfl rfl (ble' rfl) (by decide) ?_
      refine aw_iret rfl dX10_nextGap_31 (ble' rfl) (ble' rfl) ?_
      exact pr_no (k := 1) (by rw [cr_nextGap, if_neg (fun q => q n10), if_pos n23]) (rs_tr eRS rs_1) rfl
  · have n10 := bI_z.mp c10
    refine aw_aload_n dX10_nextGap_13 rfl ?_
    refine aw_iconst (v := 1) dX10_nextGap_14 (by decide) ?_
    refine ap_callVi kv_X10_43 ko_X10_fail (c_X10_fail hn _) dX10_nextGap_15 e_63 (l_63 hn) rfl rfl rfl rfl (ble' rfl) (by decide) ?_
    refine aw_iret rfl dX10_nextGap_18 (ble' rfl) (ble' rfl) ?_
    exact pr_no (k := 0) (by rw [cr_nextGap, if_pos n10]) (rs_tr eRS rs_1) rfl
