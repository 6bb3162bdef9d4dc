def spV (M : Nat → Nat → Int32) (ns nb : Nat) (c : Int32) (i : Nat) : Bool := decide (nI (cnt (tkB (V M 16) (V M 17) (V M 18) (V M 20) c (nI i)) nb) < (if M 64 0 ≤ nI i ∧ nI i ≤ 998 then nI (cnt (opB (V M 7) (V M 8) c (nI i)) ns) else 0))
theorem spV_eq {A B : Nat → Nat → Int32} (h : A 64 = B 64) : spV A = spV B := by funext a b c d; unfold spV; simp only [V_eq h, h]
set_option maxRecDepth 100000 in
set_option maxHeartbeats 4000000 in
theorem lp_X10_hasSpareSite {G : AG} {M : Nat → Nat → Int32} {n : Nat} (hn : 72 ≤ n) {ns : Nat} (hs : M 64 2 = nI ns) (hsl : ns ≤ 16) {nb : Nat} (hb : M 64 4 = nI nb) (hbl : nb ≤ 60) {c u : Int32} {a b : Nat} (hab : a ≤ b) (hb9 : b ≤ 999) (hu : u = nI b) : ∀ (j i : Nat) (x3 x4 : Int32), b - (a + i) < j → a + i ≤ b → x4 = nI (a + i) → x3 = bI ((allN (spV M ns nb c) a i) = true) →  AW tX10_hasSpareSite (AQm tX10_hasSpareSite (PD (.inl (some (.int (bI ((allN (spV M ns nb c) a (b - a)) = true))))) (wld G M) n)) C0 10 [some (.ref 63), some (.int c), some (.int u), some (.int x3), some (.int x4)] [] (wld G M) n 0 0 := by
  intro j
  induction j with
  | zero => intro i x3 x4 h0; omega
  | succ j ih =>
    intro i x3 x4 h0 hi h4 h3
    refine aw_iload dX10_hasSpareSite_10 rfl ?_
    refine aw_iload_n dX10_hasSpareSite_12 rfl ?_
    refine aw_icmp_ge 49 dX10_hasSpareSite_13 (by decide) (fun c13 => ?_) (fun c13 => ?_)
    · have n13 := Int32.not_lt.mpr c13
      refine aw_iload_n dX10_hasSpareSite_49 rfl ?_
      refine aw_zret rfl dX10_hasSpareSite_50 (by rw [h3]; exact bI_narrow _) (ble' rfl) (ble' rfl) ?_
      have hie : i = b - a := by have := le_of_le hu h4 (by omega) (by omega) c13; omega
      exact pd_i (by rw [h3, hie])
    · have n13 := Int32.not_le.mp c13
      have hlt : a + i < b := lt_of_nle hu h4 (by omega) (by omega) c13
      refine aw_iload_n dX10_hasSpareSite_16 rfl ?_
      refine aw_if_eq 41 dX10_hasSpareSite_17 (by decide) (fun c17 => ?_) (fun c17 => ?_)
      · refine aw_iconst (v := 0) dX10_hasSpareSite_41 (by decide) ?_
        refine aw_istore_n (lo' := [_, _, _, some (.int _), _]) dX10_hasSpareSite_42 (by decide) rfl ?_
        refine aw_iinc (lo' := [_, _, _, _, some (.int _)]) dX10_hasSpareSite_43 rfl (by decide) rfl ?_
        refine aw_goto 10 dX10_hasSpareSite_46 (by decide) ?_
        have q9 : ¬ (allN (spV M ns nb c) a i) = true := bI_z.mp (by rw [← h3]; exact c17)
        exact ih (i + 1) _ _ (by omega) (by omega) (by rw [h4]; exact inc1 _) (bI_f (by unfold allN; simp only [Bool.not_eq_true] at q9; rw [q9]; simp)).symm
      · refine aw_aload_n dX10_hasSpareSite_20 rfl ?_
        refine aw_iload_n dX10_hasSpareSite_21 rfl ?_
        refine aw_iload dX10_hasSpareSite_22 rfl ?_
        refine ap_callVi kv_X10_94 ko_X10_capacityOf (c_X10_capacityOf hn hs hsl c _) dX10_hasSpareSite_24 e_63 (l_63 hn) rfl rfl rfl rfl (ble' rfl) (by decide) ?_
        refine aw_aload_n dX10_hasSpareSite_27 rfl ?_
        refine aw_iload_n dX10_hasSpareSite_28 rfl ?_
        refine aw_iload dX10_hasSpareSite_29 rfl ?_
        refine ap_callVi kv_X10_111 ko_X10_takenOf (c_X10_takenOf hn hb hbl c _) dX10_hasSpareSite_31 e_63 (l_63 hn) rfl rfl rfl rfl (ble' rfl) (by decide) ?_
        refine aw_icmp_le 41 dX10_hasSpareSite_34 (by decide) (fun c34 => ?_) (fun c34 => ?_)
        · have n34 := Int32.not_lt.mpr c34
          refine aw_iconst (v := 0) dX10_hasSpareSite_41 (by decide) ?_
          refine aw_istore_n (lo' := [_, _, _, some (.int _), _]) dX10_hasSpareSite_42 (by decide) rfl ?_
          refine aw_iinc (lo' := [_, _, _, _, some (.int _)]) dX10_hasSpareSite_43 rfl (by decide) rfl ?_
          refine aw_goto 10 dX10_hasSpareSite_46 (by decide) ?_
          have q9 : (allN (spV M ns nb c) a i) = true := bI_nz.mp (by rw [← h3]; exact c17)
          exact ih (i + 1) _ _ (by omega) (by omega) (by rw [h4]; exact inc1 _) (bI_f (by unfold allN; rw [q9, show spV M ns nb c (a + i) = false from decide_eq_false (by rw [← h4]; exact n34)]; simp)).symm
        · have n34 := Int32.not_le.mp c34
          refine aw_iconst (v := 1) dX10_hasSpareSite_37 (by decide) ?_
          refine aw_goto 42 dX10_hasSpareSite_38 (by decide) ?_
          refine aw_istore_n (lo' := [_, _, _, some (.int _), _]) dX10_hasSpareSite_42 (by decide) rfl ?_
          refine aw_iinc (lo' := [_, _, _, _, some (.int _)]) dX10_hasSpareSite_43 rfl (by decide) rfl ?_
          refine aw_goto 10 dX10_hasSpareSite_46 (by decide) ?_
          have q9 : (allN (spV M ns nb c) a i) = true := bI_nz.mp (by rw [← h3]; exact c17)
          exact ih (i + 1) _ _ (by omega) (by omega) (by rw [h4]; exact inc1 _) (bI_t (by unfold allN; rw [q9, show spV M ns nb c (a + i) = true from decide_eq_true (by rw [← h4]; exact n34)]; rfl)).symm

set_option maxRecDepth 100000 in
set_option maxHeartbeats 4000000 in
theorem c_X10_hasSpareSite {G : AG} {M : Nat → Nat → Int32} {n : Nat} (hn : 72 ≤ n) {ns : Nat} (hs : M 64 2 = nI ns) (hsl : ns ≤ 16) {nb : Nat} (hb : M 64 4 = nI nb) (hbl : nb ≤ 60) {c u : Int32} {a b : Nat} (ht : M 64 0 = nI a) (hab : a ≤ b) (hb9 : b ≤ 999) (hu : u = nI b) : AMet tX10_hasSpareSite yX10_hasSpareSite [Cond.code yX10_hasSpareSite cX10_hasSpareSite 5 (some .boolean)] [.ref 63, .int c, .int u] (wld G M) n (PD (.inl (some (.int (bI ((allN (spV M ns nb c) a (b - a)) = true))))) (wld G M) n) := by
  refine am_of (lo := [_, _, _, _, _]) (by decide) rfl (fun q => by cases q) rfl rfl rfl ?_
  refine aw_iconst (v := 1) dX10_hasSpareSite_0 (by decide) ?_
  refine aw_istore_n (lo' := [_, _, _, some (.int _), _]) dX10_hasSpareSite_1 (by decide) rfl ?_
  refine aw_aload_n dX10_hasSpareSite_2 rfl ?_
  refine aw_get fl_X10_7 dX10_hasSpareSite_3 e_63 (l_63 hn) rfl ?_
  refine aw_iconst (v := 0) dX10_hasSpareSite_6 (by decide) ?_
  refine aw_ialdk dX10_hasSpareSite_7 e_64 (l_64 hn) (show (0 : Int32) = nI 0 from rfl) (by decide) rfl ?_
  refine aw_istore (lo' := [_, _, _, _, some (.int _)]) dX10_hasSpareSite_8 (by decide) rfl ?_
  exact lp_X10_hasSpareSite hn hs hsl hb hbl hab hb9 hu (b + 1) 0 _ _ (by omega) (by omega) ht rfl

def cr_close (M : Nat → Nat → Int32) (s u : Int32) : Nat := if ¬ (0 ≤ s ∧ s ≤ M 64 2 - 1) then 1 else if ¬ (M 64 0 + 1 ≤ u ∧ u ≤ 999) then 2 else if ¬ (vaV M (nbR M) s s.toNatClampNeg = true ∧ allN (spV M (nsR M) (nbR M) (V M 7 s.toNatClampNeg)) (M 64 0).toNatClampNeg (u.toNatClampNeg - (M 64 0).toNatClampNeg) = true) then 3 else 0
set_option maxRecDepth 100000 in
set_option maxHeartbeats 4000000 in
theorem c_X10_close {G : AG} {M : Nat → Nat → Int32} {n : Nat} (hn : 72 ≤ n) {nc ns nz nb nr tt : Nat} (hI : CR M nc ns nz nb nr tt)  (s u : Int32) : AMet tX10_close yX10_close [Cond.code yX10_close cX10_close 3 none] [.ref 63, .int s, .int u] (wld G M) n (PRv (cr_close M s u) G M (w64 M (20 + 2 * s.toNatClampNeg + 1) u) n) := by
  refine am_of (lo := [_, _, _]) (by decide) rfl (fun q => by cases q) rfl rfl rfl ?_
  refine aw_aload_n dX10_close_0 rfl ?_
  refine aw_iconst (v := 0) dX10_close_1 (by decide) ?_
  refine aw_put fp_X10_36_m dX10_close_2 e_63 (l_63 hn) (ble' rfl) (fun _ => ⟨rfl, rfl⟩) (hwf rfl) ?_
  obtain ⟨M', e64, e63, eRS, e4, eW⟩ : ∃ M', M 64 = M' 64 ∧ (∀ j, j ≠ 4 → M 63 j = M' 63 j) ∧ RS M M' ∧ M' 63 4 = 0 ∧ wld G (updM M 63 (upd (M 63) 4 0)) = wld G M' := ⟨_, rfl, fun j h => (if_neg h).symm, rs_1, rfl, rfl⟩
  refine aw_heq eW ?_
  rw [show cr_close M s u = cr_close M' s u from by unfold cr_close; simp only [e64, V_eq e64, rlV_eq e64, avV_eq e64, frR_eq e64, onV_eq e64, mnV_eq e64, osV_eq e64, vaV_eq e64, spV_eq e64, nsR_eq e64, nbR_eq e64, nzR_eq e64, nrR_eq e64]]
  have hI' : CR M' nc ns nz nb nr tt := by unfold CR at hI ⊢; rw [← e64]; exact hI
  clear hI eW
  obtain ⟨hc, hcl, hs, hsl, hz, hzl, hb, hbl, hr, hrl, ht, htl⟩ := id hI'
  have ens : nsR M' = ns := cl_of hs (by omega)
  have enb : nbR M' = nb := cl_of hb (by omega)
  have enz : nzR M' = nz := cl_of hz (by omega)
  have enr : nrR M' = nr := cl_of hr (by omega)
  refine aw_aload_n dX10_close_5 rfl ?_
  refine aw_iload_n dX10_close_6 rfl ?_
  refine ap_callVi kv_X10_65 ko_X10_isSite (c_X10_isSite hn _) dX10_close_7 e_63 (l_63 hn) rfl rfl rfl rfl (ble' rfl) (by decide) ?_
  refine aw_if_ne 21 dX10_close_10 (by decide) (fun c10 => ?_) (fun c10 => ?_)
  · have n10 := bI_nz.mp c10
    obtain ⟨ks, hks, hkS⟩ := cls_of hs (by omega) n10
    refine aw_iload_n dX10_close_21 rfl ?_
    refine aw_aload_n dX10_close_22 rfl ?_
    refine aw_get fl_X10_7 dX10_close_23 e_63 (l_63 hn) rfl ?_
    refine aw_iconst (v := 0) dX10_close_26 (by decide) ?_
    refine aw_ialdk dX10_close_27 e_64 (l_64 hn) (show (0 : Int32) = nI 0 from rfl) (by decide) rfl ?_
    refine aw_iconst (v := 1) dX10_close_28 (by decide) ?_
    refine aw_iadd dX10_close_29 ?_
    refine aw_sipush (v := 999) dX10_close_30 (by decide) ?_
    refine ap_callSi ks_X10_39 ko_X10_isBetween (c_X10_isBetween _ _ _) dX10_close_33 rfl rfl (ble' rfl) (by decide) ?_
    refine aw_if_ne 47 dX10_close_36 (by decide) (fun c36 => ?_) (fun c36 => ?_)
    · have n36 := bI_nz.mp c36
      obtain ⟨ku, hut, hu9, hu⟩ := rng_of (show M' 64 0 + 1 = nI (tt + 1) by rw [ht]; exact nI_1 tt) (by omega) (show (999 : Int32) = nI 999 from rfl) (by decide) n36
      refine aw_aload_n dX10_close_47 rfl ?_
      refine aw_iload_n dX10_close_48 rfl ?_
      refine ap_callVi kv_X10_150 ko_X10_isVacant (c_X10_isVacant hn hb hbl hkS (by omega)) dX10_close_49 e_63 (l_63 hn) rfl rfl rfl rfl (ble' rfl) (by decide) ?_
      refine aw_if_eq 69 dX10_close_52 (by decide) (fun c52 => ?_) (fun c52 => ?_)
      · have n52 := bI_z.mp c52
        refine aw_aload_n dX10_close_69 rfl ?_
        refine aw_iconst (v := 3) dX10_close_70 (by decide) ?_
        refine aw_put fp_X10_36_m dX10_close_71 e_63 (l_63 hn) (ble' rfl) (fun _ => ⟨rfl, rfl⟩) (hwf rfl) ?_
        refine aw_goto 91 dX10_close_74 (by decide) ?_
        refine aw_vret rfl dX10_close_91 (ble' rfl) (ble' rfl) ?_
        exact pr_nov (k := 2) (by rw [cr_close, if_neg (fun q => q n10), if_neg (fun q => q n36), if_pos (fun q => n52 (by rw [cl_of hkS (show ks < 2 ^ 31 by omega), enb] at q; exact q.1))]) (rs_tr eRS rs_1) rfl
      · have n52 := bI_nz.mp c52
        refine aw_aload_n dX10_close_55 rfl ?_
        refine aw_aload_n dX10_close_56 rfl ?_
        refine aw_iload_n dX10_close_57 rfl ?_
        refine aw_iconst (v := 0) dX10_close_58 (by decide) ?_
        refine ap_callVi kv_X10_68 ko_X10_site (c_X10_site_0 hn hkS (by omega)) dX10_close_59 e_63 (l_63 hn) rfl rfl rfl rfl (ble' rfl) (by decide) ?_
        refine aw_iload_n dX10_close_62 rfl ?_
        refine ap_callVi kv_X10_165 ko_X10_hasSpareSite (c_X10_hasSpareSite hn hs hsl hb hbl ht (by omega) hu9 hu) dX10_close_63 e_63 (l_63 hn) rfl rfl rfl rfl (ble' rfl) (by decide) ?_
        refine aw_if_ne 77 dX10_close_66 (by decide) (fun c66 => ?_) (fun c66 => ?_)
        · have n66 := bI_nz.mp c66
          refine aw_aload_n dX10_close_77 rfl ?_
          refine aw_get fl_X10_7 dX10_close_78 e_63 (l_63 hn) rfl ?_
          refine aw_bipush (v := 20) dX10_close_81 (by decide) ?_
          refine aw_iconst (v := 2) dX10_close_83 (by decide) ?_
          refine aw_iload_n dX10_close_84 rfl ?_
          refine aw_imul dX10_close_85 ?_
          refine aw_iadd dX10_close_86 ?_
          refine aw_iconst (v := 1) dX10_close_87 (by decide) ?_
          refine aw_iadd dX10_close_88 ?_
          refine aw_iload_n dX10_close_89 rfl ?_
          refine aw_iastk dX10_close_90 e_64 (l_64 hn) (k := 20 + 2 * ks + 1) (by rw [hkS, show (20 : Int32) = nI 20 from rfl, show (2 : Int32) = nI 2 from rfl, nI_mul, nI_add]; exact nI_add _ 1) (by omega) rfl hw64 ?_
          refine aw_vret rfl dX10_close_91 (ble' rfl) (ble' rfl) ?_
          exact pr_okv (by rw [cr_close, if_neg (fun q => q n10), if_neg (fun q => q n36), if_neg (fun q => q (by rw [cl_of hkS (show ks < 2 ^ 31 by omega), ens, enb, cl_of ht (by omega), cl_of hu (by omega)]; exact ⟨n52, n66⟩))]) (by rw [cl_of hkS (show ks < 2 ^ 31 by omega)]; exact rs_w eRS) e4
        · have n66 := bI_z.mp c66
          refine aw_aload_n dX10_close_69 rfl ?_
          refine aw_iconst (v := 3) dX10_close_70 (by decide) ?_
          refine aw_put fp_X10_36_m dX10_close_71 e_63 (l_63 hn) (ble' rfl) (fun _ => ⟨rfl, rfl⟩) (hwf rfl) ?_
          refine aw_goto 91 dX10_close_74 (by decide) ?_
          refine aw_vret rfl dX10_close_91 (ble' rfl) (ble' rfl) ?_
          exact pr_nov (k := 2) (by rw [cr_close, if_neg (fun q => q n10), if_neg (fun q => q n36), if_pos (fun q => n66 (by rw [cl_of hkS (show ks < 2 ^ 31 by omega), ens, enb, cl_of ht (by omega), cl_of hu (by omega)] at q; exact q.2))]) (rs_tr eRS rs_1) rfl
    · have n36 := bI_z.mp c36
      refine aw_aload_n dX10_close_39 rfl ?_
      refine aw_iconst (v := 2) dX10_close_40 (by decide) ?_
      refine aw_put fp_X10_36_m dX10_close_41 e_63 (l_63 hn) (ble' rfl) (fun _ => ⟨rfl, rfl⟩) (hwf rfl) ?_
      refine aw_goto 91 dX10_close_44 (by decide) ?_
      refine aw_vret rfl dX10_close_91 (ble' rfl) (ble' rfl) ?_
      exact pr_nov (k := 1) (by rw [cr_close, if_neg (fun q => q n10), if_pos n36]) (rs_tr eRS rs_1) rfl
  · have n10 := bI_z.mp c10
    refine aw_aload_n dX10_close_13 rfl ?_
    refine aw_iconst (v := 1) dX10_close_14 (by decide) ?_
    refine aw_put fp_X10_36_m dX10_close_15 e_63 (l_63 hn) (ble' rfl) (fun _ => ⟨rfl, rfl⟩) (hwf rfl) ?_
    refine aw_goto 91 dX10_close_18 (by decide) ?_
    refine aw_vret rfl dX10_close_91 (ble' rfl) (ble' rfl) ?_
    exact pr_nov (k := 0) (by rw [cr_close, if_pos n10]) (rs_tr eRS rs_1) rfl
