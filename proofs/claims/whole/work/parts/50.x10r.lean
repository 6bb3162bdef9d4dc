theorem edB_63 {M : Nat → Nat → Int32} {t : Int32} : ∀ k, edB M t k 63 = M 63
  | 0 => rfl
  | k + 1 => by rw [edB, w64_63]; exact edB_63 k
theorem edQ_63 {M : Nat → Nat → Int32} {t : Int32} : ∀ k, edQ M t k 63 = M 63
  | 0 => rfl
  | k + 1 => by rw [edQ, w64_63]; exact edQ_63 k
theorem edN_63 {M : Nat → Nat → Int32} {nb nr : Nat} : ∀ k, edN M nb nr k 63 = M 63
  | 0 => rfl
  | k + 1 => by rw [edN, edM, w64_63, edQ_63, edB_63]; exact edN_63 k
theorem edN_0 {M : Nat → Nat → Int32} {nb nr : Nat} : ∀ k, edN M nb nr k 64 0 = M 64 0 + nI k
  | 0 => by rw [edN, show nI 0 = 0 from rfl, Int32.add_zero]
  | k + 1 => by rw [edN, edM, w64_s, edQ_c (by decide), edB_c (by decide), edN_0 k, Int32.add_assoc, ← nI_succ]
set_option maxRecDepth 100000 in
set_option maxHeartbeats 4000000 in
theorem lp_X10_endDays {G : AG} {M : Nat → Nat → Int32} {n : Nat} (hn : 72 ≤ n) {nb nr D : Nat} (hb : M 64 4 = nI nb) (hbl : nb ≤ 60) (hr : M 64 5 = nI nr) (hrl : nr ≤ 20) {d : Int32} (hd : d = nI D) (hD : D ≤ 60) {Po : APost} (hR : Po (.inl (some (.int (edN M nb nr D 64 0)))) (wld G (edN M nb nr D)) n) : ∀ (j k : Nat) (x2 : Int32), D - k < j → k ≤ D → x2 = nI k →  AW tX10_endDays (AQm tX10_endDays (Po)) C0 43 [some (.ref 63), some (.int d), some (.int x2)] [] (wld G (edN M nb nr k)) n 0 0 := by
  intro j
  induction j with
  | zero => intro k x2 h0; omega
  | succ j ih =>
    intro k x2 h0 hk h2
    refine aw_iload_n dX10_endDays_43 rfl ?_
    refine aw_iload_n dX10_endDays_44 rfl ?_
    refine aw_icmp_ge 58 dX10_endDays_45 (by decide) (fun c45 => ?_) (fun c45 => ?_)
    · have n45 := Int32.not_lt.mpr c45
      refine aw_aload_n dX10_endDays_58 rfl ?_
      refine aw_get fl_X10_7 dX10_endDays_59 e_63 (l_63 hn) rfl ?_
      refine aw_iconst (v := 0) dX10_endDays_62 (by decide) ?_
      refine aw_ialdk dX10_endDays_63 e_64 (l_64 hn) (show (0 : Int32) = nI 0 from rfl) (by decide) rfl ?_
      refine aw_iret rfl dX10_endDays_64 (ble' rfl) (ble' rfl) ?_
      have hke : k = D := Nat.le_antisymm hk (le_of_le hd h2 (by omega) (by omega) c45)
      subst hke
      exact hR
    · have n45 := Int32.not_le.mp c45
      have hlt : k < D := lt_of_nle hd h2 (by omega) (by omega) c45
      refine aw_aload_n dX10_endDays_48 rfl ?_
      refine ap_callVv kv_X10_162 ko_X10_endDay (c_X10_endDay (M := edN M nb nr k) hn ((edN_c (by decide) (by decide) k).trans hb) hbl ((edN_c (by decide) (by decide) k).trans hr) hrl) dX10_endDays_49 e_63 (l_63 hn) rfl rfl rfl rfl (ble' rfl) (by decide) ?_
      refine aw_iinc (lo' := [_, _, some (.int _)]) dX10_endDays_52 rfl (by decide) rfl ?_
      refine aw_goto 43 dX10_endDays_55 (by decide) ?_
      refine aw_heq (h' := wld G (edN M nb nr (k + 1))) rfl ?_
      exact ih (k + 1) _ (by omega) (by omega) (by rw [h2]; exact inc1 k)

def cr_endDays (M : Nat → Nat → Int32) (d : Int32) : Nat := if ¬ (1 ≤ d ∧ d ≤ 60) then 1 else if ¬ (M 64 0 + d ≤ 999) then 2 else 0
set_option maxRecDepth 100000 in
set_option maxHeartbeats 4000000 in
theorem c_X10_endDays {G : AG} {M : Nat → Nat → Int32} {n : Nat} (hn : 72 ≤ n) {nc ns nz nb nr tt : Nat} (hI : CR M nc ns nz nb nr tt)  (d : Int32) : AMet tX10_endDays yX10_endDays [Cond.code yX10_endDays cX10_endDays 3 (some .int)] [.ref 63, .int d] (wld G M) n (PR (cr_endDays M d) (M 64 0 + d) G M (edN M (nbR M) (nrR M) d.toNatClampNeg) n) := by
  refine am_of (lo := [_, _, _]) (by decide) rfl (fun q => by cases q) rfl rfl rfl ?_
  refine aw_aload_n dX10_endDays_0 rfl ?_
  refine aw_iconst (v := 0) dX10_endDays_1 (by decide) ?_
  refine aw_put fp_X10_36_m dX10_endDays_2 e_63 (l_63 hn) (ble' rfl) (fun _ => ⟨rfl, rfl⟩) (hwf rfl) ?_
  obtain ⟨M', e64, e63, eRS, e4, eW⟩ : ∃ M', M 64 = M' 64 ∧ (∀ j, j ≠ 4 → M 63 j = M' 63 j) ∧ RS M M' ∧ M' 63 4 = 0 ∧ wld G (updM M 63 (upd (M 63) 4 0)) = wld G M' := ⟨_, rfl, fun j h => (if_neg h).symm, rs_1, rfl, rfl⟩
  refine aw_heq eW ?_
  rw [show cr_endDays M d = cr_endDays M' d from by unfold cr_endDays; simp only [e64, V_eq e64, rlV_eq e64, avV_eq e64, frR_eq e64, onV_eq e64, mnV_eq e64, osV_eq e64, vaV_eq e64, nsR_eq e64, nbR_eq e64, nzR_eq e64, nrR_eq e64]]
  rw [show (M 64 0 + d) = (M' 64 0 + d) from by simp only [e64, V_eq e64, rlV_eq e64, avV_eq e64, frR_eq e64, onV_eq e64, mnV_eq e64, osV_eq e64, vaV_eq e64, nsR_eq e64, nbR_eq e64, nzR_eq e64, nrR_eq e64]]
  have hI' : CR M' nc ns nz nb nr tt := by unfold CR at hI ⊢; rw [← e64]; exact hI
  clear hI eW
  obtain ⟨hc, hcl, hs, hsl, hz, hzl, hb, hbl, hr, hrl, ht, htl⟩ := id hI'
  have ens : nsR M' = ns := cl_of hs (by omega)
  have enb : nbR M' = nb := cl_of hb (by omega)
  have enz : nzR M' = nz := cl_of hz (by omega)
  have enr : nrR M' = nr := cl_of hr (by omega)
  refine aw_iload_n dX10_endDays_5 rfl ?_
  refine aw_iconst (v := 1) dX10_endDays_6 (by decide) ?_
  refine aw_bipush (v := 60) dX10_endDays_7 (by decide) ?_
  refine ap_callSi ks_X10_39 ko_X10_isBetween (c_X10_isBetween _ _ _) dX10_endDays_9 rfl rfl (ble' rfl) (by decide) ?_
  refine aw_if_ne 21 dX10_endDays_12 (by decide) (fun c12 => ?_) (fun c12 => ?_)
  · have n12 := bI_nz.mp c12
    refine aw_aload_n dX10_endDays_21 rfl ?_
    refine aw_get fl_X10_7 dX10_endDays_22 e_63 (l_63 hn) rfl ?_
    refine aw_iconst (v := 0) dX10_endDays_25 (by decide) ?_
    refine aw_ialdk dX10_endDays_26 e_64 (l_64 hn) (show (0 : Int32) = nI 0 from rfl) (by decide) rfl ?_
    refine aw_iload_n dX10_endDays_27 rfl ?_
    refine aw_iadd dX10_endDays_28 ?_
    refine aw_sipush (v := 999) dX10_endDays_29 (by decide) ?_
    refine aw_icmp_le 41 dX10_endDays_32 (by decide) (fun c32 => ?_) (fun c32 => ?_)
    · have n32 := Int32.not_lt.mpr c32
      refine aw_iconst (v := 0) dX10_endDays_41 (by decide) ?_
      refine aw_istore_n (lo' := [_, _, some (.int _)]) dX10_endDays_42 (by decide) rfl ?_
      obtain ⟨D, hD1, hD, hd⟩ := rng_of (show (1 : Int32) = nI 1 from rfl) (by decide) (show (60 : Int32) = nI 60 from rfl) (by decide) n12
      exact lp_X10_endDays hn hb hbl hr hrl hd hD (pr_ok (by rw [cr_endDays, if_neg (fun q => q n12), if_neg (fun q => q c32)]) (by rw [edN_0, ← hd]) (by rw [nbR_eq e64, nrR_eq e64, enb, enr, cl_of hd (by omega)]; exact rs_N eRS _) (by rw [edN_63]; exact e4)) (D + 1) 0 _ (by omega) (by omega) rfl
    · have n32 := Int32.not_le.mp c32
      refine aw_aload_n dX10_endDays_35 rfl ?_
      refine aw_iconst (v := 2) dX10_endDays_36 (by decide) ?_
      refine ap_callVi kv_X10_43 ko_X10_fail (c_X10_fail hn _) dX10_endDays_37 e_63 (l_63 hn) rfl rfl rfl rfl (ble' rfl) (by decide) ?_
      refine aw_iret rfl dX10_endDays_40 (ble' rfl) (ble' rfl) ?_
      exact pr_no (k := 1) (by rw [cr_endDays, if_neg (fun q => q n12), if_pos c32]) (rs_tr eRS rs_1) rfl
  · have n12 := bI_z.mp c12
    refine aw_aload_n dX10_endDays_15 rfl ?_
    refine aw_iconst (v := 1) dX10_endDays_16 (by decide) ?_
    refine ap_callVi kv_X10_43 ko_X10_fail (c_X10_fail hn _) dX10_endDays_17 e_63 (l_63 hn) rfl rfl rfl rfl (ble' rfl) (by decide) ?_
    refine aw_iret rfl dX10_endDays_20 (ble' rfl) (ble' rfl) ?_
    exact pr_no (k := 0) (by rw [cr_endDays, if_pos n12]) (rs_tr eRS rs_1) rfl

def cr_withdraw (M : Nat → Nat → Int32) (r : Int32) : Nat := if ¬ (0 ≤ r ∧ r ≤ M 64 5 - 1) then 1 else if ¬ (V M 26 r.toNatClampNeg = 0) then 2 else 0
set_option maxRecDepth 100000 in
set_option maxHeartbeats 4000000 in
theorem c_X10_withdraw {G : AG} {M : Nat → Nat → Int32} {n : Nat} (hn : 72 ≤ n) {nc ns nz nb nr tt : Nat} (hI : CR M nc ns nz nb nr tt) (r : Int32) : AMet tX10_withdraw yX10_withdraw [Cond.code yX10_withdraw cX10_withdraw 2 none] [.ref 63, .int r] (wld G M) n (PRv (cr_withdraw M r) G M (w64 M (472 + 5 * r.toNatClampNeg + 3) 2) n) := by
  obtain ⟨hc, hcl, hs, hsl, hz, hzl, hb, hbl, hr, hrl, ht, htl⟩ := id hI
  refine am_of (lo := [_, _]) (by decide) rfl (fun q => by cases q) rfl rfl rfl ?_
  refine aw_aload_n dX10_withdraw_0 rfl ?_
  refine aw_aload_n dX10_withdraw_1 rfl ?_
  refine aw_iload_n dX10_withdraw_2 rfl ?_
  refine ap_callVi kv_X10_171 ko_X10_isRequest (c_X10_isRequest hn _) dX10_withdraw_3 e_63 (l_63 hn) rfl rfl rfl rfl (ble' rfl) (by decide) ?_
  refine aw_if_ne 13 dX10_withdraw_6 (by decide) (fun c6 => ?_) (fun c6 => ?_)
  · have n6 := bI_nz.mp c6
    obtain ⟨kr, hkr, hkR⟩ := cls_of hr (by omega) n6
    refine aw_aload_n dX10_withdraw_13 rfl ?_
    refine aw_iload_n dX10_withdraw_14 rfl ?_
    refine aw_iconst (v := 3) dX10_withdraw_15 (by decide) ?_
    refine ap_callVi kv_X10_156 ko_X10_requestField (c_X10_requestField_3 hn hkR (by omega)) dX10_withdraw_16 e_63 (l_63 hn) rfl rfl rfl rfl (ble' rfl) (by decide) ?_
    refine aw_if_eq 26 dX10_withdraw_19 (by decide) (fun c19 => ?_) (fun c19 => ?_)
    · refine aw_iconst (v := 0) dX10_withdraw_26 (by decide) ?_
      refine aw_put fp_X10_36_m dX10_withdraw_27 e_63 (l_63 hn) (ble' rfl) (fun _ => ⟨rfl, rfl⟩) (hwf rfl) ?_
      refine aw_aload_n dX10_withdraw_30 rfl ?_
      refine aw_get fl_X10_36 dX10_withdraw_31 e_63 (l_63 hn) rfl ?_
      refine aw_if_ne 44 dX10_withdraw_34 (by decide) (fun q => absurd (show ¬ (0 : Int32) = 0 from q) (by decide)) (fun _ => ?_)
      obtain ⟨M', eRS, e4, eW⟩ : ∃ M', RS M M' ∧ M' 63 4 = 0 ∧ wld G (updM M 63 (upd (M 63) 4 0)) = wld G M' := ⟨_, rs_1, rfl, rfl⟩
      refine aw_heq eW ?_
      refine aw_aload_n dX10_withdraw_37 rfl ?_
      refine aw_iload_n dX10_withdraw_38 rfl ?_
      refine aw_iconst (v := 3) dX10_withdraw_39 (by decide) ?_
      refine aw_iconst (v := 2) dX10_withdraw_40 (by decide) ?_
      refine ap_callVv kv_X10_159 ko_X10_setRequest (c_X10_setRequest hn hkR (by omega) (show (3 : Int32) = nI 3 from rfl) (by decide) _) dX10_withdraw_41 e_63 (l_63 hn) rfl rfl rfl rfl (ble' rfl) (by decide) ?_
      refine aw_vret rfl dX10_withdraw_44 (ble' rfl) (ble' rfl) ?_
      exact pr_okv (by rw [cr_withdraw, if_neg (fun q => q n6), if_neg (fun q => q (by rw [cl_of hkR (show kr < 2 ^ 31 by omega)]; exact c19))]) (by rw [cl_of hkR (show kr < 2 ^ 31 by omega)]; exact rs_w eRS) (by rw [w64_63]; exact e4)
    · refine aw_iconst (v := 2) dX10_withdraw_22 (by decide) ?_
      refine aw_goto 27 dX10_withdraw_23 (by decide) ?_
      refine aw_put fp_X10_36_m dX10_withdraw_27 e_63 (l_63 hn) (ble' rfl) (fun _ => ⟨rfl, rfl⟩) (hwf rfl) ?_
      refine aw_aload_n dX10_withdraw_30 rfl ?_
      refine aw_get fl_X10_36 dX10_withdraw_31 e_63 (l_63 hn) rfl ?_
      refine aw_if_ne 44 dX10_withdraw_34 (by decide) (fun _ => ?_) (fun q => absurd (show (2 : Int32) = 0 from q) (by decide))
      refine aw_vret rfl dX10_withdraw_44 (ble' rfl) (ble' rfl) ?_
      exact pr_nov (k := 1) (by rw [cr_withdraw, if_neg (fun q => q n6), if_pos (fun q => c19 (by rw [cl_of hkR (show kr < 2 ^ 31 by omega)] at q; exact q))]) rs_1 rfl
  · have n6 := bI_z.mp c6
    refine aw_iconst (v := 1) dX10_withdraw_9 (by decide) ?_
    refine aw_goto 27 dX10_withdraw_10 (by decide) ?_
    refine aw_put fp_X10_36_m dX10_withdraw_27 e_63 (l_63 hn) (ble' rfl) (fun _ => ⟨rfl, rfl⟩) (hwf rfl) ?_
    refine aw_aload_n dX10_withdraw_30 rfl ?_
    refine aw_get fl_X10_36 dX10_withdraw_31 e_63 (l_63 hn) rfl ?_
    refine aw_if_ne 44 dX10_withdraw_34 (by decide) (fun _ => ?_) (fun q => absurd (show (1 : Int32) = 0 from q) (by decide))
    refine aw_vret rfl dX10_withdraw_44 (ble' rfl) (ble' rfl) ?_
    exact pr_nov (k := 0) (by rw [cr_withdraw, if_pos n6]) rs_1 rfl

def RQV (M : Nat → Nat → Int32) (nr : Nat) : Prop := ∀ k, k < nr → ∃ a m : Nat, a ≤ 998 ∧ 1 ≤ m ∧ m ≤ 28 ∧ V M 24 k = nI a ∧ V M 25 k = nI m
def rqOkR (M : Nat → Nat → Int32) (ns nb nz kc : Nat) (c : Int32) (k : Nat) : Bool := decide (V M 26 k = 0 ∧ V M 23 k = c ∧ osV M ns nb nz kc c (V M 24 k) (V M 25 k) = 0)
def rqN (M : Nat → Nat → Int32) (ns nb nz kc : Nat) (c : Int32) : Nat → Int32 := bestN (rqOkR M ns nb nz kc c) (rqBt (V M 24) (V M 25))
def rqR (M : Nat → Nat → Int32) (c : Int32) : Int32 := rqN M (nsR M) (nbR M) (nzR M) c.toNatClampNeg c (nrR M)
set_option maxRecDepth 100000 in
set_option maxHeartbeats 4000000 in
theorem lp_X10_nextRequest {G : AG} {M : Nat → Nat → Int32} {n : Nat} (hn : 72 ≤ n) {ns nb nz nr tt : Nat} (hs : M 64 2 = nI ns) (hsl : ns ≤ 16) (hb : M 64 4 = nI nb) (hbl : nb ≤ 60) (hz : M 64 3 = nI nz) (hzl : nz ≤ 12) (hr : M 64 5 = nI nr) (hrl : nr ≤ 20) (ht : M 64 0 = nI tt) (htl : tt ≤ 999) {c : Int32} {kc : Nat} (hk : c = nI kc) (hkc : kc < 4) (hQ : RQV M nr) : ∀ (j k : Nat) (x2 x3 : Int32), nr - k < j → k ≤ nr → x3 = nI k → x2 = (rqN M ns nb nz kc c k) →  AW tX10_nextRequest (AQm tX10_nextRequest (PD (.inl (some (.int (rqN M ns nb nz kc c nr)))) (wld G M) n)) C0 4 [some (.ref 63), some (.int c), some (.int x2), some (.int x3), none] [] (wld G M) n 0 0 := by
  intro j
  induction j with
  | zero => intro k x2 x3 h0; omega
  | succ j ih =>
    intro k x2 x3 h0 hk9 h3 h2
    refine aw_iload_n dX10_nextRequest_4 rfl ?_
    refine aw_aload_n dX10_nextRequest_5 rfl ?_
    refine aw_get fl_X10_7 dX10_nextRequest_6 e_63 (l_63 hn) rfl ?_
    refine aw_iconst (v := 5) dX10_nextRequest_9 (by decide) ?_
    refine aw_ialdk dX10_nextRequest_10 e_64 (l_64 hn) (show (5 : Int32) = nI 5 from rfl) (by decide) rfl ?_
    refine aw_icmp_ge 87 dX10_nextRequest_11 (by decide) (fun c11 => ?_) (fun c11 => ?_)
    · have n11 := Int32.not_lt.mpr c11
      refine aw_iload_n dX10_nextRequest_87 rfl ?_
      refine aw_iret rfl dX10_nextRequest_88 (ble' rfl) (ble' rfl) ?_
      have hke : k = nr := Nat.le_antisymm hk9 (le_of_le hr h3 (by omega) (by omega) c11)
      exact pd_i (by rw [h2, hke])
    · have n11 := Int32.not_le.mp c11
      have hlt : k < nr := lt_of_nle hr h3 (by omega) (by omega) c11
      obtain ⟨ra, mm, ha9, hm1, hm9, hra, hm⟩ := hQ k hlt
      refine aw_aload_n dX10_nextRequest_14 rfl ?_
      refine aw_iload_n dX10_nextRequest_15 rfl ?_
      refine aw_iconst (v := 0) dX10_nextRequest_16 (by decide) ?_
      refine ap_callVi kv_X10_156 ko_X10_requestField (c_X10_requestField_0 hn h3 (by omega)) dX10_nextRequest_17 e_63 (l_63 hn) rfl rfl rfl rfl (ble' rfl) (by decide) ?_
      refine aw_iload_n dX10_nextRequest_20 rfl ?_
      refine aw_icmp_ne 37 dX10_nextRequest_21 (by decide) (fun c21 => ?_) (fun c21 => ?_)
      · refine aw_iconst (v := 0) dX10_nextRequest_37 (by decide) ?_
        refine aw_istore (lo' := [_, _, _, _, some (.int _)]) dX10_nextRequest_38 (by decide) rfl ?_
        refine aw_iload dX10_nextRequest_40 rfl ?_
        refine aw_if_eq 81 dX10_nextRequest_42 (by decide) (fun _ => ?_) (fun q => absurd q (by decide))
        refine aw_iinc (lo' := [_, _, _, some (.int _), _]) dX10_nextRequest_81 rfl (by decide) rfl ?_
        refine aw_goto 4 dX10_nextRequest_84 (by decide) ?_
        refine aw_lo2 (lo' := [some (.ref 63), some (.int c), some (.int _), some (.int _), none]) ⟨rfl, rfl, rfl, rfl, trivial⟩ ?_
        exact ih (k + 1) _ _ (by omega) (by omega) (by rw [h3]; exact inc1 k) (by rw [h2]; exact (best_n (by simp [rqOkR, c21])).symm)
      · refine aw_aload_n dX10_nextRequest_24 rfl ?_
        refine aw_iload_n dX10_nextRequest_25 rfl ?_
        refine aw_iconst (v := 3) dX10_nextRequest_26 (by decide) ?_
        refine ap_callVi kv_X10_156 ko_X10_requestField (c_X10_requestField_3 hn h3 (by omega)) dX10_nextRequest_27 e_63 (l_63 hn) rfl rfl rfl rfl (ble' rfl) (by decide) ?_
        refine aw_if_ne 37 dX10_nextRequest_30 (by decide) (fun c30 => ?_) (fun c30 => ?_)
        · refine aw_iconst (v := 0) dX10_nextRequest_37 (by decide) ?_
          refine aw_istore (lo' := [_, _, _, _, some (.int _)]) dX10_nextRequest_38 (by decide) rfl ?_
          refine aw_iload dX10_nextRequest_40 rfl ?_
          refine aw_if_eq 81 dX10_nextRequest_42 (by decide) (fun _ => ?_) (fun q => absurd q (by decide))
          refine aw_iinc (lo' := [_, _, _, some (.int _), _]) dX10_nextRequest_81 rfl (by decide) rfl ?_
          refine aw_goto 4 dX10_nextRequest_84 (by decide) ?_
          refine aw_lo2 (lo' := [some (.ref 63), some (.int c), some (.int _), some (.int _), none]) ⟨rfl, rfl, rfl, rfl, trivial⟩ ?_
          exact ih (k + 1) _ _ (by omega) (by omega) (by rw [h3]; exact inc1 k) (by rw [h2]; exact (best_n (by simp [rqOkR, c30])).symm)
        · refine aw_iconst (v := 1) dX10_nextRequest_33 (by decide) ?_
          refine aw_goto 38 dX10_nextRequest_34 (by decide) ?_
          refine aw_istore (lo' := [_, _, _, _, some (.int _)]) dX10_nextRequest_38 (by decide) rfl ?_
          refine aw_iload dX10_nextRequest_40 rfl ?_
          refine aw_if_eq 81 dX10_nextRequest_42 (by decide) (fun q => absurd q (by decide)) (fun _ => ?_)
          refine aw_iload_n dX10_nextRequest_45 rfl ?_
          refine aw_iconst (v := -1) dX10_nextRequest_46 (by decide) ?_
          refine aw_icmp_eq 59 dX10_nextRequest_47 (by decide) (fun c47 => ?_) (fun c47 => ?_)
          · refine aw_aload_n dX10_nextRequest_59 rfl ?_
            refine aw_iload_n dX10_nextRequest_60 rfl ?_
            refine aw_aload_n dX10_nextRequest_61 rfl ?_
            refine aw_iload_n dX10_nextRequest_62 rfl ?_
            refine aw_iconst (v := 1) dX10_nextRequest_63 (by decide) ?_
            refine ap_callVi kv_X10_156 ko_X10_requestField (c_X10_requestField_1 hn h3 (by omega)) dX10_nextRequest_64 e_63 (l_63 hn) rfl rfl rfl rfl (ble' rfl) (by decide) ?_
            refine aw_aload_n dX10_nextRequest_67 rfl ?_
            refine aw_iload_n dX10_nextRequest_68 rfl ?_
            refine aw_iconst (v := 2) dX10_nextRequest_69 (by decide) ?_
            refine ap_callVi kv_X10_156 ko_X10_requestField (c_X10_requestField_2 hn h3 (by omega)) dX10_nextRequest_70 e_63 (l_63 hn) rfl rfl rfl rfl (ble' rfl) (by decide) ?_
            refine ap_callVi kv_X10_128 ko_X10_obstacleOf (c_X10_obstacleOf hn hs hsl hb hbl hk hkc hz hzl ht htl hm hm1 hm9) dX10_nextRequest_73 e_63 (l_63 hn) rfl rfl rfl rfl (ble' rfl) (by decide) ?_
            refine aw_if_ne 81 dX10_nextRequest_76 (by decide) (fun c76 => ?_) (fun c76 => ?_)
            · refine aw_iinc (lo' := [_, _, _, some (.int _), _]) dX10_nextRequest_81 rfl (by decide) rfl ?_
              refine aw_goto 4 dX10_nextRequest_84 (by decide) ?_
              refine aw_lo2 (lo' := [some (.ref 63), some (.int c), some (.int _), some (.int _), none]) ⟨rfl, rfl, rfl, rfl, trivial⟩ ?_
              exact ih (k + 1) _ _ (by omega) (by omega) (by rw [h3]; exact inc1 k) (by rw [h2]; exact (best_n (by simp only [rqOkR, decide_eq_false_iff_not]; exact fun q => c76 q.2.2)).symm)
            · refine aw_iload_n dX10_nextRequest_79 rfl ?_
              refine aw_istore_n (lo' := [_, _, some (.int _), _, _]) dX10_nextRequest_80 (by decide) rfl ?_
              refine aw_iinc (lo' := [_, _, _, some (.int _), _]) dX10_nextRequest_81 rfl (by decide) rfl ?_
              refine aw_goto 4 dX10_nextRequest_84 (by decide) ?_
              refine aw_lo2 (lo' := [some (.ref 63), some (.int c), some (.int _), some (.int _), none]) ⟨rfl, rfl, rfl, rfl, trivial⟩ ?_
              exact ih (k + 1) _ _ (by omega) (by omega) (by rw [h3]; exact inc1 k) (by rw [h3]; exact (best_t (by simp only [rqOkR, decide_eq_true_eq]; exact ⟨c30, c21, c76⟩) (Or.inl (h2.symm.trans c47))).symm)
          · obtain ⟨b0, hb0, hx2, -⟩ := (best_in (rqOkR M ns nb nz kc c) (rqBt (V M 24) (V M 25)) k).resolve_left (fun q => c47 (h2.trans q))
            rw [show bestN (rqOkR M ns nb nz kc c) (rqBt (V M 24) (V M 25)) k = x2 from h2.symm] at hx2
            refine aw_aload_n dX10_nextRequest_50 rfl ?_
            refine aw_iload_n dX10_nextRequest_51 rfl ?_
            refine aw_iload_n dX10_nextRequest_52 rfl ?_
            refine ap_callVi kv_X10_174 ko_X10_isAhead (c_X10_isAhead hn h3 (by omega) hx2 (by omega)) dX10_nextRequest_53 e_63 (l_63 hn) rfl rfl rfl rfl (ble' rfl) (by decide) ?_
            refine aw_if_eq 81 dX10_nextRequest_56 (by decide) (fun c56 => ?_) (fun c56 => ?_)
            · have n56 := bI_z.mp c56
              refine aw_iinc (lo' := [_, _, _, some (.int _), _]) dX10_nextRequest_81 rfl (by decide) rfl ?_
              refine aw_goto 4 dX10_nextRequest_84 (by decide) ?_
              refine aw_lo2 (lo' := [some (.ref 63), some (.int c), some (.int _), some (.int _), none]) ⟨rfl, rfl, rfl, rfl, trivial⟩ ?_
              exact ih (k + 1) _ _ (by omega) (by omega) (by rw [h3]; exact inc1 k) (by rw [h2]; exact (best_w (h2.symm.trans hx2) (by omega) (by unfold rqBt; exact decide_eq_false n56)).symm)
            · have n56 := bI_nz.mp c56
              refine aw_aload_n dX10_nextRequest_59 rfl ?_
              refine aw_iload_n dX10_nextRequest_60 rfl ?_
              refine aw_aload_n dX10_nextRequest_61 rfl ?_
              refine aw_iload_n dX10_nextRequest_62 rfl ?_
              refine aw_iconst (v := 1) dX10_nextRequest_63 (by decide) ?_
              refine ap_callVi kv_X10_156 ko_X10_requestField (c_X10_requestField_1 hn h3 (by omega)) dX10_nextRequest_64 e_63 (l_63 hn) rfl rfl rfl rfl (ble' rfl) (by decide) ?_
              refine aw_aload_n dX10_nextRequest_67 rfl ?_
              refine aw_iload_n dX10_nextRequest_68 rfl ?_
              refine aw_iconst (v := 2) dX10_nextRequest_69 (by decide) ?_
              refine ap_callVi kv_X10_156 ko_X10_requestField (c_X10_requestField_2 hn h3 (by omega)) dX10_nextRequest_70 e_63 (l_63 hn) rfl rfl rfl rfl (ble' rfl) (by decide) ?_
              refine ap_callVi kv_X10_128 ko_X10_obstacleOf (c_X10_obstacleOf hn hs hsl hb hbl hk hkc hz hzl ht htl hm hm1 hm9) dX10_nextRequest_73 e_63 (l_63 hn) rfl rfl rfl rfl (ble' rfl) (by decide) ?_
              refine aw_if_ne 81 dX10_nextRequest_76 (by decide) (fun c76 => ?_) (fun c76 => ?_)
              · refine aw_iinc (lo' := [_, _, _, some (.int _), _]) dX10_nextRequest_81 rfl (by decide) rfl ?_
                refine aw_goto 4 dX10_nextRequest_84 (by decide) ?_
                refine aw_lo2 (lo' := [some (.ref 63), some (.int c), some (.int _), some (.int _), none]) ⟨rfl, rfl, rfl, rfl, trivial⟩ ?_
                exact ih (k + 1) _ _ (by omega) (by omega) (by rw [h3]; exact inc1 k) (by rw [h2]; exact (best_n (by simp only [rqOkR, decide_eq_false_iff_not]; exact fun q => c76 q.2.2)).symm)
              · refine aw_iload_n dX10_nextRequest_79 rfl ?_
                refine aw_istore_n (lo' := [_, _, some (.int _), _, _]) dX10_nextRequest_80 (by decide) rfl ?_
                refine aw_iinc (lo' := [_, _, _, some (.int _), _]) dX10_nextRequest_81 rfl (by decide) rfl ?_
                refine aw_goto 4 dX10_nextRequest_84 (by decide) ?_
                refine aw_lo2 (lo' := [some (.ref 63), some (.int c), some (.int _), some (.int _), none]) ⟨rfl, rfl, rfl, rfl, trivial⟩ ?_
                exact ih (k + 1) _ _ (by omega) (by omega) (by rw [h3]; exact inc1 k) (by rw [h3]; exact (best_b (by simp only [rqOkR, decide_eq_true_eq]; exact ⟨c30, c21, c76⟩) (h2.symm.trans hx2) (by omega) (by unfold rqBt; exact decide_eq_true n56)).symm)

set_option maxRecDepth 100000 in
set_option maxHeartbeats 4000000 in
theorem c_X10_nextRequest {G : AG} {M : Nat → Nat → Int32} {n : Nat} (hn : 72 ≤ n) {ns nb nz nr tt : Nat} (hs : M 64 2 = nI ns) (hsl : ns ≤ 16) (hb : M 64 4 = nI nb) (hbl : nb ≤ 60) (hz : M 64 3 = nI nz) (hzl : nz ≤ 12) (hr : M 64 5 = nI nr) (hrl : nr ≤ 20) (ht : M 64 0 = nI tt) (htl : tt ≤ 999) {c : Int32} {kc : Nat} (hk : c = nI kc) (hkc : kc < 4) (hQ : RQV M nr) : AMet tX10_nextRequest yX10_nextRequest [Cond.code yX10_nextRequest cX10_nextRequest 5 (some .int)] [.ref 63, .int c] (wld G M) n (PD (.inl (some (.int (rqN M ns nb nz kc c nr)))) (wld G M) n) := by
  refine am_of (lo := [_, _, _, _, _]) (by decide) rfl (fun q => by cases q) rfl rfl rfl ?_
  refine aw_iconst (v := -1) dX10_nextRequest_0 (by decide) ?_
  refine aw_istore_n (lo' := [_, _, some (.int _), _, _]) dX10_nextRequest_1 (by decide) rfl ?_
  refine aw_iconst (v := 0) dX10_nextRequest_2 (by decide) ?_
  refine aw_istore_n (lo' := [_, _, _, some (.int _), _]) dX10_nextRequest_3 (by decide) rfl ?_
  exact lp_X10_nextRequest hn hs hsl hb hbl hz hzl hr hrl ht htl hk hkc hQ (nr + 1) 0 _ _ (by omega) (by omega) rfl rfl
