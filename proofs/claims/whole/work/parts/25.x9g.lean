/-- a booking that is to arrive (e = 0) or to depart on the day d, of the class c or of any -/
def exB (cl ar de st : Nat → Int32) (c d e : Int32) (b : Nat) : Bool := decide ((if e = 0 then st b = 0 ∧ ar b = d else actP (st b) ∧ de b = d) ∧ (c = -1 ∨ cl b = c))
set_option maxRecDepth 100000 in
set_option maxHeartbeats 4000000 in
theorem lp_X9_expected {G : AG} {M : Nat → Nat → Int32} {n : Nat} (hn : 72 ≤ n) {nb : Nat} (hb : M 15 6 = nI nb) (hbl : nb ≤ 60) {c d e : Int32} {Po : APost} (hR : ∀ v, v = nI (cnt (exB (M 16) (M 17) (M 18) (M 20) c d e) nb) → Po (.inl (some (.int v))) (wld G M) n) : ∀ (j : Nat) (k : Nat) (x4 x5 : Int32), nb - k < j → k ≤ nb → x5 = nI k → x4 = nI (cnt (exB (M 16) (M 17) (M 18) (M 20) c d e) k) →  AW tX9_expected (AQm tX9_expected (Po)) C0 24 [some (.ref 0), some (.int c), some (.int d), some (.int e), some (.int x4), some (.int x5), none] [] (wld G M) n 2 12 := by
  intro j
  induction j with
  | zero => intro k x4 x5 h0 hk h5 h4; omega
  | succ j ih =>
    intro k x4 x5 h0 hk h5 h4
    refine aw_iload dX9_expected_24 rfl ?_
    refine aw_aload_n dX9_expected_26 rfl ?_
    refine aw_get fl_X9_10 dX9_expected_27 e_0 (l_0 hn) rfl ?_
    refine aw_get fl_X9_128 dX9_expected_30 e_1 (l_1 hn) rfl ?_
    refine aw_get fl_X9_164 dX9_expected_33 e_15 (l_15 hn) rfl ?_
    refine aw_icmp_ge 110 dX9_expected_36 (by decide) (fun c36 => ?_) (fun c36 => ?_)
    · have n36 := Int32.not_lt.mpr c36
      refine aw_iload dX9_expected_110 rfl ?_
      refine aw_iret rfl dX9_expected_112 (ble' rfl) (ble' rfl) ?_
      have hke : k = nb := Nat.le_antisymm hk (le_of_le hb h5 (by omega) (by omega) c36)
      exact hR _ (by rw [h4, hke])
    · have n36 := Int32.not_le.mp c36
      have hlt : k < nb := lt_of_nle hb h5 (by omega) (by omega) c36
      refine aw_iload_n dX9_expected_39 rfl ?_
      refine aw_if_eq 59 dX9_expected_40 (by decide) (fun c40 => ?_) (fun c40 => ?_)
      · refine aw_aload_n dX9_expected_59 rfl ?_
        refine aw_get fl_X9_10 dX9_expected_60 e_0 (l_0 hn) rfl ?_
        refine aw_get fl_X9_128 dX9_expected_63 e_1 (l_1 hn) rfl ?_
        refine aw_iload dX9_expected_66 rfl ?_
        refine aw_iload_n dX9_expected_68 rfl ?_
        refine ap_callVi kv_X9_276 ko_X0_isToArrive (c_X0_isToArrive hn h5 (by omega)) dX9_expected_69 e_15 (l_15 hn) rfl rfl rfl rfl (ble' rfl) (by decide) ?_
        refine aw_istore (lo' := [_, _, _, _, _, _, some (.int _)]) dX9_expected_72 (by decide) rfl ?_
        refine aw_iload dX9_expected_74 rfl ?_
        refine aw_if_eq 104 dX9_expected_76 (by decide) (fun c76 => ?_) (fun c76 => ?_)
        · have n76 := bI_z.mp c76
          refine aw_iinc (lo' := [_, _, _, _, _, some (.int _), _]) dX9_expected_104 rfl (by decide) rfl ?_
          refine aw_goto 24 dX9_expected_107 (by decide) ?_
          refine aw_lo2 (lo' := [some (.ref 0), some (.int c), some (.int d), some (.int e), some (.int _), some (.int _), none]) ⟨rfl, rfl, rfl, rfl, rfl, rfl, trivial⟩ ?_
          exact ih (k + 1) _ _ (by omega) (by omega) (by rw [h5]; exact inc1 k) (by rw [h4]; simp [cnt, exB, inc1, nI_1, c40, c76, n76])
        · have n76 := bI_nz.mp c76
          refine aw_iload_n dX9_expected_79 rfl ?_
          refine aw_iconst (v := -1) dX9_expected_80 (by decide) ?_
          refine aw_icmp_eq 101 dX9_expected_81 (by decide) (fun c81 => ?_) (fun c81 => ?_)
          · refine aw_iinc (lo' := [_, _, _, _, some (.int _), _, _]) dX9_expected_101 rfl (by decide) rfl ?_
            refine aw_iinc (lo' := [_, _, _, _, _, some (.int _), _]) dX9_expected_104 rfl (by decide) rfl ?_
            refine aw_goto 24 dX9_expected_107 (by decide) ?_
            refine aw_lo2 (lo' := [some (.ref 0), some (.int c), some (.int d), some (.int e), some (.int _), some (.int _), none]) ⟨rfl, rfl, rfl, rfl, rfl, rfl, trivial⟩ ?_
            exact ih (k + 1) _ _ (by omega) (by omega) (by rw [h5]; exact inc1 k) (by rw [h4]; simp [cnt, exB, inc1, nI_1, c40, c76, n76, c81])
          · refine aw_aload_n dX9_expected_84 rfl ?_
            refine aw_get fl_X9_10 dX9_expected_85 e_0 (l_0 hn) rfl ?_
            refine aw_get fl_X9_128 dX9_expected_88 e_1 (l_1 hn) rfl ?_
            refine aw_get fl_X9_171 dX9_expected_91 e_15 (l_15 hn) rfl ?_
            refine aw_iload dX9_expected_94 rfl ?_
            refine aw_ialdk dX9_expected_96 e_16 (l_16 hn) h5 (by omega) rfl ?_
            refine aw_iload_n dX9_expected_97 rfl ?_
            refine aw_icmp_ne 104 dX9_expected_98 (by decide) (fun c98 => ?_) (fun c98 => ?_)
            · refine aw_iinc (lo' := [_, _, _, _, _, some (.int _), _]) dX9_expected_104 rfl (by decide) rfl ?_
              refine aw_goto 24 dX9_expected_107 (by decide) ?_
              refine aw_lo2 (lo' := [some (.ref 0), some (.int c), some (.int d), some (.int e), some (.int _), some (.int _), none]) ⟨rfl, rfl, rfl, rfl, rfl, rfl, trivial⟩ ?_
              exact ih (k + 1) _ _ (by omega) (by omega) (by rw [h5]; exact inc1 k) (by rw [h4]; simp [cnt, exB, inc1, nI_1, c40, c76, n76, c81, c98])
            · refine aw_iinc (lo' := [_, _, _, _, some (.int _), _, _]) dX9_expected_101 rfl (by decide) rfl ?_
              refine aw_iinc (lo' := [_, _, _, _, _, some (.int _), _]) dX9_expected_104 rfl (by decide) rfl ?_
              refine aw_goto 24 dX9_expected_107 (by decide) ?_
              refine aw_lo2 (lo' := [some (.ref 0), some (.int c), some (.int d), some (.int e), some (.int _), some (.int _), none]) ⟨rfl, rfl, rfl, rfl, rfl, rfl, trivial⟩ ?_
              exact ih (k + 1) _ _ (by omega) (by omega) (by rw [h5]; exact inc1 k) (by rw [h4]; simp [cnt, exB, inc1, nI_1, c40, c76, n76, c81, c98])
      · refine aw_aload_n dX9_expected_43 rfl ?_
        refine aw_get fl_X9_10 dX9_expected_44 e_0 (l_0 hn) rfl ?_
        refine aw_get fl_X9_128 dX9_expected_47 e_1 (l_1 hn) rfl ?_
        refine aw_iload dX9_expected_50 rfl ?_
        refine aw_iload_n dX9_expected_52 rfl ?_
        refine ap_callVi kv_X9_273 ko_X0_isToDepart (c_X0_isToDepart hn h5 (by omega)) dX9_expected_53 e_15 (l_15 hn) rfl rfl rfl rfl (ble' rfl) (by decide) ?_
        refine aw_goto 72 dX9_expected_56 (by decide) ?_
        refine aw_istore (lo' := [_, _, _, _, _, _, some (.int _)]) dX9_expected_72 (by decide) rfl ?_
        refine aw_iload dX9_expected_74 rfl ?_
        refine aw_if_eq 104 dX9_expected_76 (by decide) (fun c76 => ?_) (fun c76 => ?_)
        · have n76 := bI_z.mp c76
          refine aw_iinc (lo' := [_, _, _, _, _, some (.int _), _]) dX9_expected_104 rfl (by decide) rfl ?_
          refine aw_goto 24 dX9_expected_107 (by decide) ?_
          refine aw_lo2 (lo' := [some (.ref 0), some (.int c), some (.int d), some (.int e), some (.int _), some (.int _), none]) ⟨rfl, rfl, rfl, rfl, rfl, rfl, trivial⟩ ?_
          exact ih (k + 1) _ _ (by omega) (by omega) (by rw [h5]; exact inc1 k) (by rw [h4]; simp [cnt, exB, inc1, nI_1, c40, c76, n76])
        · have n76 := bI_nz.mp c76
          refine aw_iload_n dX9_expected_79 rfl ?_
          refine aw_iconst (v := -1) dX9_expected_80 (by decide) ?_
          refine aw_icmp_eq 101 dX9_expected_81 (by decide) (fun c81 => ?_) (fun c81 => ?_)
          · refine aw_iinc (lo' := [_, _, _, _, some (.int _), _, _]) dX9_expected_101 rfl (by decide) rfl ?_
            refine aw_iinc (lo' := [_, _, _, _, _, some (.int _), _]) dX9_expected_104 rfl (by decide) rfl ?_
            refine aw_goto 24 dX9_expected_107 (by decide) ?_
            refine aw_lo2 (lo' := [some (.ref 0), some (.int c), some (.int d), some (.int e), some (.int _), some (.int _), none]) ⟨rfl, rfl, rfl, rfl, rfl, rfl, trivial⟩ ?_
            exact ih (k + 1) _ _ (by omega) (by omega) (by rw [h5]; exact inc1 k) (by rw [h4]; simp [cnt, exB, inc1, nI_1, c40, c76, n76, c81])
          · refine aw_aload_n dX9_expected_84 rfl ?_
            refine aw_get fl_X9_10 dX9_expected_85 e_0 (l_0 hn) rfl ?_
            refine aw_get fl_X9_128 dX9_expected_88 e_1 (l_1 hn) rfl ?_
            refine aw_get fl_X9_171 dX9_expected_91 e_15 (l_15 hn) rfl ?_
            refine aw_iload dX9_expected_94 rfl ?_
            refine aw_ialdk dX9_expected_96 e_16 (l_16 hn) h5 (by omega) rfl ?_
            refine aw_iload_n dX9_expected_97 rfl ?_
            refine aw_icmp_ne 104 dX9_expected_98 (by decide) (fun c98 => ?_) (fun c98 => ?_)
            · refine aw_iinc (lo' := [_, _, _, _, _, some (.int _), _]) dX9_expected_104 rfl (by decide) rfl ?_
              refine aw_goto 24 dX9_expected_107 (by decide) ?_
              refine aw_lo2 (lo' := [some (.ref 0), some (.int c), some (.int d), some (.int e), some (.int _), some (.int _), none]) ⟨rfl, rfl, rfl, rfl, rfl, rfl, trivial⟩ ?_
              exact ih (k + 1) _ _ (by omega) (by omega) (by rw [h5]; exact inc1 k) (by rw [h4]; simp [cnt, exB, inc1, nI_1, c40, c76, n76, c81, c98])
            · refine aw_iinc (lo' := [_, _, _, _, some (.int _), _, _]) dX9_expected_101 rfl (by decide) rfl ?_
              refine aw_iinc (lo' := [_, _, _, _, _, some (.int _), _]) dX9_expected_104 rfl (by decide) rfl ?_
              refine aw_goto 24 dX9_expected_107 (by decide) ?_
              refine aw_lo2 (lo' := [some (.ref 0), some (.int c), some (.int d), some (.int e), some (.int _), some (.int _), none]) ⟨rfl, rfl, rfl, rfl, rfl, rfl, trivial⟩ ?_
              exact ih (k + 1) _ _ (by omega) (by omega) (by rw [h5]; exact inc1 k) (by rw [h4]; simp [cnt, exB, inc1, nI_1, c40, c76, n76, c81, c98])

def cd_expected (M : Nat → Nat → Int32) (c d e : Int32) : Nat := if (¬ c = -1 ∧ (c < 0 ∨ M 2 3 ≤ c)) then 1 else if (d < 0 ∨ 999 < d) then 2 else 0
set_option maxRecDepth 100000 in
set_option maxHeartbeats 4000000 in
theorem c_X9_expected {G : AG} {M : Nat → Nat → Int32} {n : Nat} (hn : 72 ≤ n) {nc ns nz nb nr t : Nat} (hI : CI M nc ns nz nb nr t)  (c d e : Int32) : AMet tX9_expected yX9_expected [Cond.code yX9_expected cX9_expected 7 (some .int)] [.ref 0, .int c, .int d, .int e] (wld G M) n (PO ["java/lang/IndexOutOfBoundsException", "java/lang/IllegalArgumentException"] (cd_expected M c d e) (some (.int (nI (cnt (exB (M 16) (M 17) (M 18) (M 20) c d e) (nbM M))))) G M M n) := by
  obtain ⟨hc, hcl, hs, hsl, hz, hzl, hb, hbl, hr, hrl, ht, htl⟩ := id hI
  have ens : nsM M = ns := cl_of hs (by omega)
  have enb : nbM M = nb := cl_of hb (by omega)
  have enz : nzM M = nz := cl_of hz (by omega)
  have enr : nrM M = nr := cl_of hr (by omega)
  have etm : tM M = t := cl_of ht (by omega)
  refine am_of (lo := [_, _, _, _, _, _, _]) (by decide) rfl (fun q => by cases q) rfl rfl rfl ?_
  refine aw_iload_n dX9_expected_0 rfl ?_
  refine aw_iconst (v := -1) dX9_expected_1 (by decide) ?_
  refine aw_icmp_eq 10 dX9_expected_2 (by decide) (fun c2 => ?_) (fun c2 => ?_)
  · refine aw_iload_n dX9_expected_10 rfl ?_
    refine aw_iconst (v := 0) dX9_expected_11 (by decide) ?_
    refine aw_sipush (v := 999) dX9_expected_12 (by decide) ?_
    refine ap_chkS kw_X9_56 ks_X9_56 ko_X9_checkRange (c_X9_checkRange _ _ _) dX9_expected_15 rfl rfl (ble' rfl) (by decide) (fun q => po_e 1 (by rw [cd_expected, if_neg (fun q => q.1 c2), if_pos q]) rfl (seq_rf)) (fun b15 => ?_)
    refine aw_iconst (v := 0) dX9_expected_18 (by decide) ?_
    refine aw_istore (lo' := [_, _, _, _, some (.int _), _, _]) dX9_expected_19 (by decide) rfl ?_
    refine aw_iconst (v := 0) dX9_expected_21 (by decide) ?_
    refine aw_istore (lo' := [_, _, _, _, _, some (.int _), _]) dX9_expected_22 (by decide) rfl ?_
    refine AW.widen (ce' := 2) (sl' := 12) (by decide) (by decide) ?_
    exact lp_X9_expected hn hb hbl (fun v q => po_i (by rw [cd_expected, if_neg (fun q => q.1 c2), if_neg b15]) (by rw [enb]; exact q) seq_rf) (nb + 1) 0 _ _ (by omega) (by omega) rfl rfl
  · refine aw_aload_n dX9_expected_5 rfl ?_
    refine aw_iload_n dX9_expected_6 rfl ?_
    refine ap_chkV kw_X9_80 kv_X9_80 ko_X9_checkClass (c_X9_checkClass hn _) dX9_expected_7 e_0 (l_0 hn) rfl rfl rfl rfl (ble' rfl) (by decide) (fun q => po_e 0 (by rw [cd_expected, if_pos ⟨c2, q⟩]) rfl (seq_rf)) (fun b7 => ?_)
    refine aw_iload_n dX9_expected_10 rfl ?_
    refine aw_iconst (v := 0) dX9_expected_11 (by decide) ?_
    refine aw_sipush (v := 999) dX9_expected_12 (by decide) ?_
    refine ap_chkS kw_X9_56 ks_X9_56 ko_X9_checkRange (c_X9_checkRange _ _ _) dX9_expected_15 rfl rfl (ble' rfl) (by decide) (fun q => po_e 1 (by rw [cd_expected, if_neg (fun q => b7 q.2), if_pos q]) rfl (seq_rf)) (fun b15 => ?_)
    refine aw_iconst (v := 0) dX9_expected_18 (by decide) ?_
    refine aw_istore (lo' := [_, _, _, _, some (.int _), _, _]) dX9_expected_19 (by decide) rfl ?_
    refine aw_iconst (v := 0) dX9_expected_21 (by decide) ?_
    refine aw_istore (lo' := [_, _, _, _, _, some (.int _), _]) dX9_expected_22 (by decide) rfl ?_
    exact lp_X9_expected hn hb hbl (fun v q => po_i (by rw [cd_expected, if_neg (fun q => b7 q.2), if_neg b15]) (by rw [enb]; exact q) seq_rf) (nb + 1) 0 _ _ (by omega) (by omega) rfl rfl

set_option maxRecDepth 100000 in
set_option maxHeartbeats 4000000 in
theorem lp_X9_dearestBooking {G : AG} {M : Nat → Nat → Int32} {n : Nat} (hn : 72 ≤ n) {nb : Nat} (hb : M 15 6 = nI nb) (hbl : nb ≤ 60) {c : Int32} {Po : APost} (hR : ∀ v, v = (bestN (fun b => decide (actP (M 20 b) ∧ M 16 b = c)) (fun k b => decide ((M 19 b).toInt64 * (M 18 k - M 17 k).toInt64 < (M 19 k).toInt64 * (M 18 b - M 17 b).toInt64)) nb) → Po (.inl (some (.int v))) (wld G M) n) : ∀ (j : Nat) (k : Nat) (x2 x3 : Int32), nb - k < j → k ≤ nb → x3 = nI k → x2 = (bestN (fun b => decide (actP (M 20 b) ∧ M 16 b = c)) (fun k b => decide ((M 19 b).toInt64 * (M 18 k - M 17 k).toInt64 < (M 19 k).toInt64 * (M 18 b - M 17 b).toInt64)) k) →  AW tX9_dearestBooking (AQm tX9_dearestBooking (Po)) C0 9 [some (.ref 0), some (.int c), some (.int x2), some (.int x3)] [] (wld G M) n 1 6 := by
  intro j
  induction j with
  | zero => intro k x2 x3 h0 hk h3 h2; omega
  | succ j ih =>
    intro k x2 x3 h0 hk h3 h2
    refine aw_iload_n dX9_dearestBooking_9 rfl ?_
    refine aw_aload_n dX9_dearestBooking_10 rfl ?_
    refine aw_get fl_X9_10 dX9_dearestBooking_11 e_0 (l_0 hn) rfl ?_
    refine aw_get fl_X9_128 dX9_dearestBooking_14 e_1 (l_1 hn) rfl ?_
    refine aw_get fl_X9_164 dX9_dearestBooking_17 e_15 (l_15 hn) rfl ?_
    refine aw_icmp_ge 84 dX9_dearestBooking_20 (by decide) (fun c20 => ?_) (fun c20 => ?_)
    · have n20 := Int32.not_lt.mpr c20
      refine aw_iload_n dX9_dearestBooking_84 rfl ?_
      refine aw_iret rfl dX9_dearestBooking_85 (ble' rfl) (ble' rfl) ?_
      have hke : k = nb := Nat.le_antisymm hk (le_of_le hb h3 (by omega) (by omega) c20)
      exact hR _ (by rw [h2, hke])
    · have n20 := Int32.not_le.mp c20
      have hlt : k < nb := lt_of_nle hb h3 (by omega) (by omega) c20
      refine aw_aload_n dX9_dearestBooking_23 rfl ?_
      refine aw_get fl_X9_10 dX9_dearestBooking_24 e_0 (l_0 hn) rfl ?_
      refine aw_get fl_X9_128 dX9_dearestBooking_27 e_1 (l_1 hn) rfl ?_
      refine aw_iload_n dX9_dearestBooking_30 rfl ?_
      refine ap_callVi kv_X9_207 ko_X0_isActive (c_X0_isActive hn h3 (by omega)) dX9_dearestBooking_31 e_15 (l_15 hn) rfl rfl rfl rfl (ble' rfl) (by decide) ?_
      refine aw_if_eq 78 dX9_dearestBooking_34 (by decide) (fun c34 => ?_) (fun c34 => ?_)
      · have n34 := bI_z.mp c34
        refine aw_iinc (lo' := [_, _, _, some (.int _)]) dX9_dearestBooking_78 rfl (by decide) rfl ?_
        refine aw_goto 9 dX9_dearestBooking_81 (by decide) ?_
        exact ih (k + 1) _ _ (by omega) (by omega) (by rw [h3]; exact inc1 k) (by rw [h2, best_n (by simp only [decide_eq_false_iff_not]; exact fun q => n34 q.1)])
      · have n34 := bI_nz.mp c34
        refine aw_aload_n dX9_dearestBooking_37 rfl ?_
        refine aw_get fl_X9_10 dX9_dearestBooking_38 e_0 (l_0 hn) rfl ?_
        refine aw_get fl_X9_128 dX9_dearestBooking_41 e_1 (l_1 hn) rfl ?_
        refine aw_get fl_X9_171 dX9_dearestBooking_44 e_15 (l_15 hn) rfl ?_
        refine aw_iload_n dX9_dearestBooking_47 rfl ?_
        refine aw_ialdk dX9_dearestBooking_48 e_16 (l_16 hn) h3 (by omega) rfl ?_
        refine aw_iload_n dX9_dearestBooking_49 rfl ?_
        refine aw_icmp_eq 56 dX9_dearestBooking_50 (by decide) (fun c50 => ?_) (fun c50 => ?_)
        · refine aw_iload_n dX9_dearestBooking_56 rfl ?_
          refine aw_iconst (v := -1) dX9_dearestBooking_57 (by decide) ?_
          refine aw_icmp_eq 76 dX9_dearestBooking_58 (by decide) (fun c58 => ?_) (fun c58 => ?_)
          · refine aw_iload_n dX9_dearestBooking_76 rfl ?_
            refine aw_istore_n (lo' := [_, _, some (.int _), _]) dX9_dearestBooking_77 (by decide) rfl ?_
            refine aw_iinc (lo' := [_, _, _, some (.int _)]) dX9_dearestBooking_78 rfl (by decide) rfl ?_
            refine aw_goto 9 dX9_dearestBooking_81 (by decide) ?_
            exact ih (k + 1) _ _ (by omega) (by omega) (by rw [h3]; exact inc1 k) (by rw [h3, best_t (by simp only [decide_eq_true_eq]; exact ⟨n34, c50⟩) (Or.inl (by rw [← h2]; exact c58))])
          · obtain ⟨b0, hb0, hx2, -⟩ := (best_in (fun b => decide (actP (M 20 b) ∧ M 16 b = c)) (fun k b => decide ((M 19 b).toInt64 * (M 18 k - M 17 k).toInt64 < (M 19 k).toInt64 * (M 18 b - M 17 b).toInt64)) k).resolve_left (by rw [← h2]; exact c58)
            rw [← h2] at hx2
            refine aw_aload_n dX9_dearestBooking_61 rfl ?_
            refine aw_get fl_X9_10 dX9_dearestBooking_62 e_0 (l_0 hn) rfl ?_
            refine aw_get fl_X9_128 dX9_dearestBooking_65 e_1 (l_1 hn) rfl ?_
            refine aw_iload_n dX9_dearestBooking_68 rfl ?_
            refine aw_iload_n dX9_dearestBooking_69 rfl ?_
            refine ap_callVi kv_X9_279 ko_X0_isDearer (c_X0_isDearer hn h3 (by omega) hx2 (by omega)) dX9_dearestBooking_70 e_15 (l_15 hn) rfl rfl rfl rfl (ble' rfl) (by decide) ?_
            refine aw_if_eq 78 dX9_dearestBooking_73 (by decide) (fun c73 => ?_) (fun c73 => ?_)
            · have n73 := bI_z.mp c73
              refine aw_iinc (lo' := [_, _, _, some (.int _)]) dX9_dearestBooking_78 rfl (by decide) rfl ?_
              refine aw_goto 9 dX9_dearestBooking_81 (by decide) ?_
              exact ih (k + 1) _ _ (by omega) (by omega) (by rw [h3]; exact inc1 k) (by rw [h2, best_w (h2.symm.trans hx2) (by omega) (by simpa using n73)])
            · have n73 := bI_nz.mp c73
              refine aw_iload_n dX9_dearestBooking_76 rfl ?_
              refine aw_istore_n (lo' := [_, _, some (.int _), _]) dX9_dearestBooking_77 (by decide) rfl ?_
              refine aw_iinc (lo' := [_, _, _, some (.int _)]) dX9_dearestBooking_78 rfl (by decide) rfl ?_
              refine aw_goto 9 dX9_dearestBooking_81 (by decide) ?_
              exact ih (k + 1) _ _ (by omega) (by omega) (by rw [h3]; exact inc1 k) (by rw [h3, best_b (by simp only [decide_eq_true_eq]; exact ⟨n34, c50⟩) (h2.symm.trans hx2) (by omega) (by simpa using n73)])
        · refine aw_goto 78 dX9_dearestBooking_53 (by decide) ?_
          refine aw_iinc (lo' := [_, _, _, some (.int _)]) dX9_dearestBooking_78 rfl (by decide) rfl ?_
          refine aw_goto 9 dX9_dearestBooking_81 (by decide) ?_
          exact ih (k + 1) _ _ (by omega) (by omega) (by rw [h3]; exact inc1 k) (by rw [h2, best_n (by simp only [decide_eq_false_iff_not]; exact fun q => c50 q.2)])

def cd_dearestBooking (M : Nat → Nat → Int32) (c : Int32) : Nat := if (c < 0 ∨ M 2 3 ≤ c) then 1 else 0
set_option maxRecDepth 100000 in
set_option maxHeartbeats 4000000 in
theorem c_X9_dearestBooking {G : AG} {M : Nat → Nat → Int32} {n : Nat} (hn : 72 ≤ n) {nc ns nz nb nr t : Nat} (hI : CI M nc ns nz nb nr t)  (c : Int32) : AMet tX9_dearestBooking yX9_dearestBooking [Cond.code yX9_dearestBooking cX9_dearestBooking 4 (some .int)] [.ref 0, .int c] (wld G M) n (PO ["java/lang/IndexOutOfBoundsException"] (cd_dearestBooking M c) (some (.int (bestN (fun b => decide (actP (M 20 b) ∧ M 16 b = c)) (fun k b => decide ((M 19 b).toInt64 * (M 18 k - M 17 k).toInt64 < (M 19 k).toInt64 * (M 18 b - M 17 b).toInt64)) (nbM M)))) G M M n) := by
  obtain ⟨hc, hcl, hs, hsl, hz, hzl, hb, hbl, hr, hrl, ht, htl⟩ := id hI
  have ens : nsM M = ns := cl_of hs (by omega)
  have enb : nbM M = nb := cl_of hb (by omega)
  have enz : nzM M = nz := cl_of hz (by omega)
  have enr : nrM M = nr := cl_of hr (by omega)
  have etm : tM M = t := cl_of ht (by omega)
  refine am_of (lo := [_, _, _, _]) (by decide) rfl (fun q => by cases q) rfl rfl rfl ?_
  refine aw_aload_n dX9_dearestBooking_0 rfl ?_
  refine aw_iload_n dX9_dearestBooking_1 rfl ?_
  refine ap_chkV kw_X9_80 kv_X9_80 ko_X9_checkClass (c_X9_checkClass hn _) dX9_dearestBooking_2 e_0 (l_0 hn) rfl rfl rfl rfl (ble' rfl) (by decide) (fun q => po_e 0 (by rw [cd_dearestBooking, if_pos q]) rfl (seq_rf)) (fun b2 => ?_)
  refine aw_iconst (v := -1) dX9_dearestBooking_5 (by decide) ?_
  refine aw_istore_n (lo' := [_, _, some (.int _), _]) dX9_dearestBooking_6 (by decide) rfl ?_
  refine aw_iconst (v := 0) dX9_dearestBooking_7 (by decide) ?_
  refine aw_istore_n (lo' := [_, _, _, some (.int _)]) dX9_dearestBooking_8 (by decide) rfl ?_
  exact lp_X9_dearestBooking hn hb hbl (fun v q => po_i (by rw [cd_dearestBooking, if_neg b2]) (by rw [enb]; exact q) seq_rf) (nb + 1) 0 _ _ (by omega) (by omega) rfl rfl

/-- the first of the nights a .. a + k on which f is greatest -/
def bsyN (f : Nat → Int32) (a : Nat) : Nat → Nat
  | 0 => a
  | k + 1 => if f (bsyN f a k) < f (a + k + 1) then a + k + 1 else bsyN f a k
theorem bsy_in (f : Nat → Int32) (a : Nat) : ∀ k, a ≤ bsyN f a k ∧ bsyN f a k ≤ a + k
  | 0 => ⟨Nat.le_refl _, Nat.le_refl _⟩
  | k + 1 => by
    have := bsy_in f a k
    unfold bsyN
    split <;> omega
set_option maxRecDepth 100000 in
set_option maxHeartbeats 4000000 in
theorem lp_X9_busiestNight {G : AG} {M : Nat → Nat → Int32} {n : Nat} (hn : 72 ≤ n) {nb : Nat} (hb : M 15 6 = nI nb) (hbl : nb ≤ 60) {c f l : Int32} {a b : Nat} (hab : a ≤ b) (hb9 : b ≤ 998) (hl : l = nI b) {Po : APost} (hR : ∀ v, v = nI (bsyN (fun i => nI (cnt (tkB (M 16) (M 17) (M 18) (M 20) c (nI i)) nb)) a (b - a)) → Po (.inl (some (.int v))) (wld G M) n) : ∀ (j : Nat) (i : Nat) (x4 x5 x6 : Int32), b - (a + i) < j → a + i ≤ b → x6 = nI (a + i + 1) → x4 = nI (bsyN (fun i => nI (cnt (tkB (M 16) (M 17) (M 18) (M 20) c (nI i)) nb)) a i) → x5 = (fun i => nI (cnt (tkB (M 16) (M 17) (M 18) (M 20) c (nI i)) nb)) (bsyN (fun i => nI (cnt (tkB (M 16) (M 17) (M 18) (M 20) c (nI i)) nb)) a i) →  AW tX9_busiestNight (AQm tX9_busiestNight (Po)) C0 33 [some (.ref 0), some (.int c), some (.int f), some (.int l), some (.int x4), some (.int x5), some (.int x6), none] [] (wld G M) n 3 18 := by
  intro j
  induction j with
  | zero => intro i x4 x5 x6 h0 hi h6 h4 h5; omega
  | succ j ih =>
    intro i x4 x5 x6 h0 hi h6 h4 h5
    refine aw_iload dX9_busiestNight_33 rfl ?_
    refine aw_iload_n dX9_busiestNight_35 rfl ?_
    refine aw_icmp_gt 75 dX9_busiestNight_36 (by decide) (fun c36 => ?_) (fun c36 => ?_)
    · have n36 := Int32.not_le.mpr c36
      refine aw_iload dX9_busiestNight_75 rfl ?_
      refine aw_iret rfl dX9_busiestNight_77 (ble' rfl) (ble' rfl) ?_
      have hie : i = b - a := by have := lt_of_lt hl h6 (by omega) (by omega) c36; omega
      exact hR _ (by rw [h4, hie])
    · have n36 := Int32.not_lt.mp c36
      have hlt : a + i + 1 ≤ b := le_of_nlt hl h6 (by omega) (by omega) c36
      refine aw_aload_n dX9_busiestNight_39 rfl ?_
      refine aw_get fl_X9_10 dX9_busiestNight_40 e_0 (l_0 hn) rfl ?_
      refine aw_get fl_X9_128 dX9_busiestNight_43 e_1 (l_1 hn) rfl ?_
      refine aw_iload_n dX9_busiestNight_46 rfl ?_
      refine aw_iload dX9_busiestNight_47 rfl ?_
      refine ap_callVi kv_X9_132 ko_X0_takenOn (c_X0_takenOn hn hb hbl c _) dX9_busiestNight_49 e_15 (l_15 hn) rfl rfl rfl rfl (ble' rfl) (by decide) ?_
      refine aw_istore (lo' := [_, _, _, _, _, _, _, some (.int _)]) dX9_busiestNight_52 (by decide) rfl ?_
      refine aw_iload dX9_busiestNight_54 rfl ?_
      refine aw_iload dX9_busiestNight_56 rfl ?_
      refine aw_icmp_le 69 dX9_busiestNight_58 (by decide) (fun c58 => ?_) (fun c58 => ?_)
      · have n58 := Int32.not_lt.mpr c58
        refine aw_iinc (lo' := [_, _, _, _, _, _, some (.int _), _]) dX9_busiestNight_69 rfl (by decide) rfl ?_
        refine aw_goto 33 dX9_busiestNight_72 (by decide) ?_
        refine aw_lo2 (lo' := [some (.ref 0), some (.int c), some (.int f), some (.int l), some (.int _), some (.int _), some (.int _), none]) ⟨rfl, rfl, rfl, rfl, rfl, rfl, rfl, trivial⟩ ?_
        exact ih (i + 1) _ _ _ (by omega) (by omega) (by rw [h6]; exact inc1 _) (by rw [h4, bsyN, if_neg (by rw [h5, h6] at n58; exact n58)]) (by rw [h5, bsyN, if_neg (by rw [h5, h6] at n58; exact n58)])
      · have n58 := Int32.not_le.mp c58
        refine aw_iload dX9_busiestNight_61 rfl ?_
        refine aw_istore (lo' := [_, _, _, _, some (.int _), _, _, _]) dX9_busiestNight_63 (by decide) rfl ?_
        refine aw_iload dX9_busiestNight_65 rfl ?_
        refine aw_istore (lo' := [_, _, _, _, _, some (.int _), _, _]) dX9_busiestNight_67 (by decide) rfl ?_
        refine aw_iinc (lo' := [_, _, _, _, _, _, some (.int _), _]) dX9_busiestNight_69 rfl (by decide) rfl ?_
        refine aw_goto 33 dX9_busiestNight_72 (by decide) ?_
        refine aw_lo2 (lo' := [some (.ref 0), some (.int c), some (.int f), some (.int l), some (.int _), some (.int _), some (.int _), none]) ⟨rfl, rfl, rfl, rfl, rfl, rfl, rfl, trivial⟩ ?_
        exact ih (i + 1) _ _ _ (by omega) (by omega) (by rw [h6]; exact inc1 _) (by rw [h6, bsyN, if_pos (by rw [h5, h6] at n58; exact n58)]) (by rw [h6, bsyN, if_pos (by rw [h5, h6] at n58; exact n58)])

def cd_busiestNight (M : Nat → Nat → Int32) (c f l : Int32) : Nat := if (c < 0 ∨ M 2 3 ≤ c) then 1 else if ((f < M 1 5 ∨ 998 < f) ∨ (l < f ∨ 998 < l)) then 2 else 0
set_option maxRecDepth 100000 in
set_option maxHeartbeats 4000000 in
theorem c_X9_busiestNight {G : AG} {M : Nat → Nat → Int32} {n : Nat} (hn : 72 ≤ n) {nc ns nz nb nr t : Nat} (hI : CI M nc ns nz nb nr t)  (c f l : Int32) : AMet tX9_busiestNight yX9_busiestNight [Cond.code yX9_busiestNight cX9_busiestNight 8 (some .int)] [.ref 0, .int c, .int f, .int l] (wld G M) n (PO ["java/lang/IndexOutOfBoundsException", "java/lang/IllegalArgumentException"] (cd_busiestNight M c f l) (some (.int (nI (bsyN (fun i => nI (cnt (tkB (M 16) (M 17) (M 18) (M 20) c (nI i)) (nbM M))) f.toNatClampNeg (l.toNatClampNeg - f.toNatClampNeg))))) G M M n) := by
  obtain ⟨hc, hcl, hs, hsl, hz, hzl, hb, hbl, hr, hrl, ht, htl⟩ := id hI
  have ens : nsM M = ns := cl_of hs (by omega)
  have enb : nbM M = nb := cl_of hb (by omega)
  have enz : nzM M = nz := cl_of hz (by omega)
  have enr : nrM M = nr := cl_of hr (by omega)
  have etm : tM M = t := cl_of ht (by omega)
  refine am_of (lo := [_, _, _, _, _, _, _, _]) (by decide) rfl (fun q => by cases q) rfl rfl rfl ?_
  refine aw_aload_n dX9_busiestNight_0 rfl ?_
  refine aw_iload_n dX9_busiestNight_1 rfl ?_
  refine ap_chkV kw_X9_80 kv_X9_80 ko_X9_checkClass (c_X9_checkClass hn _) dX9_busiestNight_2 e_0 (l_0 hn) rfl rfl rfl rfl (ble' rfl) (by decide) (fun q => po_e 0 (by rw [cd_busiestNight, if_pos q]) rfl (seq_rf)) (fun b2 => ?_)
  refine aw_aload_n dX9_busiestNight_5 rfl ?_
  refine aw_iload_n dX9_busiestNight_6 rfl ?_
  refine aw_iload_n dX9_busiestNight_7 rfl ?_
  refine ap_chkV kw_X9_261 kv_X9_261 ko_X9_checkNights (c_X9_checkNights hn _ _) dX9_busiestNight_8 e_0 (l_0 hn) rfl rfl rfl rfl (ble' rfl) (by decide) (fun q => po_e 1 (by rw [cd_busiestNight, if_neg b2, if_pos q]) rfl (seq_rf)) (fun b8 => ?_)
  obtain ⟨d, htd, hd9, hd⟩ := ck_rng ht (show (998 : Int32) = nI 998 from rfl) (by omega) (by decide) (fun q => b8 (Or.inl q))
  obtain ⟨e, hde, he9, he⟩ := ck_rng hd (show (998 : Int32) = nI 998 from rfl) (by omega) (by decide) (fun q => b8 (Or.inr q))
  refine aw_iload_n dX9_busiestNight_11 rfl ?_
  refine aw_istore (lo' := [_, _, _, _, some (.int _), _, _, _]) dX9_busiestNight_12 (by decide) rfl ?_
  refine aw_aload_n dX9_busiestNight_14 rfl ?_
  refine aw_get fl_X9_10 dX9_busiestNight_15 e_0 (l_0 hn) rfl ?_
  refine aw_get fl_X9_128 dX9_busiestNight_18 e_1 (l_1 hn) rfl ?_
  refine aw_iload_n dX9_busiestNight_21 rfl ?_
  refine aw_iload_n dX9_busiestNight_22 rfl ?_
  refine ap_callVi kv_X9_132 ko_X0_takenOn (c_X0_takenOn hn hb hbl c _) dX9_busiestNight_23 e_15 (l_15 hn) rfl rfl rfl rfl (ble' rfl) (by decide) ?_
  refine aw_istore (lo' := [_, _, _, _, _, some (.int _), _, _]) dX9_busiestNight_26 (by decide) rfl ?_
  refine aw_iload_n dX9_busiestNight_28 rfl ?_
  refine aw_iconst (v := 1) dX9_busiestNight_29 (by decide) ?_
  refine aw_iadd dX9_busiestNight_30 ?_
  refine aw_istore (lo' := [_, _, _, _, _, _, some (.int _), _]) dX9_busiestNight_31 (by decide) rfl ?_
  refine AW.widen (ce' := 3) (sl' := 18) (by decide) (by decide) ?_
  exact lp_X9_busiestNight hn hb hbl hde he9 he (fun v q => po_i (by rw [cd_busiestNight, if_neg b2, if_neg b8]) (by rw [enb, cl_of hd (by omega), cl_of he (by omega)]; exact q) seq_rf) 1000 0 _ _ _ (by omega) (by omega) (by rw [hd]; exact nI_1 d) hd (by rw [hd]; rfl)
