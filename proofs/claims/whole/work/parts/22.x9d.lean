def cnlM (M : Nat → Nat → Int32) (k : Nat) : Nat → Nat → Int32 := updM (updM M 19 (upd (M 19) k (M 19 k - rcF (M 17 k - M 1 5) (M 19 k)))) 20 (upd (M 20) k 3)
def cd_cancel (M : Nat → Nat → Int32) (x : Int32) : Nat := if (x < 0 ∨ M 15 6 ≤ x) then 1 else if ¬ M 20 x.toNatClampNeg = 0 then 2 else 0
set_option maxRecDepth 100000 in
set_option maxHeartbeats 4000000 in
theorem c_X9_cancel {G : AG} {M : Nat → Nat → Int32} {n : Nat} (hn : 72 ≤ n) {nc ns nz nb nr t : Nat} (hI : CI M nc ns nz nb nr t)  (x : Int32) : AMet tX9_cancel yX9_cancel [Cond.code yX9_cancel cX9_cancel 3 (some .int)] [.ref 0, .int x] (wld G M) n (PO ["java/lang/IndexOutOfBoundsException", "java/lang/IllegalStateException"] (cd_cancel M x) (some (.int (rcF (M 17 x.toNatClampNeg - M 1 5) (M 19 x.toNatClampNeg)))) G M (cnlM M x.toNatClampNeg) n) := by
  obtain ⟨hc, hcl, hs, hsl, hz, hzl, hb, hbl, hr, hrl, ht, htl⟩ := id hI
  refine am_of (lo := [_, _, _]) (by decide) rfl (fun q => by cases q) rfl rfl rfl ?_
  refine aw_aload_n dX9_cancel_0 rfl ?_
  refine aw_iload_n dX9_cancel_1 rfl ?_
  refine ap_chkV kw_X9_165 kv_X9_165 ko_X9_checkBooking (c_X9_checkBooking hn _) dX9_cancel_2 e_0 (l_0 hn) rfl rfl rfl rfl (ble' rfl) (by decide) (fun q => po_e 0 (by rw [cd_cancel, if_pos q]) rfl (seq_rf)) (fun b2 => ?_)
  obtain ⟨j, hjl, hj⟩ := ck_ix hb (by omega) b2
  refine aw_aload_n dX9_cancel_5 rfl ?_
  refine aw_get fl_X9_10 dX9_cancel_6 e_0 (l_0 hn) rfl ?_
  refine aw_get fl_X9_128 dX9_cancel_9 e_1 (l_1 hn) rfl ?_
  refine aw_get fl_X9_168 dX9_cancel_12 e_15 (l_15 hn) rfl ?_
  refine aw_iload_n dX9_cancel_15 rfl ?_
  refine aw_ialdk dX9_cancel_16 e_20 (l_20 hn) hj (by omega) rfl ?_
  refine aw_if_ne 24 dX9_cancel_17 (by decide) (fun c17 => ?_) (fun c17 => ?_)
  · refine aw_iconst (v := 0) dX9_cancel_24 (by decide) ?_
    refine ap_chkS kw_X9_184 ks_X9_184 ko_X9_checkState (c_X9_checkState _) dX9_cancel_25 rfl rfl (ble' rfl) (by decide) (fun _ => po_e 1 (by rw [cd_cancel, if_neg b2, if_pos (by rw [cl_of hj (by omega)]; exact c17)]) rfl (seq_rf)) (fun q => absurd rfl q)
  · refine aw_iconst (v := 1) dX9_cancel_20 (by decide) ?_
    refine aw_goto 25 dX9_cancel_21 (by decide) ?_
    refine ap_chkS kw_X9_184 ks_X9_184 ko_X9_checkState (c_X9_checkState _) dX9_cancel_25 rfl rfl (ble' rfl) (by decide) (fun q => absurd q (by decide)) (fun _ => ?_)
    refine aw_aload_n dX9_cancel_28 rfl ?_
    refine aw_get fl_X9_10 dX9_cancel_29 e_0 (l_0 hn) rfl ?_
    refine aw_iload_n dX9_cancel_32 rfl ?_
    refine ap_callVi kv_X9_188 ko_X1_refundOfCancelling (c_X1_refundOfCancelling hn hj (by omega)) dX9_cancel_33 e_1 (l_1 hn) rfl rfl rfl rfl (ble' rfl) (by decide) ?_
    refine aw_istore_n (lo' := [_, _, some (.int _)]) dX9_cancel_36 (by decide) rfl ?_
    refine aw_aload_n dX9_cancel_37 rfl ?_
    refine aw_get fl_X9_10 dX9_cancel_38 e_0 (l_0 hn) rfl ?_
    refine aw_get fl_X9_128 dX9_cancel_41 e_1 (l_1 hn) rfl ?_
    refine aw_get fl_X9_178 dX9_cancel_44 e_15 (l_15 hn) rfl ?_
    refine aw_iload_n dX9_cancel_47 rfl ?_
    refine aw_dup2 dX9_cancel_48 rfl rfl ?_
    refine aw_ialdk dX9_cancel_49 e_19 (l_19 hn) hj (by omega) rfl ?_
    refine aw_iload_n dX9_cancel_50 rfl ?_
    refine aw_isub dX9_cancel_51 ?_
    refine aw_iastk dX9_cancel_52 e_19 (l_19 hn) hj (by omega) rfl (hwa rfl) ?_
    refine aw_aload_n dX9_cancel_53 rfl ?_
    refine aw_get fl_X9_10 dX9_cancel_54 e_0 (l_0 hn) rfl ?_
    refine aw_get fl_X9_128 dX9_cancel_57 e_1 (l_1 hn) rfl ?_
    refine aw_get fl_X9_168 dX9_cancel_60 e_15 (l_15 hn) rfl ?_
    refine aw_iload_n dX9_cancel_63 rfl ?_
    refine aw_iconst (v := 3) dX9_cancel_64 (by decide) ?_
    refine aw_iastk dX9_cancel_65 e_20 (l_20 hn) hj (by omega) rfl (hwa rfl) ?_
    refine aw_iload_n dX9_cancel_66 rfl ?_
    refine aw_iret rfl dX9_cancel_67 (ble' rfl) (ble' rfl) ?_
    exact po_i (by rw [cd_cancel, if_neg b2, if_neg (fun q => q (by rw [cl_of hj (by omega)]; exact c17))]) (by rw [cl_of hj (by omega)]) (by rw [cl_of hj (by omega)]; exact seq_rf)

def cd_move (M : Nat → Nat → Int32) (x s : Int32) : Nat := if (x < 0 ∨ M 15 6 ≤ x) then 1 else if (s < 0 ∨ M 6 2 ≤ s) then 1 else if ¬ M 7 s.toNatClampNeg = M 16 x.toNatClampNeg then 2 else if ¬ M 20 x.toNatClampNeg = 1 then 3 else if ¬ (¬ M 1 5 < M 8 s.toNatClampNeg ∧ anyB (sbB (M 20) (M 21) s) (nbM M) = false) then 3 else 0
set_option maxRecDepth 100000 in
set_option maxHeartbeats 4000000 in
theorem c_X9_move {G : AG} {M : Nat → Nat → Int32} {n : Nat} (hn : 72 ≤ n) {nc ns nz nb nr t : Nat} (hI : CI M nc ns nz nb nr t)  (x s : Int32) : AMet tX9_move yX9_move [Cond.code yX9_move cX9_move 4 (some .int)] [.ref 0, .int x, .int s] (wld G M) n (PO ["java/lang/IndexOutOfBoundsException", "java/lang/IllegalArgumentException", "java/lang/IllegalStateException"] (cd_move M x s) (some (.int (M 21 x.toNatClampNeg))) G M (updM M 21 (upd (M 21) x.toNatClampNeg s)) n) := by
  obtain ⟨hc, hcl, hs, hsl, hz, hzl, hb, hbl, hr, hrl, ht, htl⟩ := id hI
  have ens : nsM M = ns := cl_of hs (by omega)
  have enb : nbM M = nb := cl_of hb (by omega)
  have enz : nzM M = nz := cl_of hz (by omega)
  have enr : nrM M = nr := cl_of hr (by omega)
  have etm : tM M = t := cl_of ht (by omega)
  refine am_of (lo := [_, _, _, _]) (by decide) rfl (fun q => by cases q) rfl rfl rfl ?_
  refine aw_aload_n dX9_move_0 rfl ?_
  refine aw_iload_n dX9_move_1 rfl ?_
  refine ap_chkV kw_X9_165 kv_X9_165 ko_X9_checkBooking (c_X9_checkBooking hn _) dX9_move_2 e_0 (l_0 hn) rfl rfl rfl rfl (ble' rfl) (by decide) (fun q => po_e 0 (by rw [cd_move, if_pos q]) rfl (seq_rf)) (fun b2 => ?_)
  obtain ⟨j, hjl, hj⟩ := ck_ix hb (by omega) b2
  refine aw_aload_n dX9_move_5 rfl ?_
  refine aw_iload_n dX9_move_6 rfl ?_
  refine ap_chkV kw_X9_108 kv_X9_108 ko_X9_checkSite (c_X9_checkSite hn _) dX9_move_7 e_0 (l_0 hn) rfl rfl rfl rfl (ble' rfl) (by decide) (fun q => po_e 0 (by rw [cd_move, if_neg b2, if_pos q]) rfl (seq_rf)) (fun b7 => ?_)
  obtain ⟨i, hil, hi⟩ := ck_ix hs (by omega) b7
  refine aw_aload_n dX9_move_10 rfl ?_
  refine aw_iload_n dX9_move_11 rfl ?_
  refine aw_aload_n dX9_move_12 rfl ?_
  refine aw_get fl_X9_10 dX9_move_13 e_0 (l_0 hn) rfl ?_
  refine aw_get fl_X9_128 dX9_move_16 e_1 (l_1 hn) rfl ?_
  refine aw_get fl_X9_171 dX9_move_19 e_15 (l_15 hn) rfl ?_
  refine aw_iload_n dX9_move_22 rfl ?_
  refine aw_ialdk dX9_move_23 e_16 (l_16 hn) hj (by omega) rfl ?_
  refine ap_chkV kw_X9_194 kv_X9_194 ko_X9_checkSameClass (c_X9_checkSameClass hn hi (by omega) _) dX9_move_24 e_0 (l_0 hn) rfl rfl rfl rfl (ble' rfl) (by decide) (fun q => po_e 1 (by rw [cd_move, if_neg b2, if_neg b7, if_pos (by rw [cl_of hj (by omega), cl_of hi (by omega)]; exact q)]) rfl (seq_rf)) (fun b24 => ?_)
  refine aw_aload_n dX9_move_27 rfl ?_
  refine aw_get fl_X9_10 dX9_move_28 e_0 (l_0 hn) rfl ?_
  refine aw_get fl_X9_128 dX9_move_31 e_1 (l_1 hn) rfl ?_
  refine aw_get fl_X9_168 dX9_move_34 e_15 (l_15 hn) rfl ?_
  refine aw_iload_n dX9_move_37 rfl ?_
  refine aw_ialdk dX9_move_38 e_20 (l_20 hn) hj (by omega) rfl ?_
  refine aw_iconst (v := 1) dX9_move_39 (by decide) ?_
  refine aw_icmp_ne 47 dX9_move_40 (by decide) (fun c40 => ?_) (fun c40 => ?_)
  · refine aw_iconst (v := 0) dX9_move_47 (by decide) ?_
    refine ap_chkS kw_X9_184 ks_X9_184 ko_X9_checkState (c_X9_checkState _) dX9_move_48 rfl rfl (ble' rfl) (by decide) (fun _ => po_e 2 (by rw [cd_move, if_neg b2, if_neg b7, if_neg (by rw [cl_of hj (by omega), cl_of hi (by omega)]; exact b24), if_pos (by rw [cl_of hj (by omega)]; exact c40)]) rfl (seq_rf)) (fun q => absurd rfl q)
  · refine aw_iconst (v := 1) dX9_move_43 (by decide) ?_
    refine aw_goto 48 dX9_move_44 (by decide) ?_
    refine ap_chkS kw_X9_184 ks_X9_184 ko_X9_checkState (c_X9_checkState _) dX9_move_48 rfl rfl (ble' rfl) (by decide) (fun q => absurd q (by decide)) (fun _ => ?_)
    refine aw_aload_n dX9_move_51 rfl ?_
    refine aw_get fl_X9_10 dX9_move_52 e_0 (l_0 hn) rfl ?_
    refine aw_iload_n dX9_move_55 rfl ?_
    refine ap_callVi kv_X9_201 ko_X1_isVacant (c_X1_isVacant hn hb hbl hi (by omega)) dX9_move_56 e_1 (l_1 hn) rfl rfl rfl rfl (ble' rfl) (by decide) ?_
    refine ap_chkS kw_X9_184 ks_X9_184 ko_X9_checkState (c_X9_checkState _) dX9_move_59 rfl rfl (ble' rfl) (by decide) (fun q => po_e 2 (by rw [cd_move, if_neg b2, if_neg b7, if_neg (by rw [cl_of hj (by omega), cl_of hi (by omega)]; exact b24), if_neg (fun q => q (by rw [cl_of hj (by omega)]; exact c40)), if_pos (by rw [cl_of hi (by omega), enb]; exact bI_z.mp q)]) rfl (seq_rf)) (fun b59 => ?_)
    refine aw_aload_n dX9_move_62 rfl ?_
    refine aw_get fl_X9_10 dX9_move_63 e_0 (l_0 hn) rfl ?_
    refine aw_get fl_X9_128 dX9_move_66 e_1 (l_1 hn) rfl ?_
    refine aw_get fl_X9_181 dX9_move_69 e_15 (l_15 hn) rfl ?_
    refine aw_iload_n dX9_move_72 rfl ?_
    refine aw_ialdk dX9_move_73 e_21 (l_21 hn) hj (by omega) rfl ?_
    refine aw_istore_n (lo' := [_, _, _, some (.int _)]) dX9_move_74 (by decide) rfl ?_
    refine aw_aload_n dX9_move_75 rfl ?_
    refine aw_get fl_X9_10 dX9_move_76 e_0 (l_0 hn) rfl ?_
    refine aw_get fl_X9_128 dX9_move_79 e_1 (l_1 hn) rfl ?_
    refine aw_get fl_X9_181 dX9_move_82 e_15 (l_15 hn) rfl ?_
    refine aw_iload_n dX9_move_85 rfl ?_
    refine aw_iload_n dX9_move_86 rfl ?_
    refine aw_iastk dX9_move_87 e_21 (l_21 hn) hj (by omega) rfl (hwa rfl) ?_
    refine aw_iload_n dX9_move_88 rfl ?_
    refine aw_iret rfl dX9_move_89 (ble' rfl) (ble' rfl) ?_
    exact po_i (by rw [cd_move, if_neg b2, if_neg b7, if_neg (by rw [cl_of hj (by omega), cl_of hi (by omega)]; exact b24), if_neg (fun q => q (by rw [cl_of hj (by omega)]; exact c40)), if_neg (fun q => q (by rw [cl_of hi (by omega), enb]; exact bI_nz.mp b59))]) (by rw [cl_of hj (by omega)]) (by rw [cl_of hj (by omega)]; exact seq_rf)

/-- what a guest who departs early gets back -/
def rdM (M : Nat → Nat → Int32) (k : Nat) : Int32 := let s := psum (prM M (nzM M) (M 16 k)) (tM M + 1) ((M 18 k).toNatClampNeg - (tM M + 1)) / 2; if M 19 k < s then M 19 k else s
def dpM (M : Nat → Nat → Int32) (k : Nat) : Nat → Nat → Int32 := updM (updM (updM M 19 (upd (M 19) k (M 19 k - rdM M k))) 18 (upd (M 18) k (if M 1 5 < M 17 k + 1 then M 17 k + 1 else M 1 5))) 20 (upd (M 20) k 2)
def cd_departEarly (M : Nat → Nat → Int32) (x : Int32) : Nat := if (x < 0 ∨ M 15 6 ≤ x) then 1 else if ¬ M 20 x.toNatClampNeg = 1 then 2 else 0
set_option maxRecDepth 100000 in
set_option maxHeartbeats 4000000 in
theorem c_X9_departEarly {G : AG} {M : Nat → Nat → Int32} {n : Nat} (hn : 72 ≤ n) {nc ns nz nb nr t : Nat} (hI : CI M nc ns nz nb nr t) (hBI : ∀ k, k < nb → ∃ d : Nat, d ≤ 999 ∧ M 18 k = nI d) (x : Int32) : AMet tX9_departEarly yX9_departEarly [Cond.code yX9_departEarly cX9_departEarly 3 (some .int)] [.ref 0, .int x] (wld G M) n (PO ["java/lang/IndexOutOfBoundsException", "java/lang/IllegalStateException"] (cd_departEarly M x) (some (.int (rdM M x.toNatClampNeg))) G M (dpM M x.toNatClampNeg) n) := by
  obtain ⟨hc, hcl, hs, hsl, hz, hzl, hb, hbl, hr, hrl, ht, htl⟩ := id hI
  have ens : nsM M = ns := cl_of hs (by omega)
  have enb : nbM M = nb := cl_of hb (by omega)
  have enz : nzM M = nz := cl_of hz (by omega)
  have enr : nrM M = nr := cl_of hr (by omega)
  have etm : tM M = t := cl_of ht (by omega)
  refine am_of (lo := [_, _, _]) (by decide) rfl (fun q => by cases q) rfl rfl rfl ?_
  refine aw_aload_n dX9_departEarly_0 rfl ?_
  refine aw_iload_n dX9_departEarly_1 rfl ?_
  refine ap_chkV kw_X9_165 kv_X9_165 ko_X9_checkBooking (c_X9_checkBooking hn _) dX9_departEarly_2 e_0 (l_0 hn) rfl rfl rfl rfl (ble' rfl) (by decide) (fun q => po_e 0 (by rw [cd_departEarly, if_pos q]) rfl (seq_rf)) (fun b2 => ?_)
  obtain ⟨j, hjl, hj⟩ := ck_ix hb (by omega) b2
  obtain ⟨dd, hd9, hdd⟩ := hBI j hjl
  have erd : rdM M j = (let s := psum (fun d => sval (seasN (M 10) (M 11) (M 12) (M 16 j) d nz) (M 14) 20) (t + 1) (dd - (t + 1)) / 2; if M 19 j < s then M 19 j else s) := by rw [rdM, enz, etm, cl_of hdd (by omega)]; rfl
  refine aw_aload_n dX9_departEarly_5 rfl ?_
  refine aw_get fl_X9_10 dX9_departEarly_6 e_0 (l_0 hn) rfl ?_
  refine aw_get fl_X9_128 dX9_departEarly_9 e_1 (l_1 hn) rfl ?_
  refine aw_get fl_X9_168 dX9_departEarly_12 e_15 (l_15 hn) rfl ?_
  refine aw_iload_n dX9_departEarly_15 rfl ?_
  refine aw_ialdk dX9_departEarly_16 e_20 (l_20 hn) hj (by omega) rfl ?_
  refine aw_iconst (v := 1) dX9_departEarly_17 (by decide) ?_
  refine aw_icmp_ne 25 dX9_departEarly_18 (by decide) (fun c18 => ?_) (fun c18 => ?_)
  · refine aw_iconst (v := 0) dX9_departEarly_25 (by decide) ?_
    refine ap_chkS kw_X9_184 ks_X9_184 ko_X9_checkState (c_X9_checkState _) dX9_departEarly_26 rfl rfl (ble' rfl) (by decide) (fun _ => po_e 1 (by rw [cd_departEarly, if_neg b2, if_pos (by rw [cl_of hj (by omega)]; exact c18)]) rfl (seq_rf)) (fun q => absurd rfl q)
  · refine aw_iconst (v := 1) dX9_departEarly_21 (by decide) ?_
    refine aw_goto 26 dX9_departEarly_22 (by decide) ?_
    refine ap_chkS kw_X9_184 ks_X9_184 ko_X9_checkState (c_X9_checkState _) dX9_departEarly_26 rfl rfl (ble' rfl) (by decide) (fun q => absurd q (by decide)) (fun _ => ?_)
    refine aw_aload_n dX9_departEarly_29 rfl ?_
    refine aw_get fl_X9_10 dX9_departEarly_30 e_0 (l_0 hn) rfl ?_
    refine aw_iload_n dX9_departEarly_33 rfl ?_
    refine ap_callVi kv_X9_204 ko_X1_refundOfDeparting (c_X1_refundOfDeparting hn hz hzl hj (by omega) ht hdd (by omega) (by omega)) dX9_departEarly_34 e_1 (l_1 hn) rfl rfl rfl rfl (ble' rfl) (by decide) ?_
    refine aw_istore_n (lo' := [_, _, some (.int _)]) dX9_departEarly_37 (by decide) rfl ?_
    refine aw_aload_n dX9_departEarly_38 rfl ?_
    refine aw_get fl_X9_10 dX9_departEarly_39 e_0 (l_0 hn) rfl ?_
    refine aw_get fl_X9_128 dX9_departEarly_42 e_1 (l_1 hn) rfl ?_
    refine aw_get fl_X9_178 dX9_departEarly_45 e_15 (l_15 hn) rfl ?_
    refine aw_iload_n dX9_departEarly_48 rfl ?_
    refine aw_dup2 dX9_departEarly_49 rfl rfl ?_
    refine aw_ialdk dX9_departEarly_50 e_19 (l_19 hn) hj (by omega) rfl ?_
    refine aw_iload_n dX9_departEarly_51 rfl ?_
    refine aw_isub dX9_departEarly_52 ?_
    refine aw_iastk dX9_departEarly_53 e_19 (l_19 hn) hj (by omega) rfl (hwa rfl) ?_
    refine aw_aload_n dX9_departEarly_54 rfl ?_
    refine aw_get fl_X9_10 dX9_departEarly_55 e_0 (l_0 hn) rfl ?_
    refine aw_get fl_X9_128 dX9_departEarly_58 e_1 (l_1 hn) rfl ?_
    refine aw_get fl_X9_175 dX9_departEarly_61 e_15 (l_15 hn) rfl ?_
    refine aw_iload_n dX9_departEarly_64 rfl ?_
    refine aw_aload_n dX9_departEarly_65 rfl ?_
    refine aw_get fl_X9_10 dX9_departEarly_66 e_0 (l_0 hn) rfl ?_
    refine aw_get fl_X9_198 dX9_departEarly_69 e_1 (l_1 hn) rfl ?_
    refine aw_aload_n dX9_departEarly_72 rfl ?_
    refine aw_get fl_X9_10 dX9_departEarly_73 e_0 (l_0 hn) rfl ?_
    refine aw_get fl_X9_128 dX9_departEarly_76 e_1 (l_1 hn) rfl ?_
    refine aw_get fl_X9_172 dX9_departEarly_79 e_15 (l_15 hn) rfl ?_
    refine aw_iload_n dX9_departEarly_82 rfl ?_
    refine aw_ialdk dX9_departEarly_83 e_17 (l_17 hn) hj (by omega) rfl ?_
    refine aw_iconst (v := 1) dX9_departEarly_84 (by decide) ?_
    refine aw_iadd dX9_departEarly_85 ?_
    refine aw_mmax km_X9_137 dX9_departEarly_86 ⟨by decide, ble' rfl, by decide, by decide⟩ ?_
    refine aw_iastk dX9_departEarly_89 e_18 (l_18 hn) hj (by omega) rfl (hwa rfl) ?_
    refine aw_aload_n dX9_departEarly_90 rfl ?_
    refine aw_get fl_X9_10 dX9_departEarly_91 e_0 (l_0 hn) rfl ?_
    refine aw_get fl_X9_128 dX9_departEarly_94 e_1 (l_1 hn) rfl ?_
    refine aw_get fl_X9_168 dX9_departEarly_97 e_15 (l_15 hn) rfl ?_
    refine aw_iload_n dX9_departEarly_100 rfl ?_
    refine aw_iconst (v := 2) dX9_departEarly_101 (by decide) ?_
    refine aw_iastk dX9_departEarly_102 e_20 (l_20 hn) hj (by omega) rfl (hwa rfl) ?_
    refine aw_iload_n dX9_departEarly_103 rfl ?_
    refine aw_iret rfl dX9_departEarly_104 (ble' rfl) (ble' rfl) ?_
    exact po_i (by rw [cd_departEarly, if_neg b2, if_neg (fun q => q (by rw [cl_of hj (by omega)]; exact c18))]) (by rw [cl_of hj (by omega), erd]) (by rw [cl_of hj (by omega), dpM, erd]; exact seq_rf)

def cd_open (M : Nat → Nat → Int32) (x : Int32) : Nat := if (x < 0 ∨ M 6 2 ≤ x) then 1 else if ¬ M 1 5 < M 8 x.toNatClampNeg then 2 else 0
set_option maxRecDepth 100000 in
set_option maxHeartbeats 4000000 in
theorem c_X9_open {G : AG} {M : Nat → Nat → Int32} {n : Nat} (hn : 72 ≤ n) {nc ns nz nb nr t : Nat} (hI : CI M nc ns nz nb nr t)  (x : Int32) : AMet tX9_open yX9_open [Cond.code yX9_open cX9_open 3 (some .int)] [.ref 0, .int x] (wld G M) n (PO ["java/lang/IndexOutOfBoundsException", "java/lang/IllegalStateException"] (cd_open M x) (some (.int (M 8 x.toNatClampNeg))) G M (updM M 8 (upd (M 8) x.toNatClampNeg 0)) n) := by
  obtain ⟨hc, hcl, hs, hsl, hz, hzl, hb, hbl, hr, hrl, ht, htl⟩ := id hI
  refine am_of (lo := [_, _, _]) (by decide) rfl (fun q => by cases q) rfl rfl rfl ?_
  refine aw_aload_n dX9_open_0 rfl ?_
  refine aw_iload_n dX9_open_1 rfl ?_
  refine ap_chkV kw_X9_108 kv_X9_108 ko_X9_checkSite (c_X9_checkSite hn _) dX9_open_2 e_0 (l_0 hn) rfl rfl rfl rfl (ble' rfl) (by decide) (fun q => po_e 0 (by rw [cd_open, if_pos q]) rfl (seq_rf)) (fun b2 => ?_)
  obtain ⟨j, hjl, hj⟩ := ck_ix hs (by omega) b2
  refine aw_aload_n dX9_open_5 rfl ?_
  refine aw_get fl_X9_10 dX9_open_6 e_0 (l_0 hn) rfl ?_
  refine aw_get fl_X9_84 dX9_open_9 e_1 (l_1 hn) rfl ?_
  refine aw_iload_n dX9_open_12 rfl ?_
  refine aw_aload_n dX9_open_13 rfl ?_
  refine aw_get fl_X9_10 dX9_open_14 e_0 (l_0 hn) rfl ?_
  refine aw_get fl_X9_198 dX9_open_17 e_1 (l_1 hn) rfl ?_
  refine ap_callVi kv_X9_225 ko_X7_isClosed (c_X7_isClosed hn hj (by omega)) dX9_open_20 e_6 (l_6 hn) rfl rfl rfl rfl (ble' rfl) (by decide) ?_
  refine ap_chkS kw_X9_184 ks_X9_184 ko_X9_checkState (c_X9_checkState _) dX9_open_23 rfl rfl (ble' rfl) (by decide) (fun q => po_e 1 (by rw [cd_open, if_neg b2, if_pos (by rw [cl_of hj (by omega)]; exact bI_z.mp q)]) rfl (seq_rf)) (fun b23 => ?_)
  refine aw_aload_n dX9_open_26 rfl ?_
  refine aw_get fl_X9_10 dX9_open_27 e_0 (l_0 hn) rfl ?_
  refine aw_get fl_X9_84 dX9_open_30 e_1 (l_1 hn) rfl ?_
  refine aw_get fl_X9_222 dX9_open_33 e_6 (l_6 hn) rfl ?_
  refine aw_iload_n dX9_open_36 rfl ?_
  refine aw_ialdk dX9_open_37 e_8 (l_8 hn) hj (by omega) rfl ?_
  refine aw_istore_n (lo' := [_, _, some (.int _)]) dX9_open_38 (by decide) rfl ?_
  refine aw_aload_n dX9_open_39 rfl ?_
  refine aw_get fl_X9_10 dX9_open_40 e_0 (l_0 hn) rfl ?_
  refine aw_get fl_X9_84 dX9_open_43 e_1 (l_1 hn) rfl ?_
  refine aw_get fl_X9_222 dX9_open_46 e_6 (l_6 hn) rfl ?_
  refine aw_iload_n dX9_open_49 rfl ?_
  refine aw_iconst (v := 0) dX9_open_50 (by decide) ?_
  refine aw_iastk dX9_open_51 e_8 (l_8 hn) hj (by omega) rfl (hwa rfl) ?_
  refine aw_iload_n dX9_open_52 rfl ?_
  refine aw_iret rfl dX9_open_53 (ble' rfl) (ble' rfl) ?_
  exact po_i (by rw [cd_open, if_neg b2, if_neg (fun q => q (by rw [cl_of hj (by omega)]; exact bI_nz.mp b23))]) (by rw [cl_of hj (by omega)]) (by rw [cl_of hj (by omega)]; exact seq_rf)

/-- a site of the class c can be spared on the nights from a on, k of them -/
def spM (M : Nat → Nat → Int32) (c : Int32) (a k : Nat) : Bool := allN (fun i => decide ((nI (cnt (tkB (M 16) (M 17) (M 18) (M 20) c (nI i)) (nbM M))) < (capF (M 1 5) (nI (cnt (opB (M 7) (M 8) c (nI i)) (nsM M))) (nI i)))) a k
def cd_close (M : Nat → Nat → Int32) (x u : Int32) : Nat := if (x < 0 ∨ M 6 2 ≤ x) then 1 else if (u < M 1 5 + 1 ∨ 999 < u) then 2 else if ¬ (¬ M 1 5 < M 8 x.toNatClampNeg ∧ anyB (sbB (M 20) (M 21) x) (nbM M) = false) then 3 else if ¬ spM M (M 7 x.toNatClampNeg) (tM M) (u.toNatClampNeg - tM M) = true then 3 else 0
set_option maxRecDepth 100000 in
set_option maxHeartbeats 4000000 in
theorem c_X9_close {G : AG} {M : Nat → Nat → Int32} {n : Nat} (hn : 72 ≤ n) {nc ns nz nb nr t : Nat} (hI : CI M nc ns nz nb nr t)  (x u : Int32) : AMet tX9_close yX9_close [Cond.code yX9_close cX9_close 3 none] [.ref 0, .int x, .int u] (wld G M) n (PO ["java/lang/IndexOutOfBoundsException", "java/lang/IllegalArgumentException", "java/lang/IllegalStateException"] (cd_close M x u) none G M (updM M 8 (upd (M 8) x.toNatClampNeg u)) n) := by
  obtain ⟨hc, hcl, hs, hsl, hz, hzl, hb, hbl, hr, hrl, ht, htl⟩ := id hI
  have ens : nsM M = ns := cl_of hs (by omega)
  have enb : nbM M = nb := cl_of hb (by omega)
  have enz : nzM M = nz := cl_of hz (by omega)
  have enr : nrM M = nr := cl_of hr (by omega)
  have etm : tM M = t := cl_of ht (by omega)
  refine am_of (lo := [_, _, _]) (by decide) rfl (fun q => by cases q) rfl rfl rfl ?_
  refine aw_aload_n dX9_close_0 rfl ?_
  refine aw_iload_n dX9_close_1 rfl ?_
  refine ap_chkV kw_X9_108 kv_X9_108 ko_X9_checkSite (c_X9_checkSite hn _) dX9_close_2 e_0 (l_0 hn) rfl rfl rfl rfl (ble' rfl) (by decide) (fun q => po_e 0 (by rw [cd_close, if_pos q]) rfl (seq_rf)) (fun b2 => ?_)
  obtain ⟨j, hjl, hj⟩ := ck_ix hs (by omega) b2
  refine aw_iload_n dX9_close_5 rfl ?_
  refine aw_aload_n dX9_close_6 rfl ?_
  refine aw_get fl_X9_10 dX9_close_7 e_0 (l_0 hn) rfl ?_
  refine aw_get fl_X9_198 dX9_close_10 e_1 (l_1 hn) rfl ?_
  refine aw_iconst (v := 1) dX9_close_13 (by decide) ?_
  refine aw_iadd dX9_close_14 ?_
  refine aw_sipush (v := 999) dX9_close_15 (by decide) ?_
  refine ap_chkS kw_X9_56 ks_X9_56 ko_X9_checkRange (c_X9_checkRange _ _ _) dX9_close_18 rfl rfl (ble' rfl) (by decide) (fun q => po_e 1 (by rw [cd_close, if_neg b2, if_pos q]) rfl (seq_rf)) (fun b18 => ?_)
  obtain ⟨e, hte, he9, he⟩ := ck_rng (show M 1 5 + 1 = nI (t + 1) by rw [ht]; exact nI_1 t) (show (999 : Int32) = nI 999 from rfl) (by omega) (by decide) b18
  refine aw_aload_n dX9_close_21 rfl ?_
  refine aw_get fl_X9_10 dX9_close_22 e_0 (l_0 hn) rfl ?_
  refine aw_iload_n dX9_close_25 rfl ?_
  refine ap_callVi kv_X9_201 ko_X1_isVacant (c_X1_isVacant hn hb hbl hj (by omega)) dX9_close_26 e_1 (l_1 hn) rfl rfl rfl rfl (ble' rfl) (by decide) ?_
  refine ap_chkS kw_X9_184 ks_X9_184 ko_X9_checkState (c_X9_checkState _) dX9_close_29 rfl rfl (ble' rfl) (by decide) (fun q => po_e 2 (by rw [cd_close, if_neg b2, if_neg b18, if_pos (by rw [cl_of hj (by omega), enb]; exact bI_z.mp q)]) rfl (seq_rf)) (fun b29 => ?_)
  refine aw_aload_n dX9_close_32 rfl ?_
  refine aw_get fl_X9_10 dX9_close_33 e_0 (l_0 hn) rfl ?_
  refine aw_aload_n dX9_close_36 rfl ?_
  refine aw_get fl_X9_10 dX9_close_37 e_0 (l_0 hn) rfl ?_
  refine aw_get fl_X9_84 dX9_close_40 e_1 (l_1 hn) rfl ?_
  refine aw_get fl_X9_111 dX9_close_43 e_6 (l_6 hn) rfl ?_
  refine aw_iload_n dX9_close_46 rfl ?_
  refine aw_ialdk dX9_close_47 e_7 (l_7 hn) hj (by omega) rfl ?_
  refine aw_iload_n dX9_close_48 rfl ?_
  refine ap_callVi kv_X9_218 ko_X1_canSpare (c_X1_canSpare hn hb hbl hs hsl _ ht (by omega) (by omega) he) dX9_close_49 e_1 (l_1 hn) rfl rfl rfl rfl (ble' rfl) (by decide) ?_
  refine ap_chkS kw_X9_184 ks_X9_184 ko_X9_checkState (c_X9_checkState _) dX9_close_52 rfl rfl (ble' rfl) (by decide) (fun q => po_e 2 (by rw [cd_close, if_neg b2, if_neg b18, if_neg (fun q => q (by rw [cl_of hj (by omega), enb]; exact bI_nz.mp b29)), if_pos (by rw [cl_of hj (by omega), etm, spM, enb, ens, cl_of he (by omega)]; exact bI_z.mp q)]) rfl (seq_rf)) (fun b52 => ?_)
  refine aw_aload_n dX9_close_55 rfl ?_
  refine aw_get fl_X9_10 dX9_close_56 e_0 (l_0 hn) rfl ?_
  refine aw_get fl_X9_84 dX9_close_59 e_1 (l_1 hn) rfl ?_
  refine aw_get fl_X9_222 dX9_close_62 e_6 (l_6 hn) rfl ?_
  refine aw_iload_n dX9_close_65 rfl ?_
  refine aw_iload_n dX9_close_66 rfl ?_
  refine aw_iastk dX9_close_67 e_8 (l_8 hn) hj (by omega) rfl (hwa rfl) ?_
  refine aw_vret rfl dX9_close_68 (ble' rfl) (ble' rfl) ?_
  exact po_r (by rw [cd_close, if_neg b2, if_neg b18, if_neg (fun q => q (by rw [cl_of hj (by omega), enb]; exact bI_nz.mp b29)), if_neg (fun q => q (by rw [cl_of hj (by omega), etm, spM, enb, ens, cl_of he (by omega)]; exact bI_nz.mp b52))]) rfl (by rw [cl_of hj (by omega)]; exact seq_rf)

def cd_request (M : Nat → Nat → Int32) (c a m : Int32) : Nat := if (c < 0 ∨ M 2 3 ≤ c) then 1 else if (a < M 1 5 ∨ 998 < a) then 2 else if (m < 1 ∨ 28 < m) then 2 else if 20 ≤ M 22 5 then 3 else 0
set_option maxRecDepth 100000 in
set_option maxHeartbeats 4000000 in
theorem c_X9_request {G : AG} {M : Nat → Nat → Int32} {n : Nat} (hn : 72 ≤ n) {nc ns nz nb nr t : Nat} (hI : CI M nc ns nz nb nr t)  (c a m : Int32) : AMet tX9_request yX9_request [Cond.code yX9_request cX9_request 4 (some .int)] [.ref 0, .int c, .int a, .int m] (wld G M) n (PO ["java/lang/IndexOutOfBoundsException", "java/lang/IllegalArgumentException", "java/lang/IllegalStateException"] (cd_request M c a m) (some (.int (nI nr))) G M (addR M nr c a m) n) := by
  obtain ⟨hc, hcl, hs, hsl, hz, hzl, hb, hbl, hr, hrl, ht, htl⟩ := id hI
  refine am_of (lo := [_, _, _, _]) (by decide) rfl (fun q => by cases q) rfl rfl rfl ?_
  refine aw_aload_n dX9_request_0 rfl ?_
  refine aw_iload_n dX9_request_1 rfl ?_
  refine ap_chkV kw_X9_80 kv_X9_80 ko_X9_checkClass (c_X9_checkClass hn _) dX9_request_2 e_0 (l_0 hn) rfl rfl rfl rfl (ble' rfl) (by decide) (fun q => po_e 0 (by rw [cd_request, if_pos q]) rfl (seq_rf)) (fun b2 => ?_)
  refine aw_iload_n dX9_request_5 rfl ?_
  refine aw_aload_n dX9_request_6 rfl ?_
  refine aw_get fl_X9_10 dX9_request_7 e_0 (l_0 hn) rfl ?_
  refine aw_get fl_X9_198 dX9_request_10 e_1 (l_1 hn) rfl ?_
  refine aw_sipush (v := 998) dX9_request_13 (by decide) ?_
  refine ap_chkS kw_X9_56 ks_X9_56 ko_X9_checkRange (c_X9_checkRange _ _ _) dX9_request_16 rfl rfl (ble' rfl) (by decide) (fun q => po_e 1 (by rw [cd_request, if_neg b2, if_pos q]) rfl (seq_rf)) (fun b16 => ?_)
  refine aw_iload_n dX9_request_19 rfl ?_
  refine aw_iconst (v := 1) dX9_request_20 (by decide) ?_
  refine aw_bipush (v := 28) dX9_request_21 (by decide) ?_
  refine ap_chkS kw_X9_56 ks_X9_56 ko_X9_checkRange (c_X9_checkRange _ _ _) dX9_request_23 rfl rfl (ble' rfl) (by decide) (fun q => po_e 1 (by rw [cd_request, if_neg b2, if_neg b16, if_pos q]) rfl (seq_rf)) (fun b23 => ?_)
  refine aw_aload_n dX9_request_26 rfl ?_
  refine aw_get fl_X9_10 dX9_request_27 e_0 (l_0 hn) rfl ?_
  refine aw_get fl_X9_228 dX9_request_30 e_1 (l_1 hn) rfl ?_
  refine aw_get fl_X9_232 dX9_request_33 e_22 (l_22 hn) rfl ?_
  refine aw_bipush (v := 20) dX9_request_36 (by decide) ?_
  refine aw_icmp_lt 51 dX9_request_38 (by decide) (fun c38 => ?_) (fun c38 => ?_)
  · have n38 := Int32.not_le.mpr c38
    refine aw_aload_n dX9_request_51 rfl ?_
    refine aw_get fl_X9_10 dX9_request_52 e_0 (l_0 hn) rfl ?_
    refine aw_get fl_X9_228 dX9_request_55 e_1 (l_1 hn) rfl ?_
    refine aw_iload_n dX9_request_58 rfl ?_
    refine aw_iload_n dX9_request_59 rfl ?_
    refine aw_iload_n dX9_request_60 rfl ?_
    refine ap_callVi kv_X9_237 ko_X4_add (c_X4_add hn hr (lt_of_lt hr (show (20 : Int32) = nI 20 from rfl) (by omega) (by decide) c38) c a m) dX9_request_61 e_22 (l_22 hn) rfl rfl rfl rfl (ble' rfl) (by decide) ?_
    refine aw_iret rfl dX9_request_64 (ble' rfl) (ble' rfl) ?_
    exact po_i (by rw [cd_request, if_neg b2, if_neg b16, if_neg b23, if_neg n38]) (rfl) (seq_rf)
  · have n38 := Int32.not_lt.mp c38
    refine aw_throwS tx_235 dX9_request_41 dX9_request_44 dX9_request_45 dX9_request_47 dX9_request_50 ⟨by decide, ble' rfl, by decide, by decide⟩ ?_
    exact po_e 2 (by rw [cd_request, if_neg b2, if_neg b16, if_neg b23, if_pos n38]) rfl (seq_rf)

def cd_withdraw (M : Nat → Nat → Int32) (x : Int32) : Nat := if (x < 0 ∨ M 22 5 ≤ x) then 1 else if ¬ M 26 x.toNatClampNeg = 0 then 2 else 0
set_option maxRecDepth 100000 in
set_option maxHeartbeats 4000000 in
theorem c_X9_withdraw {G : AG} {M : Nat → Nat → Int32} {n : Nat} (hn : 72 ≤ n) {nc ns nz nb nr t : Nat} (hI : CI M nc ns nz nb nr t)  (x : Int32) : AMet tX9_withdraw yX9_withdraw [Cond.code yX9_withdraw cX9_withdraw 2 none] [.ref 0, .int x] (wld G M) n (PO ["java/lang/IndexOutOfBoundsException", "java/lang/IllegalStateException"] (cd_withdraw M x) none G M (updM M 26 (upd (M 26) x.toNatClampNeg 2)) n) := by
  obtain ⟨hc, hcl, hs, hsl, hz, hzl, hb, hbl, hr, hrl, ht, htl⟩ := id hI
  refine am_of (lo := [_, _]) (by decide) rfl (fun q => by cases q) rfl rfl rfl ?_
  refine aw_aload_n dX9_withdraw_0 rfl ?_
  refine aw_iload_n dX9_withdraw_1 rfl ?_
  refine ap_chkV kw_X9_238 kv_X9_238 ko_X9_checkRequest (c_X9_checkRequest hn _) dX9_withdraw_2 e_0 (l_0 hn) rfl rfl rfl rfl (ble' rfl) (by decide) (fun q => po_e 0 (by rw [cd_withdraw, if_pos q]) rfl (seq_rf)) (fun b2 => ?_)
  obtain ⟨j, hjl, hj⟩ := ck_ix hr (by omega) b2
  refine aw_aload_n dX9_withdraw_5 rfl ?_
  refine aw_get fl_X9_10 dX9_withdraw_6 e_0 (l_0 hn) rfl ?_
  refine aw_get fl_X9_228 dX9_withdraw_9 e_1 (l_1 hn) rfl ?_
  refine aw_get fl_X9_241 dX9_withdraw_12 e_22 (l_22 hn) rfl ?_
  refine aw_iload_n dX9_withdraw_15 rfl ?_
  refine aw_ialdk dX9_withdraw_16 e_26 (l_26 hn) hj (by omega) rfl ?_
  refine aw_if_ne 24 dX9_withdraw_17 (by decide) (fun c17 => ?_) (fun c17 => ?_)
  · refine aw_iconst (v := 0) dX9_withdraw_24 (by decide) ?_
    refine ap_chkS kw_X9_184 ks_X9_184 ko_X9_checkState (c_X9_checkState _) dX9_withdraw_25 rfl rfl (ble' rfl) (by decide) (fun _ => po_e 1 (by rw [cd_withdraw, if_neg b2, if_pos (by rw [cl_of hj (by omega)]; exact c17)]) rfl (seq_rf)) (fun q => absurd rfl q)
  · refine aw_iconst (v := 1) dX9_withdraw_20 (by decide) ?_
    refine aw_goto 25 dX9_withdraw_21 (by decide) ?_
    refine ap_chkS kw_X9_184 ks_X9_184 ko_X9_checkState (c_X9_checkState _) dX9_withdraw_25 rfl rfl (ble' rfl) (by decide) (fun q => absurd q (by decide)) (fun _ => ?_)
    refine aw_aload_n dX9_withdraw_28 rfl ?_
    refine aw_get fl_X9_10 dX9_withdraw_29 e_0 (l_0 hn) rfl ?_
    refine aw_get fl_X9_228 dX9_withdraw_32 e_1 (l_1 hn) rfl ?_
    refine aw_get fl_X9_241 dX9_withdraw_35 e_22 (l_22 hn) rfl ?_
    refine aw_iload_n dX9_withdraw_38 rfl ?_
    refine aw_iconst (v := 2) dX9_withdraw_39 (by decide) ?_
    refine aw_iastk dX9_withdraw_40 e_26 (l_26 hn) hj (by omega) rfl (hwa rfl) ?_
    refine aw_vret rfl dX9_withdraw_41 (ble' rfl) (ble' rfl) ?_
    exact po_r (by rw [cd_withdraw, if_neg b2, if_neg (fun q => q (by rw [cl_of hj (by omega)]; exact c17))]) rfl (by rw [cl_of hj (by omega)]; exact seq_rf)
