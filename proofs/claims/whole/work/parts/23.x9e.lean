/-- the site that a guest of the class c gets who asks for s -/
def givM (M : Nat → Nat → Int32) (c s : Int32) : Int32 := if s = -1 then fstN (fun k => decide (M 7 k = c ∧ (¬ M 1 5 < M 8 k ∧ anyB (sbB (M 20) (M 21) (nI k)) (nbM M) = false))) (nsM M) else s
theorem fst_in (p : Nat → Bool) : ∀ n, fstN p n = -1 ∨ ∃ k, k < n ∧ fstN p n = nI k ∧ p k = true
  | 0 => Or.inl rfl
  | n + 1 => by
    unfold fstN
    split
    · split
      · rename_i h; exact Or.inr ⟨n, by omega, rfl, h⟩
      · exact Or.inl rfl
    · rcases fst_in p n with h | ⟨k, h1, h2, h3⟩
      · exact Or.inl h
      · exact Or.inr ⟨k, by omega, h2, h3⟩
def ciM (M : Nat → Nat → Int32) (k : Nat) (v : Int32) : Nat → Nat → Int32 := updM (updM M 20 (upd (M 20) k 1)) 21 (upd (M 21) k v)
def cd_checkIn (M : Nat → Nat → Int32) (x s : Int32) : Nat := if (x < 0 ∨ M 15 6 ≤ x) then 1 else if (¬ s = -1 ∧ (s < 0 ∨ M 6 2 ≤ s)) then 1 else if (¬ s = -1 ∧ ¬ M 7 s.toNatClampNeg = M 16 x.toNatClampNeg) then 2 else if ¬ M 20 x.toNatClampNeg = 0 then 3 else if ¬ M 17 x.toNatClampNeg = M 1 5 then 3 else if ((givM M (M 16 x.toNatClampNeg) s) = -1 ∨ ¬ (¬ M 1 5 < M 8 (givM M (M 16 x.toNatClampNeg) s).toNatClampNeg ∧ anyB (sbB (M 20) (M 21) (givM M (M 16 x.toNatClampNeg) s)) (nbM M) = false)) then 3 else 0
set_option maxRecDepth 100000 in
set_option maxHeartbeats 4000000 in
theorem c_X9_checkIn {G : AG} {M : Nat → Nat → Int32} {n : Nat} (hn : 72 ≤ n) {nc ns nz nb nr t : Nat} (hI : CI M nc ns nz nb nr t)  (x s : Int32) : AMet tX9_checkIn yX9_checkIn [Cond.code yX9_checkIn cX9_checkIn 5 (some .int)] [.ref 0, .int x, .int s] (wld G M) n (PO ["java/lang/IndexOutOfBoundsException", "java/lang/IllegalArgumentException", "java/lang/IllegalStateException"] (cd_checkIn M x s) (some (.int (givM M (M 16 x.toNatClampNeg) s))) G M (ciM M x.toNatClampNeg (givM M (M 16 x.toNatClampNeg) s)) n) := by
  obtain ⟨hc, hcl, hs, hsl, hz, hzl, hb, hbl, hr, hrl, ht, htl⟩ := id hI
  have ens : nsM M = ns := cl_of hs (by omega)
  have enb : nbM M = nb := cl_of hb (by omega)
  have enz : nzM M = nz := cl_of hz (by omega)
  have enr : nrM M = nr := cl_of hr (by omega)
  have etm : tM M = t := cl_of ht (by omega)
  refine am_of (lo := [_, _, _, _, _]) (by decide) rfl (fun q => by cases q) rfl rfl rfl ?_
  refine aw_aload_n dX9_checkIn_0 rfl ?_
  refine aw_iload_n dX9_checkIn_1 rfl ?_
  refine ap_chkV kw_X9_165 kv_X9_165 ko_X9_checkBooking (c_X9_checkBooking hn _) dX9_checkIn_2 e_0 (l_0 hn) rfl rfl rfl rfl (ble' rfl) (by decide) (fun q => po_e 0 (by rw [cd_checkIn, if_pos q]) rfl (seq_rf)) (fun b2 => ?_)
  obtain ⟨j, hjl, hj⟩ := ck_ix hb (by omega) b2
  refine aw_aload_n dX9_checkIn_5 rfl ?_
  refine aw_get fl_X9_10 dX9_checkIn_6 e_0 (l_0 hn) rfl ?_
  refine aw_get fl_X9_128 dX9_checkIn_9 e_1 (l_1 hn) rfl ?_
  refine aw_get fl_X9_171 dX9_checkIn_12 e_15 (l_15 hn) rfl ?_
  refine aw_iload_n dX9_checkIn_15 rfl ?_
  refine aw_ialdk dX9_checkIn_16 e_16 (l_16 hn) hj (by omega) rfl ?_
  refine aw_istore_n (lo' := [_, _, _, some (.int _), _]) dX9_checkIn_17 (by decide) rfl ?_
  refine aw_iload_n dX9_checkIn_18 rfl ?_
  refine aw_iconst (v := -1) dX9_checkIn_19 (by decide) ?_
  refine aw_icmp_eq 34 dX9_checkIn_20 (by decide) (fun c20 => ?_) (fun c20 => ?_)
  · refine aw_aload_n dX9_checkIn_34 rfl ?_
    refine aw_get fl_X9_10 dX9_checkIn_35 e_0 (l_0 hn) rfl ?_
    refine aw_get fl_X9_128 dX9_checkIn_38 e_1 (l_1 hn) rfl ?_
    refine aw_get fl_X9_168 dX9_checkIn_41 e_15 (l_15 hn) rfl ?_
    refine aw_iload_n dX9_checkIn_44 rfl ?_
    refine aw_ialdk dX9_checkIn_45 e_20 (l_20 hn) hj (by omega) rfl ?_
    refine aw_if_ne 53 dX9_checkIn_46 (by decide) (fun c46 => ?_) (fun c46 => ?_)
    · refine aw_iconst (v := 0) dX9_checkIn_53 (by decide) ?_
      refine ap_chkS kw_X9_184 ks_X9_184 ko_X9_checkState (c_X9_checkState _) dX9_checkIn_54 rfl rfl (ble' rfl) (by decide) (fun _ => po_e 2 (by rw [cd_checkIn, if_neg b2, if_neg (fun q => q.1 c20), if_neg (fun q => q.1 c20), if_pos (by rw [cl_of hj (by omega)]; exact c46)]) rfl (seq_rf)) (fun q => absurd rfl q)
    · refine aw_iconst (v := 1) dX9_checkIn_49 (by decide) ?_
      refine aw_goto 54 dX9_checkIn_50 (by decide) ?_
      refine ap_chkS kw_X9_184 ks_X9_184 ko_X9_checkState (c_X9_checkState _) dX9_checkIn_54 rfl rfl (ble' rfl) (by decide) (fun q => absurd q (by decide)) (fun _ => ?_)
      refine aw_aload_n dX9_checkIn_57 rfl ?_
      refine aw_get fl_X9_10 dX9_checkIn_58 e_0 (l_0 hn) rfl ?_
      refine aw_get fl_X9_128 dX9_checkIn_61 e_1 (l_1 hn) rfl ?_
      refine aw_get fl_X9_172 dX9_checkIn_64 e_15 (l_15 hn) rfl ?_
      refine aw_iload_n dX9_checkIn_67 rfl ?_
      refine aw_ialdk dX9_checkIn_68 e_17 (l_17 hn) hj (by omega) rfl ?_
      refine aw_aload_n dX9_checkIn_69 rfl ?_
      refine aw_get fl_X9_10 dX9_checkIn_70 e_0 (l_0 hn) rfl ?_
      refine aw_get fl_X9_198 dX9_checkIn_73 e_1 (l_1 hn) rfl ?_
      refine aw_icmp_ne 83 dX9_checkIn_76 (by decide) (fun c76 => ?_) (fun c76 => ?_)
      · refine aw_iconst (v := 0) dX9_checkIn_83 (by decide) ?_
        refine ap_chkS kw_X9_184 ks_X9_184 ko_X9_checkState (c_X9_checkState _) dX9_checkIn_84 rfl rfl (ble' rfl) (by decide) (fun _ => po_e 2 (by rw [cd_checkIn, if_neg b2, if_neg (fun q => q.1 c20), if_neg (fun q => q.1 c20), if_neg (fun q => q (by rw [cl_of hj (by omega)]; exact c46)), if_pos (by rw [cl_of hj (by omega)]; exact c76)]) rfl (seq_rf)) (fun q => absurd rfl q)
      · refine aw_iconst (v := 1) dX9_checkIn_79 (by decide) ?_
        refine aw_goto 84 dX9_checkIn_80 (by decide) ?_
        refine ap_chkS kw_X9_184 ks_X9_184 ko_X9_checkState (c_X9_checkState _) dX9_checkIn_84 rfl rfl (ble' rfl) (by decide) (fun q => absurd q (by decide)) (fun _ => ?_)
        refine aw_iload_n dX9_checkIn_87 rfl ?_
        refine aw_iconst (v := -1) dX9_checkIn_88 (by decide) ?_
        refine aw_icmp_ne 103 dX9_checkIn_89 (by decide) (fun q => absurd c20 q) (fun _ => ?_)
        refine aw_aload_n dX9_checkIn_92 rfl ?_
        refine aw_get fl_X9_10 dX9_checkIn_93 e_0 (l_0 hn) rfl ?_
        refine aw_iload_n dX9_checkIn_96 rfl ?_
        refine ap_callVi kv_X9_191 ko_X1_lowestVacantSite (c_X1_lowestVacantSite hn hb hbl hs hsl _) dX9_checkIn_97 e_1 (l_1 hn) rfl rfl rfl rfl (ble' rfl) (by decide) ?_
        refine aw_goto 104 dX9_checkIn_100 (by decide) ?_
        refine aw_istore (lo' := [_, _, _, _, some (.int _)]) dX9_checkIn_104 (by decide) rfl ?_
        have egv : givM M (M 16 x.toNatClampNeg) s = (fstN (fun k => decide (M 7 k = M 16 j ∧ (¬ M 1 5 < M 8 k ∧ anyB (sbB (M 20) (M 21) (nI k)) nb = false))) ns) := by rw [givM, if_pos c20, cl_of hj (by omega), enb, ens]
        refine aw_iload dX9_checkIn_106 rfl ?_
        refine aw_iconst (v := -1) dX9_checkIn_108 (by decide) ?_
        refine aw_icmp_eq 128 dX9_checkIn_109 (by decide) (fun c109 => ?_) (fun c109 => ?_)
        · refine aw_iconst (v := 0) dX9_checkIn_128 (by decide) ?_
          refine ap_chkS kw_X9_184 ks_X9_184 ko_X9_checkState (c_X9_checkState _) dX9_checkIn_129 rfl rfl (ble' rfl) (by decide) (fun _ => po_e 2 (by rw [cd_checkIn, if_neg b2, if_neg (fun q => q.1 c20), if_neg (fun q => q.1 c20), if_neg (fun q => q (by rw [cl_of hj (by omega)]; exact c46)), if_neg (fun q => q (by rw [cl_of hj (by omega)]; exact c76)), if_pos (Or.inl (by rw [egv]; exact c109))]) rfl (seq_rf)) (fun q => absurd rfl q)
        · obtain ⟨gi, hgl, hgi, -⟩ := (fst_in (fun k => decide (M 7 k = M 16 j ∧ (¬ M 1 5 < M 8 k ∧ anyB (sbB (M 20) (M 21) (nI k)) nb = false))) ns).resolve_left c109
          refine aw_aload_n dX9_checkIn_112 rfl ?_
          refine aw_get fl_X9_10 dX9_checkIn_113 e_0 (l_0 hn) rfl ?_
          refine aw_iload dX9_checkIn_116 rfl ?_
          refine ap_callVi kv_X9_201 ko_X1_isVacant (c_X1_isVacant hn hb hbl hgi (by omega)) dX9_checkIn_118 e_1 (l_1 hn) rfl rfl rfl rfl (ble' rfl) (by decide) ?_
          refine aw_if_eq 128 dX9_checkIn_121 (by decide) (fun c121 => ?_) (fun c121 => ?_)
          · have n121 := bI_z.mp c121
            refine aw_iconst (v := 0) dX9_checkIn_128 (by decide) ?_
            refine ap_chkS kw_X9_184 ks_X9_184 ko_X9_checkState (c_X9_checkState _) dX9_checkIn_129 rfl rfl (ble' rfl) (by decide) (fun _ => po_e 2 (by rw [cd_checkIn, if_neg b2, if_neg (fun q => q.1 c20), if_neg (fun q => q.1 c20), if_neg (fun q => q (by rw [cl_of hj (by omega)]; exact c46)), if_neg (fun q => q (by rw [cl_of hj (by omega)]; exact c76)), if_pos (Or.inr (by rw [egv, cl_of hgi (by omega), enb]; exact n121))]) rfl (seq_rf)) (fun q => absurd rfl q)
          · have n121 := bI_nz.mp c121
            refine aw_iconst (v := 1) dX9_checkIn_124 (by decide) ?_
            refine aw_goto 129 dX9_checkIn_125 (by decide) ?_
            refine ap_chkS kw_X9_184 ks_X9_184 ko_X9_checkState (c_X9_checkState _) dX9_checkIn_129 rfl rfl (ble' rfl) (by decide) (fun q => absurd q (by decide)) (fun _ => ?_)
            refine aw_aload_n dX9_checkIn_132 rfl ?_
            refine aw_get fl_X9_10 dX9_checkIn_133 e_0 (l_0 hn) rfl ?_
            refine aw_get fl_X9_128 dX9_checkIn_136 e_1 (l_1 hn) rfl ?_
            refine aw_get fl_X9_168 dX9_checkIn_139 e_15 (l_15 hn) rfl ?_
            refine aw_iload_n dX9_checkIn_142 rfl ?_
            refine aw_iconst (v := 1) dX9_checkIn_143 (by decide) ?_
            refine aw_iastk dX9_checkIn_144 e_20 (l_20 hn) hj (by omega) rfl (hwa rfl) ?_
            refine aw_aload_n dX9_checkIn_145 rfl ?_
            refine aw_get fl_X9_10 dX9_checkIn_146 e_0 (l_0 hn) rfl ?_
            refine aw_get fl_X9_128 dX9_checkIn_149 e_1 (l_1 hn) rfl ?_
            refine aw_get fl_X9_181 dX9_checkIn_152 e_15 (l_15 hn) rfl ?_
            refine aw_iload_n dX9_checkIn_155 rfl ?_
            refine aw_iload dX9_checkIn_156 rfl ?_
            refine aw_iastk dX9_checkIn_158 e_21 (l_21 hn) hj (by omega) rfl (hwa rfl) ?_
            refine aw_iload dX9_checkIn_159 rfl ?_
            refine aw_iret rfl dX9_checkIn_161 (ble' rfl) (ble' rfl) ?_
            exact po_i (by rw [cd_checkIn, if_neg b2, if_neg (fun q => q.1 c20), if_neg (fun q => q.1 c20), if_neg (fun q => q (by rw [cl_of hj (by omega)]; exact c46)), if_neg (fun q => q (by rw [cl_of hj (by omega)]; exact c76)), if_neg (by rintro (q | q); exact c109 (by rw [← egv]; exact q); exact q (by rw [egv, cl_of hgi (by omega), enb]; exact n121))]) egv.symm (by rw [egv, cl_of hj (by omega)]; exact seq_rf)
  · refine aw_aload_n dX9_checkIn_23 rfl ?_
    refine aw_iload_n dX9_checkIn_24 rfl ?_
    refine ap_chkV kw_X9_108 kv_X9_108 ko_X9_checkSite (c_X9_checkSite hn _) dX9_checkIn_25 e_0 (l_0 hn) rfl rfl rfl rfl (ble' rfl) (by decide) (fun q => po_e 0 (by rw [cd_checkIn, if_neg b2, if_pos ⟨c20, q⟩]) rfl (seq_rf)) (fun b25 => ?_)
    obtain ⟨i, hil, hi⟩ := ck_ix hs (by omega) b25
    refine aw_aload_n dX9_checkIn_28 rfl ?_
    refine aw_iload_n dX9_checkIn_29 rfl ?_
    refine aw_iload_n dX9_checkIn_30 rfl ?_
    refine ap_chkV kw_X9_194 kv_X9_194 ko_X9_checkSameClass (c_X9_checkSameClass hn hi (by omega) _) dX9_checkIn_31 e_0 (l_0 hn) rfl rfl rfl rfl (ble' rfl) (by decide) (fun q => po_e 1 (by rw [cd_checkIn, if_neg b2, if_neg (fun q => b25 q.2), if_pos ⟨c20, by rw [cl_of hj (by omega), cl_of hi (by omega)]; exact q⟩]) rfl (seq_rf)) (fun b31 => ?_)
    refine aw_aload_n dX9_checkIn_34 rfl ?_
    refine aw_get fl_X9_10 dX9_checkIn_35 e_0 (l_0 hn) rfl ?_
    refine aw_get fl_X9_128 dX9_checkIn_38 e_1 (l_1 hn) rfl ?_
    refine aw_get fl_X9_168 dX9_checkIn_41 e_15 (l_15 hn) rfl ?_
    refine aw_iload_n dX9_checkIn_44 rfl ?_
    refine aw_ialdk dX9_checkIn_45 e_20 (l_20 hn) hj (by omega) rfl ?_
    refine aw_if_ne 53 dX9_checkIn_46 (by decide) (fun c46 => ?_) (fun c46 => ?_)
    · refine aw_iconst (v := 0) dX9_checkIn_53 (by decide) ?_
      refine ap_chkS kw_X9_184 ks_X9_184 ko_X9_checkState (c_X9_checkState _) dX9_checkIn_54 rfl rfl (ble' rfl) (by decide) (fun _ => po_e 2 (by rw [cd_checkIn, if_neg b2, if_neg (fun q => b25 q.2), if_neg (fun q => b31 (by rw [cl_of hj (by omega), cl_of hi (by omega)] at q; exact q.2)), if_pos (by rw [cl_of hj (by omega)]; exact c46)]) rfl (seq_rf)) (fun q => absurd rfl q)
    · refine aw_iconst (v := 1) dX9_checkIn_49 (by decide) ?_
      refine aw_goto 54 dX9_checkIn_50 (by decide) ?_
      refine ap_chkS kw_X9_184 ks_X9_184 ko_X9_checkState (c_X9_checkState _) dX9_checkIn_54 rfl rfl (ble' rfl) (by decide) (fun q => absurd q (by decide)) (fun _ => ?_)
      refine aw_aload_n dX9_checkIn_57 rfl ?_
      refine aw_get fl_X9_10 dX9_checkIn_58 e_0 (l_0 hn) rfl ?_
      refine aw_get fl_X9_128 dX9_checkIn_61 e_1 (l_1 hn) rfl ?_
      refine aw_get fl_X9_172 dX9_checkIn_64 e_15 (l_15 hn) rfl ?_
      refine aw_iload_n dX9_checkIn_67 rfl ?_
      refine aw_ialdk dX9_checkIn_68 e_17 (l_17 hn) hj (by omega) rfl ?_
      refine aw_aload_n dX9_checkIn_69 rfl ?_
      refine aw_get fl_X9_10 dX9_checkIn_70 e_0 (l_0 hn) rfl ?_
      refine aw_get fl_X9_198 dX9_checkIn_73 e_1 (l_1 hn) rfl ?_
      refine aw_icmp_ne 83 dX9_checkIn_76 (by decide) (fun c76 => ?_) (fun c76 => ?_)
      · refine aw_iconst (v := 0) dX9_checkIn_83 (by decide) ?_
        refine ap_chkS kw_X9_184 ks_X9_184 ko_X9_checkState (c_X9_checkState _) dX9_checkIn_84 rfl rfl (ble' rfl) (by decide) (fun _ => po_e 2 (by rw [cd_checkIn, if_neg b2, if_neg (fun q => b25 q.2), if_neg (fun q => b31 (by rw [cl_of hj (by omega), cl_of hi (by omega)] at q; exact q.2)), if_neg (fun q => q (by rw [cl_of hj (by omega)]; exact c46)), if_pos (by rw [cl_of hj (by omega)]; exact c76)]) rfl (seq_rf)) (fun q => absurd rfl q)
      · refine aw_iconst (v := 1) dX9_checkIn_79 (by decide) ?_
        refine aw_goto 84 dX9_checkIn_80 (by decide) ?_
        refine ap_chkS kw_X9_184 ks_X9_184 ko_X9_checkState (c_X9_checkState _) dX9_checkIn_84 rfl rfl (ble' rfl) (by decide) (fun q => absurd q (by decide)) (fun _ => ?_)
        refine aw_iload_n dX9_checkIn_87 rfl ?_
        refine aw_iconst (v := -1) dX9_checkIn_88 (by decide) ?_
        refine aw_icmp_ne 103 dX9_checkIn_89 (by decide) (fun _ => ?_) (fun q => absurd q c20)
        refine aw_iload_n dX9_checkIn_103 rfl ?_
        refine aw_istore (lo' := [_, _, _, _, some (.int _)]) dX9_checkIn_104 (by decide) rfl ?_
        have egv : givM M (M 16 x.toNatClampNeg) s = s := by rw [givM, if_neg c20]
        refine aw_iload dX9_checkIn_106 rfl ?_
        refine aw_iconst (v := -1) dX9_checkIn_108 (by decide) ?_
        refine aw_icmp_eq 128 dX9_checkIn_109 (by decide) (fun c109 => ?_) (fun c109 => ?_)
        · refine aw_iconst (v := 0) dX9_checkIn_128 (by decide) ?_
          refine ap_chkS kw_X9_184 ks_X9_184 ko_X9_checkState (c_X9_checkState _) dX9_checkIn_129 rfl rfl (ble' rfl) (by decide) (fun _ => po_e 2 (by rw [cd_checkIn, if_neg b2, if_neg (fun q => b25 q.2), if_neg (fun q => b31 (by rw [cl_of hj (by omega), cl_of hi (by omega)] at q; exact q.2)), if_neg (fun q => q (by rw [cl_of hj (by omega)]; exact c46)), if_neg (fun q => q (by rw [cl_of hj (by omega)]; exact c76)), if_pos (Or.inl (by rw [egv]; exact c109))]) rfl (seq_rf)) (fun q => absurd rfl q)
        · obtain ⟨gi, hgl, hgi⟩ : ∃ g, g < ns ∧ s = nI g := ⟨i, hil, hi⟩
          refine aw_aload_n dX9_checkIn_112 rfl ?_
          refine aw_get fl_X9_10 dX9_checkIn_113 e_0 (l_0 hn) rfl ?_
          refine aw_iload dX9_checkIn_116 rfl ?_
          refine ap_callVi kv_X9_201 ko_X1_isVacant (c_X1_isVacant hn hb hbl hgi (by omega)) dX9_checkIn_118 e_1 (l_1 hn) rfl rfl rfl rfl (ble' rfl) (by decide) ?_
          refine aw_if_eq 128 dX9_checkIn_121 (by decide) (fun c121 => ?_) (fun c121 => ?_)
          · have n121 := bI_z.mp c121
            refine aw_iconst (v := 0) dX9_checkIn_128 (by decide) ?_
            refine ap_chkS kw_X9_184 ks_X9_184 ko_X9_checkState (c_X9_checkState _) dX9_checkIn_129 rfl rfl (ble' rfl) (by decide) (fun _ => po_e 2 (by rw [cd_checkIn, if_neg b2, if_neg (fun q => b25 q.2), if_neg (fun q => b31 (by rw [cl_of hj (by omega), cl_of hi (by omega)] at q; exact q.2)), if_neg (fun q => q (by rw [cl_of hj (by omega)]; exact c46)), if_neg (fun q => q (by rw [cl_of hj (by omega)]; exact c76)), if_pos (Or.inr (by rw [egv, cl_of hgi (by omega), enb]; exact n121))]) rfl (seq_rf)) (fun q => absurd rfl q)
          · have n121 := bI_nz.mp c121
            refine aw_iconst (v := 1) dX9_checkIn_124 (by decide) ?_
            refine aw_goto 129 dX9_checkIn_125 (by decide) ?_
            refine ap_chkS kw_X9_184 ks_X9_184 ko_X9_checkState (c_X9_checkState _) dX9_checkIn_129 rfl rfl (ble' rfl) (by decide) (fun q => absurd q (by decide)) (fun _ => ?_)
            refine aw_aload_n dX9_checkIn_132 rfl ?_
            refine aw_get fl_X9_10 dX9_checkIn_133 e_0 (l_0 hn) rfl ?_
            refine aw_get fl_X9_128 dX9_checkIn_136 e_1 (l_1 hn) rfl ?_
            refine aw_get fl_X9_168 dX9_checkIn_139 e_15 (l_15 hn) rfl ?_
            refine aw_iload_n dX9_checkIn_142 rfl ?_
            refine aw_iconst (v := 1) dX9_checkIn_143 (by decide) ?_
            refine aw_iastk dX9_checkIn_144 e_20 (l_20 hn) hj (by omega) rfl (hwa rfl) ?_
            refine aw_aload_n dX9_checkIn_145 rfl ?_
            refine aw_get fl_X9_10 dX9_checkIn_146 e_0 (l_0 hn) rfl ?_
            refine aw_get fl_X9_128 dX9_checkIn_149 e_1 (l_1 hn) rfl ?_
            refine aw_get fl_X9_181 dX9_checkIn_152 e_15 (l_15 hn) rfl ?_
            refine aw_iload_n dX9_checkIn_155 rfl ?_
            refine aw_iload dX9_checkIn_156 rfl ?_
            refine aw_iastk dX9_checkIn_158 e_21 (l_21 hn) hj (by omega) rfl (hwa rfl) ?_
            refine aw_iload dX9_checkIn_159 rfl ?_
            refine aw_iret rfl dX9_checkIn_161 (ble' rfl) (ble' rfl) ?_
            exact po_i (by rw [cd_checkIn, if_neg b2, if_neg (fun q => b25 q.2), if_neg (fun q => b31 (by rw [cl_of hj (by omega), cl_of hi (by omega)] at q; exact q.2)), if_neg (fun q => q (by rw [cl_of hj (by omega)]; exact c46)), if_neg (fun q => q (by rw [cl_of hj (by omega)]; exact c76)), if_neg (by rintro (q | q); exact c109 (by rw [← egv]; exact q); exact q (by rw [egv, cl_of hgi (by omega), enb]; exact n121))]) egv.symm (by rw [egv, cl_of hj (by omega)]; exact seq_rf)

def exP (M : Nat → Nat → Int32) (k : Nat) (m : Int32) : Int32 := psum (prM M (nzM M) (M 16 k)) (M 18 k).toNatClampNeg m.toNatClampNeg
def exM (M : Nat → Nat → Int32) (k : Nat) (m : Int32) : Nat → Nat → Int32 := updM (updM M 18 (upd (M 18) k (M 18 k + m))) 19 (upd (M 19) k (M 19 k + exP M k m))
def cd_extend (M : Nat → Nat → Int32) (x m : Int32) : Nat := if (x < 0 ∨ M 15 6 ≤ x) then 1 else if (m < 1 ∨ 28 < m) then 2 else if ¬ actP (M 20 x.toNatClampNeg) then 3 else if ¬ obnC M (nsM M) (nbM M) (M 16 x.toNatClampNeg) (M 18 x.toNatClampNeg) m = 0 then 3 else 0
set_option maxRecDepth 100000 in
set_option maxHeartbeats 4000000 in
theorem c_X9_extend {G : AG} {M : Nat → Nat → Int32} {n : Nat} (hn : 72 ≤ n) {nc ns nz nb nr t : Nat} (hI : CI M nc ns nz nb nr t) (hBC : ∀ k, k < nb → ∃ kc, kc < nc ∧ M 16 k = nI kc) (x m : Int32) : AMet tX9_extend yX9_extend [Cond.code yX9_extend cX9_extend 6 (some .int)] [.ref 0, .int x, .int m] (wld G M) n (PO ["java/lang/IndexOutOfBoundsException", "java/lang/IllegalArgumentException", "java/lang/IllegalStateException"] (cd_extend M x m) (some (.int (exP M x.toNatClampNeg m))) G M (exM M x.toNatClampNeg m) n) := by
  obtain ⟨hc, hcl, hs, hsl, hz, hzl, hb, hbl, hr, hrl, ht, htl⟩ := id hI
  have ens : nsM M = ns := cl_of hs (by omega)
  have enb : nbM M = nb := cl_of hb (by omega)
  have enz : nzM M = nz := cl_of hz (by omega)
  have enr : nrM M = nr := cl_of hr (by omega)
  have etm : tM M = t := cl_of ht (by omega)
  refine am_of (lo := [_, _, _, _, _, _]) (by decide) rfl (fun q => by cases q) rfl rfl rfl ?_
  refine aw_aload_n dX9_extend_0 rfl ?_
  refine aw_iload_n dX9_extend_1 rfl ?_
  refine ap_chkV kw_X9_165 kv_X9_165 ko_X9_checkBooking (c_X9_checkBooking hn _) dX9_extend_2 e_0 (l_0 hn) rfl rfl rfl rfl (ble' rfl) (by decide) (fun q => po_e 0 (by rw [cd_extend, if_pos q]) rfl (seq_rf)) (fun b2 => ?_)
  obtain ⟨j, hjl, hj⟩ := ck_ix hb (by omega) b2
  obtain ⟨kc, hkc, hk⟩ := hBC j hjl
  refine aw_iload_n dX9_extend_5 rfl ?_
  refine aw_iconst (v := 1) dX9_extend_6 (by decide) ?_
  refine aw_bipush (v := 28) dX9_extend_7 (by decide) ?_
  refine ap_chkS kw_X9_56 ks_X9_56 ko_X9_checkRange (c_X9_checkRange _ _ _) dX9_extend_9 rfl rfl (ble' rfl) (by decide) (fun q => po_e 1 (by rw [cd_extend, if_neg b2, if_pos q]) rfl (seq_rf)) (fun b9 => ?_)
  obtain ⟨mm, hm1, hmm, hm⟩ := ck_rng (show (1 : Int32) = nI 1 from rfl) (show (28 : Int32) = nI 28 from rfl) (by decide) (by decide) b9
  refine aw_aload_n dX9_extend_12 rfl ?_
  refine aw_get fl_X9_10 dX9_extend_13 e_0 (l_0 hn) rfl ?_
  refine aw_get fl_X9_128 dX9_extend_16 e_1 (l_1 hn) rfl ?_
  refine aw_iload_n dX9_extend_19 rfl ?_
  refine ap_callVi kv_X9_207 ko_X0_isActive (c_X0_isActive hn hj (by omega)) dX9_extend_20 e_15 (l_15 hn) rfl rfl rfl rfl (ble' rfl) (by decide) ?_
  refine ap_chkS kw_X9_184 ks_X9_184 ko_X9_checkState (c_X9_checkState _) dX9_extend_23 rfl rfl (ble' rfl) (by decide) (fun q => po_e 2 (by rw [cd_extend, if_neg b2, if_neg b9, if_pos (by rw [cl_of hj (by omega)]; exact bI_z.mp q)]) rfl (seq_rf)) (fun b23 => ?_)
  refine aw_aload_n dX9_extend_26 rfl ?_
  refine aw_get fl_X9_10 dX9_extend_27 e_0 (l_0 hn) rfl ?_
  refine aw_get fl_X9_128 dX9_extend_30 e_1 (l_1 hn) rfl ?_
  refine aw_get fl_X9_171 dX9_extend_33 e_15 (l_15 hn) rfl ?_
  refine aw_iload_n dX9_extend_36 rfl ?_
  refine aw_ialdk dX9_extend_37 e_16 (l_16 hn) hj (by omega) rfl ?_
  refine aw_istore_n (lo' := [_, _, _, some (.int _), _, _]) dX9_extend_38 (by decide) rfl ?_
  refine aw_aload_n dX9_extend_39 rfl ?_
  refine aw_get fl_X9_10 dX9_extend_40 e_0 (l_0 hn) rfl ?_
  refine aw_get fl_X9_128 dX9_extend_43 e_1 (l_1 hn) rfl ?_
  refine aw_get fl_X9_175 dX9_extend_46 e_15 (l_15 hn) rfl ?_
  refine aw_iload_n dX9_extend_49 rfl ?_
  refine aw_ialdk dX9_extend_50 e_18 (l_18 hn) hj (by omega) rfl ?_
  refine aw_istore (lo' := [_, _, _, _, some (.int _), _]) dX9_extend_51 (by decide) rfl ?_
  refine aw_aload_n dX9_extend_53 rfl ?_
  refine aw_get fl_X9_28 dX9_extend_54 e_0 (l_0 hn) rfl ?_
  refine aw_iload_n dX9_extend_57 rfl ?_
  refine ap_callVv kv_X9_142 ko_X8_turnTo (cj_turn hn _) dX9_extend_58 e_56 (l_56 hn) rfl rfl rfl rfl (ble' rfl) (by decide) ?_
  refine aw_aload_n dX9_extend_61 rfl ?_
  refine aw_get fl_X9_28 dX9_extend_62 e_0 (l_0 hn) rfl ?_
  refine aw_iload dX9_extend_65 rfl ?_
  refine aw_iload_n dX9_extend_67 rfl ?_
  refine ap_callJ kv_X9_210 ko_X8_obstacleToNights (cj_nights hn hI hk hkc (kn0 _ _) _ hm hmm) dX9_extend_68 e_56 (l_56 hn) rfl rfl rfl rfl (ble' rfl) (by decide) (fun r2 hK2 => ?_)
  refine aw_if_ne 78 dX9_extend_71 (by decide) (fun c71 => ?_) (fun c71 => ?_)
  · refine aw_iconst (v := 0) dX9_extend_78 (by decide) ?_
    refine ap_chkS kw_X9_184 ks_X9_184 ko_X9_checkState (c_X9_checkState _) dX9_extend_79 rfl rfl (ble' rfl) (by decide) (fun _ => po_e 2 (by rw [cd_extend, if_neg b2, if_neg b9, if_neg (fun q => q (by rw [cl_of hj (by omega)]; exact bI_nz.mp b23)), if_pos (by rw [cl_of hj (by omega), ens, enb]; exact c71)]) rfl (seq_57 (seq_56 seq_rf))) (fun q => absurd rfl q)
  · refine aw_iconst (v := 1) dX9_extend_74 (by decide) ?_
    refine aw_goto 79 dX9_extend_75 (by decide) ?_
    refine ap_chkS kw_X9_184 ks_X9_184 ko_X9_checkState (c_X9_checkState _) dX9_extend_79 rfl rfl (ble' rfl) (by decide) (fun q => absurd q (by decide)) (fun _ => ?_)
    obtain ⟨dd, htd, hd9, hdd⟩ := lv_nat ht htl (obn0_lv c71)
    have eex : exP M j m = psum (prM M nz (M 16 j)) dd (dd + mm - dd) := by rw [exP, enz, cl_of hdd (by omega), cl_of hm (by omega), show dd + mm - dd = mm by omega]
    refine aw_aload_n dX9_extend_82 rfl ?_
    refine aw_get fl_X9_10 dX9_extend_83 e_0 (l_0 hn) rfl ?_
    refine aw_get fl_X9_96 dX9_extend_86 e_1 (l_1 hn) rfl ?_
    refine aw_iload_n dX9_extend_89 rfl ?_
    refine aw_iload dX9_extend_90 rfl ?_
    refine aw_iload dX9_extend_92 rfl ?_
    refine aw_iload_n dX9_extend_94 rfl ?_
    refine aw_iadd dX9_extend_95 ?_
    refine ap_callVi kv_X9_148 ko_X5_priceOfNights (c_X5_priceOfNights (M := updM (jM M (M 16 j)) 57 r2) hn hz hzl _ (a := dd) (b := dd + mm) (by omega) (by omega) hdd (by rw [hdd, hm]; exact nI_add dd mm)) dX9_extend_96 e_9 (l_9 hn) rfl rfl rfl rfl (ble' rfl) (by decide) ?_
    refine aw_istore (lo' := [_, _, _, _, _, some (.int _)]) dX9_extend_99 (by decide) rfl ?_
    refine aw_aload_n dX9_extend_101 rfl ?_
    refine aw_get fl_X9_10 dX9_extend_102 e_0 (l_0 hn) rfl ?_
    refine aw_get fl_X9_128 dX9_extend_105 e_1 (l_1 hn) rfl ?_
    refine aw_get fl_X9_175 dX9_extend_108 e_15 (l_15 hn) rfl ?_
    refine aw_iload_n dX9_extend_111 rfl ?_
    refine aw_iload dX9_extend_112 rfl ?_
    refine aw_iload_n dX9_extend_114 rfl ?_
    refine aw_iadd dX9_extend_115 ?_
    refine aw_iastk dX9_extend_116 e_18 (l_18 hn) hj (by omega) rfl (hwa rfl) ?_
    refine aw_aload_n dX9_extend_117 rfl ?_
    refine aw_get fl_X9_10 dX9_extend_118 e_0 (l_0 hn) rfl ?_
    refine aw_get fl_X9_128 dX9_extend_121 e_1 (l_1 hn) rfl ?_
    refine aw_get fl_X9_178 dX9_extend_124 e_15 (l_15 hn) rfl ?_
    refine aw_iload_n dX9_extend_127 rfl ?_
    refine aw_dup2 dX9_extend_128 rfl rfl ?_
    refine aw_ialdk dX9_extend_129 e_19 (l_19 hn) hj (by omega) rfl ?_
    refine aw_iload dX9_extend_130 rfl ?_
    refine aw_iadd dX9_extend_132 ?_
    refine aw_iastk dX9_extend_133 e_19 (l_19 hn) hj (by omega) rfl (hwa rfl) ?_
    refine aw_iload dX9_extend_134 rfl ?_
    refine aw_iret rfl dX9_extend_136 (ble' rfl) (ble' rfl) ?_
    exact po_i (by rw [cd_extend, if_neg b2, if_neg b9, if_neg (fun q => q (by rw [cl_of hj (by omega)]; exact bI_nz.mp b23)), if_neg (fun q => q (by rw [cl_of hj (by omega), ens, enb]; exact c71))]) (by rw [cl_of hj (by omega), eex]; rfl) (by rw [cl_of hj (by omega), exM, eex]; exact (fun i hi => by simp only [scr, not_or] at hi; simp [jM, updM, hi] <;> rfl))

def enDn (M : Nat → Nat → Int32) (nb nr : Nat) : Nat → Nat → Nat → Int32
  | 0 => M
  | k + 1 => enD (enDn M nb nr k) nb nr
theorem enDn_15 (M : Nat → Nat → Int32) (nb nr : Nat) : ∀ k, enDn M nb nr k 15 = M 15 ∧ enDn M nb nr k 22 = M 22
  | 0 => ⟨rfl, rfl⟩
  | k + 1 => enDn_15 M nb nr k
theorem enDn_t (M : Nat → Nat → Int32) (nb nr : Nat) {t : Nat} (ht : M 1 5 = nI t) : ∀ k, enDn M nb nr k 1 5 = nI (t + k)
  | 0 => ht
  | k + 1 => by
    show enDn M nb nr k 1 5 + 1 = _
    rw [enDn_t M nb nr ht k, nI_1]; rfl
set_option maxRecDepth 100000 in
set_option maxHeartbeats 4000000 in
theorem lp_X9_endDays {G : AG} {M : Nat → Nat → Int32} {n : Nat} (hn : 72 ≤ n) {nc ns nz nb nr t : Nat} (hI : CI M nc ns nz nb nr t) {d : Int32} {dd : Nat} (hd : d = nI dd) (hdl : dd ≤ 60) {Po : APost} (hR : ∀ v : Int32, v = M 1 5 + d → Po (.inl (some (.int v))) (wld G (enDn M nb nr dd)) n) : ∀ (j i : Nat) (x2 : Int32), dd - i < j → i ≤ dd → x2 = nI i →  AW tX9_endDays (AQm tX9_endDays (Po)) C0 34 [some (.ref 0), some (.int d), some (.int x2)] [] (wld G (enDn M nb nr i)) n 1 6 := by
  intro j
  induction j with
  | zero => intro i x2 h1; omega
  | succ j ih =>
    intro i x2 h1 hi h2
    obtain ⟨hc, hcl, hs, hsl, hz, hzl, hb, hbl, hr, hrl, ht, htl⟩ := id hI
    refine aw_iload_n dX9_endDays_34 rfl ?_
    refine aw_iload_n dX9_endDays_35 rfl ?_
    refine aw_icmp_ge 52 dX9_endDays_36 (by decide) (fun c36 => ?_) (fun c36 => ?_)
    · have n36 := Int32.not_lt.mpr c36
      refine aw_aload_n dX9_endDays_52 rfl ?_
      refine aw_get fl_X9_10 dX9_endDays_53 e_0 (l_0 hn) rfl ?_
      refine aw_get fl_X9_198 dX9_endDays_56 e_1 (l_1 hn) rfl ?_
      refine aw_iret rfl dX9_endDays_59 (ble' rfl) (ble' rfl) ?_
      have hie : i = dd := Nat.le_antisymm hi (le_of_le hd h2 (by omega) (by omega) c36)
      subst hie
      exact hR _ (by rw [enDn_t M nb nr ht, ht, hd, nI_add])
    · have n36 := Int32.not_le.mp c36
      have hlt : i < dd := lt_of_nle hd h2 (by omega) (by omega) c36
      refine aw_aload_n dX9_endDays_39 rfl ?_
      refine aw_get fl_X9_10 dX9_endDays_40 e_0 (l_0 hn) rfl ?_
      refine ap_callVv kv_X9_215 ko_X1_endToday (c_X1_endToday (M := enDn M nb nr i) hn (by rw [(enDn_15 M nb nr i).1]; exact hb) hbl (by rw [(enDn_15 M nb nr i).2]; exact hr) hrl) dX9_endDays_43 e_1 (l_1 hn) rfl rfl rfl rfl (ble' rfl) (by decide) ?_
      refine aw_iinc (lo' := [_, _, some (.int _)]) dX9_endDays_46 rfl (by decide) rfl ?_
      refine aw_goto 34 dX9_endDays_49 (by decide) ?_
      exact ih (i + 1) _ (by omega) (by omega) (by rw [h2]; exact inc1 i)

def cd_endDays (M : Nat → Nat → Int32) (d : Int32) : Nat := if (d < 1 ∨ 60 < d) then 1 else if 999 < M 1 5 + d then 2 else 0
set_option maxRecDepth 100000 in
set_option maxHeartbeats 4000000 in
theorem c_X9_endDays {G : AG} {M : Nat → Nat → Int32} {n : Nat} (hn : 72 ≤ n) {nc ns nz nb nr t : Nat} (hI : CI M nc ns nz nb nr t)  (d : Int32) : AMet tX9_endDays yX9_endDays [Cond.code yX9_endDays cX9_endDays 3 (some .int)] [.ref 0, .int d] (wld G M) n (PO ["java/lang/IllegalArgumentException", "java/lang/IllegalStateException"] (cd_endDays M d) (some (.int (M 1 5 + d))) G M (enDn M (nbM M) (nrM M) d.toNatClampNeg) n) := by
  obtain ⟨hc, hcl, hs, hsl, hz, hzl, hb, hbl, hr, hrl, ht, htl⟩ := id hI
  have ens : nsM M = ns := cl_of hs (by omega)
  have enb : nbM M = nb := cl_of hb (by omega)
  have enz : nzM M = nz := cl_of hz (by omega)
  have enr : nrM M = nr := cl_of hr (by omega)
  have etm : tM M = t := cl_of ht (by omega)
  refine am_of (lo := [_, _, _]) (by decide) rfl (fun q => by cases q) rfl rfl rfl ?_
  refine aw_iload_n dX9_endDays_0 rfl ?_
  refine aw_iconst (v := 1) dX9_endDays_1 (by decide) ?_
  refine aw_bipush (v := 60) dX9_endDays_2 (by decide) ?_
  refine ap_chkS kw_X9_56 ks_X9_56 ko_X9_checkRange (c_X9_checkRange _ _ _) dX9_endDays_4 rfl rfl (ble' rfl) (by decide) (fun q => po_e 0 (by rw [cd_endDays, if_pos q]) rfl (seq_rf)) (fun b4 => ?_)
  obtain ⟨dd, hd1, hdl, hd⟩ := ck_rng (show (1 : Int32) = nI 1 from rfl) (show (60 : Int32) = nI 60 from rfl) (by decide) (by decide) b4
  refine aw_aload_n dX9_endDays_7 rfl ?_
  refine aw_get fl_X9_10 dX9_endDays_8 e_0 (l_0 hn) rfl ?_
  refine aw_get fl_X9_198 dX9_endDays_11 e_1 (l_1 hn) rfl ?_
  refine aw_iload_n dX9_endDays_14 rfl ?_
  refine aw_iadd dX9_endDays_15 ?_
  refine aw_sipush (v := 999) dX9_endDays_16 (by decide) ?_
  refine aw_icmp_le 32 dX9_endDays_19 (by decide) (fun c19 => ?_) (fun c19 => ?_)
  · have n19 := Int32.not_lt.mpr c19
    refine aw_iconst (v := 0) dX9_endDays_32 (by decide) ?_
    refine aw_istore_n (lo' := [_, _, some (.int _)]) dX9_endDays_33 (by decide) rfl ?_
    exact lp_X9_endDays hn hI hd hdl (fun v q => po_i (by rw [cd_endDays, if_neg b4, if_neg n19]) q (by rw [enb, enr, cl_of hd (by omega)]; exact seq_rf)) 61 0 _ (by omega) (by omega) rfl
  · have n19 := Int32.not_le.mp c19
    refine aw_throwS tx_213 dX9_endDays_22 dX9_endDays_25 dX9_endDays_26 dX9_endDays_28 dX9_endDays_31 ⟨by decide, ble' rfl, by decide, by decide⟩ ?_
    exact po_e 1 (by rw [cd_endDays, if_neg b4, if_pos n19]) rfl (seq_rf)
