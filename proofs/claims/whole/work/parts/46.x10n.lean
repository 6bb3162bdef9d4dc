theorem fst_inR {p : Nat → Bool} : ∀ n, fstN p n = -1 ∨ ∃ k, k < n ∧ fstN p n = nI k
  | 0 => Or.inl rfl
  | n + 1 => by
    unfold fstN
    split
    · split
      · exact Or.inr ⟨n, by omega, rfl⟩
      · exact Or.inl rfl
    · rcases fst_inR (p := p) n with h | ⟨k, h1, h2⟩
      · exact Or.inl h
      · exact Or.inr ⟨k, by omega, h2⟩
/-- the site that a check-in means -/
def inR (M : Nat → Nat → Int32) (k : Nat) (s : Int32) : Int32 := if s = -1 then fstN (fun i => decide (V M 7 i = V M 16 k) && vaV M (nbR M) (nI i) i) (nsR M) else s
theorem inR_eq {A B : Nat → Nat → Int32} (h : A 64 = B 64) : inR A = inR B := by funext a b; unfold inR; rw [V_eq h, vaV_eq h, nbR_eq h, nsR_eq h]
def cr_checkIn (M : Nat → Nat → Int32) (b s : Int32) : Nat := if ¬ ((0 ≤ b ∧ b ≤ M 64 4 - 1) ∧ (s = -1 ∨ (0 ≤ s ∧ s ≤ M 64 2 - 1))) then 1 else if ¬ (s = -1 ∨ V M 7 s.toNatClampNeg = V M 16 b.toNatClampNeg) then 2 else if ¬ (V M 20 b.toNatClampNeg = 0 ∧ V M 17 b.toNatClampNeg = M 64 0 ∧ ¬ (inR M b.toNatClampNeg s) = -1 ∧ vaV M (nbR M) (inR M b.toNatClampNeg s) (inR M b.toNatClampNeg s).toNatClampNeg = true) then 3 else 0
set_option maxRecDepth 100000 in
set_option maxHeartbeats 4000000 in
theorem c_X10_checkIn {G : AG} {M : Nat → Nat → Int32} {n : Nat} (hn : 72 ≤ n) {nc ns nz nb nr tt : Nat} (hI : CR M nc ns nz nb nr tt)  (b s : Int32) : AMet tX10_checkIn yX10_checkIn [Cond.code yX10_checkIn cX10_checkIn 5 (some .int)] [.ref 63, .int b, .int s] (wld G M) n (PR (cr_checkIn M b s) (inR M b.toNatClampNeg s) G M (w64 (w64 M (112 + 6 * b.toNatClampNeg + 4) 1) (112 + 6 * b.toNatClampNeg + 5) (inR M b.toNatClampNeg s)) n) := by
  refine am_of (lo := [_, _, _, _, _]) (by decide) rfl (fun q => by cases q) rfl rfl rfl ?_
  refine aw_aload_n dX10_checkIn_0 rfl ?_
  refine aw_iconst (v := 0) dX10_checkIn_1 (by decide) ?_
  refine aw_put fp_X10_36_m dX10_checkIn_2 e_63 (l_63 hn) (ble' rfl) (fun _ => ⟨rfl, rfl⟩) (hwf rfl) ?_
  obtain ⟨M', e64, e63, eRS, e4, eW⟩ : ∃ M', M 64 = M' 64 ∧ (∀ j, j ≠ 4 → M 63 j = M' 63 j) ∧ RS M M' ∧ M' 63 4 = 0 ∧ wld G (updM M 63 (upd (M 63) 4 0)) = wld G M' := ⟨_, rfl, fun j h => (if_neg h).symm, rs_1, rfl, rfl⟩
  refine aw_heq eW ?_
  rw [show cr_checkIn M b s = cr_checkIn M' b s from by unfold cr_checkIn; simp only [e64, V_eq e64, rlV_eq e64, avV_eq e64, frR_eq e64, onV_eq e64, mnV_eq e64, osV_eq e64, vaV_eq e64, inR_eq e64, nsR_eq e64, nbR_eq e64, nzR_eq e64, nrR_eq e64]]
  rw [show (inR M b.toNatClampNeg s) = (inR M' b.toNatClampNeg s) from by simp only [e64, V_eq e64, rlV_eq e64, avV_eq e64, frR_eq e64, onV_eq e64, mnV_eq e64, osV_eq e64, vaV_eq e64, inR_eq e64, nsR_eq e64, nbR_eq e64, nzR_eq e64, nrR_eq e64]]
  have hI' : CR M' nc ns nz nb nr tt := by unfold CR at hI ⊢; rw [← e64]; exact hI
  clear hI eW
  obtain ⟨hc, hcl, hs, hsl, hz, hzl, hb, hbl, hr, hrl, ht, htl⟩ := id hI'
  have ens : nsR M' = ns := cl_of hs (by omega)
  have enb : nbR M' = nb := cl_of hb (by omega)
  have enz : nzR M' = nz := cl_of hz (by omega)
  have enr : nrR M' = nr := cl_of hr (by omega)
  refine aw_aload_n dX10_checkIn_5 rfl ?_
  refine aw_iload_n dX10_checkIn_6 rfl ?_
  refine ap_callVi kv_X10_141 ko_X10_isBooking (c_X10_isBooking hn _) dX10_checkIn_7 e_63 (l_63 hn) rfl rfl rfl rfl (ble' rfl) (by decide) ?_
  refine aw_if_eq 26 dX10_checkIn_10 (by decide) (fun c10 => ?_) (fun c10 => ?_)
  · have n10 := bI_z.mp c10
    refine aw_aload_n dX10_checkIn_26 rfl ?_
    refine aw_iconst (v := 1) dX10_checkIn_27 (by decide) ?_
    refine ap_callVi kv_X10_43 ko_X10_fail (c_X10_fail hn _) dX10_checkIn_28 e_63 (l_63 hn) rfl rfl rfl rfl (ble' rfl) (by decide) ?_
    refine aw_iret rfl dX10_checkIn_31 (ble' rfl) (ble' rfl) ?_
    exact pr_no (k := 0) (by rw [cr_checkIn, if_pos (fun q => n10 q.1)]) (rs_tr eRS rs_1) rfl
  · have n10 := bI_nz.mp c10
    refine aw_iload_n dX10_checkIn_13 rfl ?_
    refine aw_iconst (v := -1) dX10_checkIn_14 (by decide) ?_
    refine aw_icmp_eq 32 dX10_checkIn_15 (by decide) (fun c15 => ?_) (fun c15 => ?_)
    · obtain ⟨kb, hkb, hkB⟩ := cls_of hb (by omega) n10
      refine aw_iload_n dX10_checkIn_32 rfl ?_
      refine aw_iconst (v := -1) dX10_checkIn_33 (by decide) ?_
      refine aw_icmp_eq 58 dX10_checkIn_34 (by decide) (fun _ => ?_) (fun q => absurd c15 q)
      refine aw_iload_n dX10_checkIn_58 rfl ?_
      refine aw_iconst (v := -1) dX10_checkIn_59 (by decide) ?_
      refine aw_icmp_ne 76 dX10_checkIn_60 (by decide) (fun q => absurd c15 q) (fun _ => ?_)
      refine aw_aload_n dX10_checkIn_63 rfl ?_
      refine aw_aload_n dX10_checkIn_64 rfl ?_
      refine aw_iload_n dX10_checkIn_65 rfl ?_
      refine aw_iconst (v := 0) dX10_checkIn_66 (by decide) ?_
      refine ap_callVi kv_X10_102 ko_X10_booking (c_X10_booking_0 hn hkB (by omega)) dX10_checkIn_67 e_63 (l_63 hn) rfl rfl rfl rfl (ble' rfl) (by decide) ?_
      refine ap_callVi kv_X10_153 ko_X10_vacantSiteOf (c_X10_vacantSiteOf hn hs hsl hb hbl _) dX10_checkIn_70 e_63 (l_63 hn) rfl rfl rfl rfl (ble' rfl) (by decide) ?_
      refine aw_goto 77 dX10_checkIn_73 (by decide) ?_
      have eI : inR M' kb s = fstN (fun i => decide (V M' 7 i = V M' 16 kb) && vaV M' nb (nI i) i) ns := by unfold inR; rw [if_pos c15, ens, enb]
      refine aw_istore_n (lo' := [_, _, _, some (.int _), _]) dX10_checkIn_77 (by decide) rfl ?_
      refine aw_aload_n dX10_checkIn_78 rfl ?_
      refine aw_iload_n dX10_checkIn_79 rfl ?_
      refine aw_iconst (v := 4) dX10_checkIn_80 (by decide) ?_
      refine ap_callVi kv_X10_102 ko_X10_booking (c_X10_booking_4 hn hkB (by omega)) dX10_checkIn_81 e_63 (l_63 hn) rfl rfl rfl rfl (ble' rfl) (by decide) ?_
      refine aw_if_ne 106 dX10_checkIn_84 (by decide) (fun c84 => ?_) (fun c84 => ?_)
      · refine aw_iconst (v := 0) dX10_checkIn_106 (by decide) ?_
        refine aw_istore (lo' := [_, _, _, _, some (.int _)]) dX10_checkIn_107 (by decide) rfl ?_
        refine aw_iload dX10_checkIn_109 rfl ?_
        refine aw_if_eq 127 dX10_checkIn_111 (by decide) (fun _ => ?_) (fun q => absurd q (by decide))
        refine aw_aload_n dX10_checkIn_127 rfl ?_
        refine aw_iconst (v := 3) dX10_checkIn_128 (by decide) ?_
        refine ap_callVi kv_X10_43 ko_X10_fail (c_X10_fail hn _) dX10_checkIn_129 e_63 (l_63 hn) rfl rfl rfl rfl (ble' rfl) (by decide) ?_
        refine aw_iret rfl dX10_checkIn_132 (ble' rfl) (ble' rfl) ?_
        exact pr_no (k := 2) (by rw [cr_checkIn, if_neg (fun q => q ⟨n10, Or.inl c15⟩), if_neg (fun q => q (Or.inl c15)), if_pos (fun q => c84 (by rw [cl_of hkB (show kb < 2 ^ 31 by omega)] at q; exact q.1))]) (rs_tr eRS rs_1) rfl
      · refine aw_aload_n dX10_checkIn_87 rfl ?_
        refine aw_iload_n dX10_checkIn_88 rfl ?_
        refine aw_iconst (v := 1) dX10_checkIn_89 (by decide) ?_
        refine ap_callVi kv_X10_102 ko_X10_booking (c_X10_booking_1 hn hkB (by omega)) dX10_checkIn_90 e_63 (l_63 hn) rfl rfl rfl rfl (ble' rfl) (by decide) ?_
        refine aw_aload_n dX10_checkIn_93 rfl ?_
        refine aw_get fl_X10_7 dX10_checkIn_94 e_63 (l_63 hn) rfl ?_
        refine aw_iconst (v := 0) dX10_checkIn_97 (by decide) ?_
        refine aw_ialdk dX10_checkIn_98 e_64 (l_64 hn) (show (0 : Int32) = nI 0 from rfl) (by decide) rfl ?_
        refine aw_icmp_ne 106 dX10_checkIn_99 (by decide) (fun c99 => ?_) (fun c99 => ?_)
        · refine aw_iconst (v := 0) dX10_checkIn_106 (by decide) ?_
          refine aw_istore (lo' := [_, _, _, _, some (.int _)]) dX10_checkIn_107 (by decide) rfl ?_
          refine aw_iload dX10_checkIn_109 rfl ?_
          refine aw_if_eq 127 dX10_checkIn_111 (by decide) (fun _ => ?_) (fun q => absurd q (by decide))
          refine aw_aload_n dX10_checkIn_127 rfl ?_
          refine aw_iconst (v := 3) dX10_checkIn_128 (by decide) ?_
          refine ap_callVi kv_X10_43 ko_X10_fail (c_X10_fail hn _) dX10_checkIn_129 e_63 (l_63 hn) rfl rfl rfl rfl (ble' rfl) (by decide) ?_
          refine aw_iret rfl dX10_checkIn_132 (ble' rfl) (ble' rfl) ?_
          exact pr_no (k := 2) (by rw [cr_checkIn, if_neg (fun q => q ⟨n10, Or.inl c15⟩), if_neg (fun q => q (Or.inl c15)), if_pos (fun q => c99 (by rw [cl_of hkB (show kb < 2 ^ 31 by omega)] at q; exact q.2.1))]) (rs_tr eRS rs_1) rfl
        · refine aw_iconst (v := 1) dX10_checkIn_102 (by decide) ?_
          refine aw_goto 107 dX10_checkIn_103 (by decide) ?_
          refine aw_istore (lo' := [_, _, _, _, some (.int _)]) dX10_checkIn_107 (by decide) rfl ?_
          refine aw_iload dX10_checkIn_109 rfl ?_
          refine aw_if_eq 127 dX10_checkIn_111 (by decide) (fun q => absurd q (by decide)) (fun _ => ?_)
          refine aw_iload_n dX10_checkIn_114 rfl ?_
          refine aw_iconst (v := -1) dX10_checkIn_115 (by decide) ?_
          refine aw_icmp_eq 127 dX10_checkIn_116 (by decide) (fun c116 => ?_) (fun c116 => ?_)
          · refine aw_aload_n dX10_checkIn_127 rfl ?_
            refine aw_iconst (v := 3) dX10_checkIn_128 (by decide) ?_
            refine ap_callVi kv_X10_43 ko_X10_fail (c_X10_fail hn _) dX10_checkIn_129 e_63 (l_63 hn) rfl rfl rfl rfl (ble' rfl) (by decide) ?_
            refine aw_iret rfl dX10_checkIn_132 (ble' rfl) (ble' rfl) ?_
            exact pr_no (k := 2) (by rw [cr_checkIn, if_neg (fun q => q ⟨n10, Or.inl c15⟩), if_neg (fun q => q (Or.inl c15)), if_pos (fun q => q.2.2.1 (by rw [cl_of hkB (show kb < 2 ^ 31 by omega), eI]; exact c116))]) (rs_tr eRS rs_1) rfl
          · obtain ⟨ki, hki, hkI⟩ : ∃ j, j < 16 ∧ fstN (fun i => decide (V M' 7 i = V M' 16 kb) && vaV M' nb (nI i) i) ns = nI j := (fst_inR ns).elim (fun q => absurd q c116) (fun ⟨k, h1, h2⟩ => ⟨k, by omega, h2⟩)
            refine aw_aload_n dX10_checkIn_119 rfl ?_
            refine aw_iload_n dX10_checkIn_120 rfl ?_
            refine ap_callVi kv_X10_150 ko_X10_isVacant (c_X10_isVacant hn hb hbl hkI (by omega)) dX10_checkIn_121 e_63 (l_63 hn) rfl rfl rfl rfl (ble' rfl) (by decide) ?_
            refine aw_if_ne 133 dX10_checkIn_124 (by decide) (fun c124 => ?_) (fun c124 => ?_)
            · have n124 := bI_nz.mp c124
              refine aw_aload_n dX10_checkIn_133 rfl ?_
              refine aw_iload_n dX10_checkIn_134 rfl ?_
              refine aw_iconst (v := 4) dX10_checkIn_135 (by decide) ?_
              refine aw_iconst (v := 1) dX10_checkIn_136 (by decide) ?_
              refine ap_callVv kv_X10_134 ko_X10_setBooking (c_X10_setBooking hn hkB (by omega) (show (4 : Int32) = nI 4 from rfl) (by decide) _) dX10_checkIn_137 e_63 (l_63 hn) rfl rfl rfl rfl (ble' rfl) (by decide) ?_
              refine aw_aload_n dX10_checkIn_140 rfl ?_
              refine aw_iload_n dX10_checkIn_141 rfl ?_
              refine aw_iconst (v := 5) dX10_checkIn_142 (by decide) ?_
              refine aw_iload_n dX10_checkIn_143 rfl ?_
              refine ap_callVv kv_X10_134 ko_X10_setBooking (c_X10_setBooking hn hkB (by omega) (show (5 : Int32) = nI 5 from rfl) (by decide) _) dX10_checkIn_144 e_63 (l_63 hn) rfl rfl rfl rfl (ble' rfl) (by decide) ?_
              refine aw_iload_n dX10_checkIn_147 rfl ?_
              refine aw_iret rfl dX10_checkIn_148 (ble' rfl) (ble' rfl) ?_
              exact pr_ok (by rw [cr_checkIn, if_neg (fun q => q ⟨n10, Or.inl c15⟩), if_neg (fun q => q (Or.inl c15)), if_neg (fun q => q (by rw [cl_of hkB (show kb < 2 ^ 31 by omega), eI, enb, cl_of hkI (show ki < 2 ^ 31 by omega)]; exact ⟨c84, c99, c116, n124⟩))]) (by rw [cl_of hkB (show kb < 2 ^ 31 by omega), eI]) (by simp only [inR_eq e64, cl_of hkB (show kb < 2 ^ 31 by omega), eI]; exact rs_w (rs_w eRS)) e4
            · have n124 := bI_z.mp c124
              refine aw_aload_n dX10_checkIn_127 rfl ?_
              refine aw_iconst (v := 3) dX10_checkIn_128 (by decide) ?_
              refine ap_callVi kv_X10_43 ko_X10_fail (c_X10_fail hn _) dX10_checkIn_129 e_63 (l_63 hn) rfl rfl rfl rfl (ble' rfl) (by decide) ?_
              refine aw_iret rfl dX10_checkIn_132 (ble' rfl) (ble' rfl) ?_
              exact pr_no (k := 2) (by rw [cr_checkIn, if_neg (fun q => q ⟨n10, Or.inl c15⟩), if_neg (fun q => q (Or.inl c15)), if_pos (fun q => n124 (by rw [cl_of hkB (show kb < 2 ^ 31 by omega), eI, enb, cl_of hkI (show ki < 2 ^ 31 by omega)] at q; exact q.2.2.2))]) (rs_tr eRS rs_1) rfl
    · refine aw_aload_n dX10_checkIn_18 rfl ?_
      refine aw_iload_n dX10_checkIn_19 rfl ?_
      refine ap_callVi kv_X10_65 ko_X10_isSite (c_X10_isSite hn _) dX10_checkIn_20 e_63 (l_63 hn) rfl rfl rfl rfl (ble' rfl) (by decide) ?_
      refine aw_if_ne 32 dX10_checkIn_23 (by decide) (fun c23 => ?_) (fun c23 => ?_)
      · have n23 := bI_nz.mp c23
        obtain ⟨kb, hkb, hkB⟩ := cls_of hb (by omega) n10
        obtain ⟨ks, hks, hkS⟩ := cls_of hs (by omega) n23
        refine aw_iload_n dX10_checkIn_32 rfl ?_
        refine aw_iconst (v := -1) dX10_checkIn_33 (by decide) ?_
        refine aw_icmp_eq 58 dX10_checkIn_34 (by decide) (fun q => absurd q c15) (fun _ => ?_)
        refine aw_aload_n dX10_checkIn_37 rfl ?_
        refine aw_iload_n dX10_checkIn_38 rfl ?_
        refine aw_iconst (v := 0) dX10_checkIn_39 (by decide) ?_
        refine ap_callVi kv_X10_68 ko_X10_site (c_X10_site_0 hn hkS (by omega)) dX10_checkIn_40 e_63 (l_63 hn) rfl rfl rfl rfl (ble' rfl) (by decide) ?_
        refine aw_aload_n dX10_checkIn_43 rfl ?_
        refine aw_iload_n dX10_checkIn_44 rfl ?_
        refine aw_iconst (v := 0) dX10_checkIn_45 (by decide) ?_
        refine ap_callVi kv_X10_102 ko_X10_booking (c_X10_booking_0 hn hkB (by omega)) dX10_checkIn_46 e_63 (l_63 hn) rfl rfl rfl rfl (ble' rfl) (by decide) ?_
        refine aw_icmp_eq 58 dX10_checkIn_49 (by decide) (fun c49 => ?_) (fun c49 => ?_)
        · refine aw_iload_n dX10_checkIn_58 rfl ?_
          refine aw_iconst (v := -1) dX10_checkIn_59 (by decide) ?_
          refine aw_icmp_ne 76 dX10_checkIn_60 (by decide) (fun _ => ?_) (fun q => absurd q c15)
          refine aw_iload_n dX10_checkIn_76 rfl ?_
          have eI : inR M' kb s = s := by unfold inR; rw [if_neg c15]
          refine aw_istore_n (lo' := [_, _, _, some (.int _), _]) dX10_checkIn_77 (by decide) rfl ?_
          refine aw_aload_n dX10_checkIn_78 rfl ?_
          refine aw_iload_n dX10_checkIn_79 rfl ?_
          refine aw_iconst (v := 4) dX10_checkIn_80 (by decide) ?_
          refine ap_callVi kv_X10_102 ko_X10_booking (c_X10_booking_4 hn hkB (by omega)) dX10_checkIn_81 e_63 (l_63 hn) rfl rfl rfl rfl (ble' rfl) (by decide) ?_
          refine aw_if_ne 106 dX10_checkIn_84 (by decide) (fun c84 => ?_) (fun c84 => ?_)
          · refine aw_iconst (v := 0) dX10_checkIn_106 (by decide) ?_
            refine aw_istore (lo' := [_, _, _, _, some (.int _)]) dX10_checkIn_107 (by decide) rfl ?_
            refine aw_iload dX10_checkIn_109 rfl ?_
            refine aw_if_eq 127 dX10_checkIn_111 (by decide) (fun _ => ?_) (fun q => absurd q (by decide))
            refine aw_aload_n dX10_checkIn_127 rfl ?_
            refine aw_iconst (v := 3) dX10_checkIn_128 (by decide) ?_
            refine ap_callVi kv_X10_43 ko_X10_fail (c_X10_fail hn _) dX10_checkIn_129 e_63 (l_63 hn) rfl rfl rfl rfl (ble' rfl) (by decide) ?_
            refine aw_iret rfl dX10_checkIn_132 (ble' rfl) (ble' rfl) ?_
            exact pr_no (k := 2) (by rw [cr_checkIn, if_neg (fun q => q ⟨n10, Or.inr n23⟩), if_neg (fun q => q (Or.inr (by rw [cl_of hkS (show ks < 2 ^ 31 by omega), cl_of hkB (show kb < 2 ^ 31 by omega)]; exact c49))), if_pos (fun q => c84 (by rw [cl_of hkB (show kb < 2 ^ 31 by omega)] at q; exact q.1))]) (rs_tr eRS rs_1) rfl
          · refine aw_aload_n dX10_checkIn_87 rfl ?_
            refine aw_iload_n dX10_checkIn_88 rfl ?_
            refine aw_iconst (v := 1) dX10_checkIn_89 (by decide) ?_
            refine ap_callVi kv_X10_102 ko_X10_booking (c_X10_booking_1 hn hkB (by omega)) dX10_checkIn_90 e_63 (l_63 hn) rfl rfl rfl rfl (ble' rfl) (by decide) ?_
            refine aw_aload_n dX10_checkIn_93 rfl ?_
            refine aw_get fl_X10_7 dX10_checkIn_94 e_63 (l_63 hn) rfl ?_
            refine aw_iconst (v := 0) dX10_checkIn_97 (by decide) ?_
            refine aw_ialdk dX10_checkIn_98 e_64 (l_64 hn) (show (0 : Int32) = nI 0 from rfl) (by decide) rfl ?_
            refine aw_icmp_ne 106 dX10_checkIn_99 (by decide) (fun c99 => ?_) (fun c99 => ?_)
            · refine aw_iconst (v := 0) dX10_checkIn_106 (by decide) ?_
              refine aw_istore (lo' := [_, _, _, _, some (.int _)]) dX10_checkIn_107 (by decide) rfl ?_
              refine aw_iload dX10_checkIn_109 rfl ?_
              refine aw_if_eq 127 dX10_checkIn_111 (by decide) (fun _ => ?_) (fun q => absurd q (by decide))
              refine aw_aload_n dX10_checkIn_127 rfl ?_
              refine aw_iconst (v := 3) dX10_checkIn_128 (by decide) ?_
              refine ap_callVi kv_X10_43 ko_X10_fail (c_X10_fail hn _) dX10_checkIn_129 e_63 (l_63 hn) rfl rfl rfl rfl (ble' rfl) (by decide) ?_
              refine aw_iret rfl dX10_checkIn_132 (ble' rfl) (ble' rfl) ?_
              exact pr_no (k := 2) (by rw [cr_checkIn, if_neg (fun q => q ⟨n10, Or.inr n23⟩), if_neg (fun q => q (Or.inr (by rw [cl_of hkS (show ks < 2 ^ 31 by omega), cl_of hkB (show kb < 2 ^ 31 by omega)]; exact c49))), if_pos (fun q => c99 (by rw [cl_of hkB (show kb < 2 ^ 31 by omega)] at q; exact q.2.1))]) (rs_tr eRS rs_1) rfl
            · refine aw_iconst (v := 1) dX10_checkIn_102 (by decide) ?_
              refine aw_goto 107 dX10_checkIn_103 (by decide) ?_
              refine aw_istore (lo' := [_, _, _, _, some (.int _)]) dX10_checkIn_107 (by decide) rfl ?_
              refine aw_iload dX10_checkIn_109 rfl ?_
              refine aw_if_eq 127 dX10_checkIn_111 (by decide) (fun q => absurd q (by decide)) (fun _ => ?_)
              refine aw_iload_n dX10_checkIn_114 rfl ?_
              refine aw_iconst (v := -1) dX10_checkIn_115 (by decide) ?_
              refine aw_icmp_eq 127 dX10_checkIn_116 (by decide) (fun c116 => ?_) (fun c116 => ?_)
              · refine aw_aload_n dX10_checkIn_127 rfl ?_
                refine aw_iconst (v := 3) dX10_checkIn_128 (by decide) ?_
                refine ap_callVi kv_X10_43 ko_X10_fail (c_X10_fail hn _) dX10_checkIn_129 e_63 (l_63 hn) rfl rfl rfl rfl (ble' rfl) (by decide) ?_
                refine aw_iret rfl dX10_checkIn_132 (ble' rfl) (ble' rfl) ?_
                exact pr_no (k := 2) (by rw [cr_checkIn, if_neg (fun q => q ⟨n10, Or.inr n23⟩), if_neg (fun q => q (Or.inr (by rw [cl_of hkS (show ks < 2 ^ 31 by omega), cl_of hkB (show kb < 2 ^ 31 by omega)]; exact c49))), if_pos (fun q => q.2.2.1 (by rw [cl_of hkB (show kb < 2 ^ 31 by omega), eI]; exact c116))]) (rs_tr eRS rs_1) rfl
              · obtain ⟨ki, hki, hkI⟩ : ∃ j, j < 16 ∧ s = nI j := ⟨ks, by omega, hkS⟩
                refine aw_aload_n dX10_checkIn_119 rfl ?_
                refine aw_iload_n dX10_checkIn_120 rfl ?_
                refine ap_callVi kv_X10_150 ko_X10_isVacant (c_X10_isVacant hn hb hbl hkI (by omega)) dX10_checkIn_121 e_63 (l_63 hn) rfl rfl rfl rfl (ble' rfl) (by decide) ?_
                refine aw_if_ne 133 dX10_checkIn_124 (by decide) (fun c124 => ?_) (fun c124 => ?_)
                · have n124 := bI_nz.mp c124
                  refine aw_aload_n dX10_checkIn_133 rfl ?_
                  refine aw_iload_n dX10_checkIn_134 rfl ?_
                  refine aw_iconst (v := 4) dX10_checkIn_135 (by decide) ?_
                  refine aw_iconst (v := 1) dX10_checkIn_136 (by decide) ?_
                  refine ap_callVv kv_X10_134 ko_X10_setBooking (c_X10_setBooking hn hkB (by omega) (show (4 : Int32) = nI 4 from rfl) (by decide) _) dX10_checkIn_137 e_63 (l_63 hn) rfl rfl rfl rfl (ble' rfl) (by decide) ?_
                  refine aw_aload_n dX10_checkIn_140 rfl ?_
                  refine aw_iload_n dX10_checkIn_141 rfl ?_
                  refine aw_iconst (v := 5) dX10_checkIn_142 (by decide) ?_
                  refine aw_iload_n dX10_checkIn_143 rfl ?_
                  refine ap_callVv kv_X10_134 ko_X10_setBooking (c_X10_setBooking hn hkB (by omega) (show (5 : Int32) = nI 5 from rfl) (by decide) _) dX10_checkIn_144 e_63 (l_63 hn) rfl rfl rfl rfl (ble' rfl) (by decide) ?_
                  refine aw_iload_n dX10_checkIn_147 rfl ?_
                  refine aw_iret rfl dX10_checkIn_148 (ble' rfl) (ble' rfl) ?_
                  exact pr_ok (by rw [cr_checkIn, if_neg (fun q => q ⟨n10, Or.inr n23⟩), if_neg (fun q => q (Or.inr (by rw [cl_of hkS (show ks < 2 ^ 31 by omega), cl_of hkB (show kb < 2 ^ 31 by omega)]; exact c49))), if_neg (fun q => q (by rw [cl_of hkB (show kb < 2 ^ 31 by omega), eI, enb, cl_of hkI (show ki < 2 ^ 31 by omega)]; exact ⟨c84, c99, c116, n124⟩))]) (by rw [cl_of hkB (show kb < 2 ^ 31 by omega), eI]) (by simp only [inR_eq e64, cl_of hkB (show kb < 2 ^ 31 by omega), eI]; exact rs_w (rs_w eRS)) e4
                · have n124 := bI_z.mp c124
                  refine aw_aload_n dX10_checkIn_127 rfl ?_
                  refine aw_iconst (v := 3) dX10_checkIn_128 (by decide) ?_
                  refine ap_callVi kv_X10_43 ko_X10_fail (c_X10_fail hn _) dX10_checkIn_129 e_63 (l_63 hn) rfl rfl rfl rfl (ble' rfl) (by decide) ?_
                  refine aw_iret rfl dX10_checkIn_132 (ble' rfl) (ble' rfl) ?_
                  exact pr_no (k := 2) (by rw [cr_checkIn, if_neg (fun q => q ⟨n10, Or.inr n23⟩), if_neg (fun q => q (Or.inr (by rw [cl_of hkS (show ks < 2 ^ 31 by omega), cl_of hkB (show kb < 2 ^ 31 by omega)]; exact c49))), if_pos (fun q => n124 (by rw [cl_of hkB (show kb < 2 ^ 31 by omega), eI, enb, cl_of hkI (show ki < 2 ^ 31 by omega)] at q; exact q.2.2.2))]) (rs_tr eRS rs_1) rfl
        · refine aw_aload_n dX10_checkIn_52 rfl ?_
          refine aw_iconst (v := 2) dX10_checkIn_53 (by decide) ?_
          refine ap_callVi kv_X10_43 ko_X10_fail (c_X10_fail hn _) dX10_checkIn_54 e_63 (l_63 hn) rfl rfl rfl rfl (ble' rfl) (by decide) ?_
          refine aw_iret rfl dX10_checkIn_57 (ble' rfl) (ble' rfl) ?_
          exact pr_no (k := 1) (by rw [cr_checkIn, if_neg (fun q => q ⟨n10, Or.inr n23⟩), if_pos (fun q => q.elim c15 (fun r => c49 (by rw [cl_of hkS (show ks < 2 ^ 31 by omega), cl_of hkB (show kb < 2 ^ 31 by omega)] at r; exact r)))]) (rs_tr eRS rs_1) rfl
      · have n23 := bI_z.mp c23
        refine aw_aload_n dX10_checkIn_26 rfl ?_
        refine aw_iconst (v := 1) dX10_checkIn_27 (by decide) ?_
        refine ap_callVi kv_X10_43 ko_X10_fail (c_X10_fail hn _) dX10_checkIn_28 e_63 (l_63 hn) rfl rfl rfl rfl (ble' rfl) (by decide) ?_
        refine aw_iret rfl dX10_checkIn_31 (ble' rfl) (ble' rfl) ?_
        exact pr_no (k := 0) (by rw [cr_checkIn, if_pos (fun q => q.2.elim c15 n23)]) (rs_tr eRS rs_1) rfl
