set_option maxRecDepth 100000 in
set_option maxHeartbeats 4000000 in
theorem c_X9_classCount {G : AG} {M : Nat → Nat → Int32} {n : Nat} (hn : 72 ≤ n) : AMet tX9_classCount yX9_classCount [Cond.code yX9_classCount cX9_classCount 1 (some .int)] [.ref 0] (wld G M) n (PD (.inl (some (.int (M 2 3)))) (wld G M) n) := by
  refine am_of (lo := [_]) (by decide) rfl (fun q => by cases q) rfl rfl rfl ?_
  refine aw_aload_n dX9_classCount_0 rfl ?_
  refine aw_get fl_X9_10 dX9_classCount_1 e_0 (l_0 hn) rfl ?_
  refine aw_get fl_X9_60 dX9_classCount_4 e_1 (l_1 hn) rfl ?_
  refine aw_get fl_X9_64 dX9_classCount_7 e_2 (l_2 hn) rfl ?_
  refine aw_iret rfl dX9_classCount_10 (ble' rfl) (ble' rfl) ?_
  exact pd_i rfl

set_option maxRecDepth 100000 in
set_option maxHeartbeats 4000000 in
theorem c_X9_siteCount {G : AG} {M : Nat → Nat → Int32} {n : Nat} (hn : 72 ≤ n) : AMet tX9_siteCount yX9_siteCount [Cond.code yX9_siteCount cX9_siteCount 1 (some .int)] [.ref 0] (wld G M) n (PD (.inl (some (.int (M 6 2)))) (wld G M) n) := by
  refine am_of (lo := [_]) (by decide) rfl (fun q => by cases q) rfl rfl rfl ?_
  refine aw_aload_n dX9_siteCount_0 rfl ?_
  refine aw_get fl_X9_10 dX9_siteCount_1 e_0 (l_0 hn) rfl ?_
  refine aw_get fl_X9_84 dX9_siteCount_4 e_1 (l_1 hn) rfl ?_
  refine aw_get fl_X9_88 dX9_siteCount_7 e_6 (l_6 hn) rfl ?_
  refine aw_iret rfl dX9_siteCount_10 (ble' rfl) (ble' rfl) ?_
  exact pd_i rfl

set_option maxRecDepth 100000 in
set_option maxHeartbeats 4000000 in
theorem c_X9_bookingCount {G : AG} {M : Nat → Nat → Int32} {n : Nat} (hn : 72 ≤ n) : AMet tX9_bookingCount yX9_bookingCount [Cond.code yX9_bookingCount cX9_bookingCount 1 (some .int)] [.ref 0] (wld G M) n (PD (.inl (some (.int (M 15 6)))) (wld G M) n) := by
  refine am_of (lo := [_]) (by decide) rfl (fun q => by cases q) rfl rfl rfl ?_
  refine aw_aload_n dX9_bookingCount_0 rfl ?_
  refine aw_get fl_X9_10 dX9_bookingCount_1 e_0 (l_0 hn) rfl ?_
  refine aw_get fl_X9_128 dX9_bookingCount_4 e_1 (l_1 hn) rfl ?_
  refine aw_get fl_X9_164 dX9_bookingCount_7 e_15 (l_15 hn) rfl ?_
  refine aw_iret rfl dX9_bookingCount_10 (ble' rfl) (ble' rfl) ?_
  exact pd_i rfl

set_option maxRecDepth 100000 in
set_option maxHeartbeats 4000000 in
theorem c_X9_today {G : AG} {M : Nat → Nat → Int32} {n : Nat} (hn : 72 ≤ n) : AMet tX9_today yX9_today [Cond.code yX9_today cX9_today 1 (some .int)] [.ref 0] (wld G M) n (PD (.inl (some (.int (M 1 5)))) (wld G M) n) := by
  refine am_of (lo := [_]) (by decide) rfl (fun q => by cases q) rfl rfl rfl ?_
  refine aw_aload_n dX9_today_0 rfl ?_
  refine aw_get fl_X9_10 dX9_today_1 e_0 (l_0 hn) rfl ?_
  refine aw_get fl_X9_198 dX9_today_4 e_1 (l_1 hn) rfl ?_
  refine aw_iret rfl dX9_today_7 (ble' rfl) (ble' rfl) ?_
  exact pd_i rfl

set_option maxRecDepth 100000 in
set_option maxHeartbeats 4000000 in
theorem c_X9_errorCode {G : AG} {M : Nat → Nat → Int32} {n : Nat} (hn : 72 ≤ n) : AMet tX9_errorCode yX9_errorCode [Cond.code yX9_errorCode cX9_errorCode 1 (some .int)] [.ref 0] (wld G M) n (PD (.inl (some (.int (M 62 7)))) (wld G M) n) := by
  refine am_of (lo := [_]) (by decide) rfl (fun q => by cases q) rfl rfl rfl ?_
  refine aw_aload_n dX9_errorCode_0 rfl ?_
  refine aw_get fl_X9_48 dX9_errorCode_1 e_0 (l_0 hn) rfl ?_
  refine aw_get fl_X9_290 dX9_errorCode_4 e_62 (l_62 hn) rfl ?_
  refine aw_iret rfl dX9_errorCode_7 (ble' rfl) (ble' rfl) ?_
  exact pd_i rfl

set_option maxRecDepth 100000 in
set_option maxHeartbeats 4000000 in
theorem c_X9_errorPosition {G : AG} {M : Nat → Nat → Int32} {n : Nat} (hn : 72 ≤ n) : AMet tX9_errorPosition yX9_errorPosition [Cond.code yX9_errorPosition cX9_errorPosition 1 (some .int)] [.ref 0] (wld G M) n (PD (.inl (some (.int (M 62 8)))) (wld G M) n) := by
  refine am_of (lo := [_]) (by decide) rfl (fun q => by cases q) rfl rfl rfl ?_
  refine aw_aload_n dX9_errorPosition_0 rfl ?_
  refine aw_get fl_X9_48 dX9_errorPosition_1 e_0 (l_0 hn) rfl ?_
  refine aw_get fl_X9_293 dX9_errorPosition_4 e_62 (l_62 hn) rfl ?_
  refine aw_iret rfl dX9_errorPosition_7 (ble' rfl) (ble' rfl) ?_
  exact pd_i rfl

def cd_addClass (M : Nat → Nat → Int32) (w s q : Int32) : Nat := if (w < 1 ∨ 200 < w) then 1 else if (s < 0 ∨ w < s) then 1 else if (q < 0 ∨ 16 < q) then 1 else if 4 ≤ M 2 3 then 2 else 0
set_option maxRecDepth 100000 in
set_option maxHeartbeats 4000000 in
theorem c_X9_addClass {G : AG} {M : Nat → Nat → Int32} {n : Nat} (hn : 72 ≤ n) {nc ns nz nb nr t : Nat} (hI : CI M nc ns nz nb nr t)  (w s q : Int32) : AMet tX9_addClass yX9_addClass [Cond.code yX9_addClass cX9_addClass 4 (some .int)] [.ref 0, .int w, .int s, .int q] (wld G M) n (PO ["java/lang/IllegalArgumentException", "java/lang/IllegalStateException"] (cd_addClass M w s q) (some (.int (nI nc))) G M (addC M nc w s q) n) := by
  obtain ⟨hc, hcl, hs, hsl, hz, hzl, hb, hbl, hr, hrl, ht, htl⟩ := id hI
  refine am_of (lo := [_, _, _, _]) (by decide) rfl (fun q => by cases q) rfl rfl rfl ?_
  refine aw_iload_n dX9_addClass_0 rfl ?_
  refine aw_iconst (v := 1) dX9_addClass_1 (by decide) ?_
  refine aw_sipush (v := 200) dX9_addClass_2 (by decide) ?_
  refine ap_chkS kw_X9_56 ks_X9_56 ko_X9_checkRange (c_X9_checkRange _ _ _) dX9_addClass_5 rfl rfl (ble' rfl) (by decide) (fun q => po_e 0 (by rw [cd_addClass, if_pos q]) rfl (seq_rf)) (fun b5 => ?_)
  refine aw_iload_n dX9_addClass_8 rfl ?_
  refine aw_iconst (v := 0) dX9_addClass_9 (by decide) ?_
  refine aw_iload_n dX9_addClass_10 rfl ?_
  refine ap_chkS kw_X9_56 ks_X9_56 ko_X9_checkRange (c_X9_checkRange _ _ _) dX9_addClass_11 rfl rfl (ble' rfl) (by decide) (fun q => po_e 0 (by rw [cd_addClass, if_neg b5, if_pos q]) rfl (seq_rf)) (fun b11 => ?_)
  refine aw_iload_n dX9_addClass_14 rfl ?_
  refine aw_iconst (v := 0) dX9_addClass_15 (by decide) ?_
  refine aw_bipush (v := 16) dX9_addClass_16 (by decide) ?_
  refine ap_chkS kw_X9_56 ks_X9_56 ko_X9_checkRange (c_X9_checkRange _ _ _) dX9_addClass_18 rfl rfl (ble' rfl) (by decide) (fun q => po_e 0 (by rw [cd_addClass, if_neg b5, if_neg b11, if_pos q]) rfl (seq_rf)) (fun b18 => ?_)
  refine aw_aload_n dX9_addClass_21 rfl ?_
  refine aw_get fl_X9_10 dX9_addClass_22 e_0 (l_0 hn) rfl ?_
  refine aw_get fl_X9_60 dX9_addClass_25 e_1 (l_1 hn) rfl ?_
  refine aw_get fl_X9_64 dX9_addClass_28 e_2 (l_2 hn) rfl ?_
  refine aw_iconst (v := 4) dX9_addClass_31 (by decide) ?_
  refine aw_icmp_lt 45 dX9_addClass_32 (by decide) (fun c32 => ?_) (fun c32 => ?_)
  · have n32 := Int32.not_le.mpr c32
    refine aw_aload_n dX9_addClass_45 rfl ?_
    refine aw_get fl_X9_10 dX9_addClass_46 e_0 (l_0 hn) rfl ?_
    refine aw_get fl_X9_60 dX9_addClass_49 e_1 (l_1 hn) rfl ?_
    refine aw_iload_n dX9_addClass_52 rfl ?_
    refine aw_iload_n dX9_addClass_53 rfl ?_
    refine aw_iload_n dX9_addClass_54 rfl ?_
    refine ap_callVi kv_X9_76 ko_X2_add (c_X2_add hn hc (lt_of_lt hc (show (4 : Int32) = nI 4 from rfl) (by omega) (by decide) c32) w s q) dX9_addClass_55 e_2 (l_2 hn) rfl rfl rfl rfl (ble' rfl) (by decide) ?_
    refine aw_iret rfl dX9_addClass_58 (ble' rfl) (ble' rfl) ?_
    exact po_i (by rw [cd_addClass, if_neg b5, if_neg b11, if_neg b18, if_neg n32]) (rfl) (seq_rf)
  · have n32 := Int32.not_lt.mp c32
    refine aw_throwS tx_71 dX9_addClass_35 dX9_addClass_38 dX9_addClass_39 dX9_addClass_41 dX9_addClass_44 ⟨by decide, ble' rfl, by decide, by decide⟩ ?_
    exact po_e 1 (by rw [cd_addClass, if_neg b5, if_neg b11, if_neg b18, if_pos n32]) rfl (seq_rf)

def cd_addSite (M : Nat → Nat → Int32) (c : Int32) : Nat := if (c < 0 ∨ M 2 3 ≤ c) then 1 else if 16 ≤ M 6 2 then 2 else 0
set_option maxRecDepth 100000 in
set_option maxHeartbeats 4000000 in
theorem c_X9_addSite {G : AG} {M : Nat → Nat → Int32} {n : Nat} (hn : 72 ≤ n) {nc ns nz nb nr t : Nat} (hI : CI M nc ns nz nb nr t)  (c : Int32) : AMet tX9_addSite yX9_addSite [Cond.code yX9_addSite cX9_addSite 2 (some .int)] [.ref 0, .int c] (wld G M) n (PO ["java/lang/IndexOutOfBoundsException", "java/lang/IllegalStateException"] (cd_addSite M c) (some (.int (nI ns))) G M (addS M ns c) n) := by
  obtain ⟨hc, hcl, hs, hsl, hz, hzl, hb, hbl, hr, hrl, ht, htl⟩ := id hI
  refine am_of (lo := [_, _]) (by decide) rfl (fun q => by cases q) rfl rfl rfl ?_
  refine aw_aload_n dX9_addSite_0 rfl ?_
  refine aw_iload_n dX9_addSite_1 rfl ?_
  refine ap_chkV kw_X9_80 kv_X9_80 ko_X9_checkClass (c_X9_checkClass hn _) dX9_addSite_2 e_0 (l_0 hn) rfl rfl rfl rfl (ble' rfl) (by decide) (fun q => po_e 0 (by rw [cd_addSite, if_pos q]) rfl (seq_rf)) (fun b2 => ?_)
  refine aw_aload_n dX9_addSite_5 rfl ?_
  refine aw_get fl_X9_10 dX9_addSite_6 e_0 (l_0 hn) rfl ?_
  refine aw_get fl_X9_84 dX9_addSite_9 e_1 (l_1 hn) rfl ?_
  refine aw_get fl_X9_88 dX9_addSite_12 e_6 (l_6 hn) rfl ?_
  refine aw_bipush (v := 16) dX9_addSite_15 (by decide) ?_
  refine aw_icmp_lt 30 dX9_addSite_17 (by decide) (fun c17 => ?_) (fun c17 => ?_)
  · have n17 := Int32.not_le.mpr c17
    refine aw_aload_n dX9_addSite_30 rfl ?_
    refine aw_get fl_X9_10 dX9_addSite_31 e_0 (l_0 hn) rfl ?_
    refine aw_get fl_X9_84 dX9_addSite_34 e_1 (l_1 hn) rfl ?_
    refine aw_iload_n dX9_addSite_37 rfl ?_
    refine ap_callVi kv_X9_93 ko_X7_add (c_X7_add hn hs (lt_of_lt hs (show (16 : Int32) = nI 16 from rfl) (by omega) (by decide) c17) c) dX9_addSite_38 e_6 (l_6 hn) rfl rfl rfl rfl (ble' rfl) (by decide) ?_
    refine aw_iret rfl dX9_addSite_41 (ble' rfl) (ble' rfl) ?_
    exact po_i (by rw [cd_addSite, if_neg b2, if_neg n17]) (rfl) (seq_rf)
  · have n17 := Int32.not_lt.mp c17
    refine aw_throwS tx_91 dX9_addSite_20 dX9_addSite_23 dX9_addSite_24 dX9_addSite_26 dX9_addSite_29 ⟨by decide, ble' rfl, by decide, by decide⟩ ?_
    exact po_e 1 (by rw [cd_addSite, if_neg b2, if_pos n17]) rfl (seq_rf)

def cd_addSeason (M : Nat → Nat → Int32) (c f l m p : Int32) : Nat := if (c < 0 ∨ M 2 3 ≤ c) then 1 else if (f < 0 ∨ 999 < f) then 2 else if (l < f ∨ 999 < l) then 2 else if (m < 1 ∨ 14 < m) then 2 else if (p < 0 ∨ 9999 < p) then 2 else if 12 ≤ M 9 5 then 3 else 0
set_option maxRecDepth 100000 in
set_option maxHeartbeats 4000000 in
theorem c_X9_addSeason {G : AG} {M : Nat → Nat → Int32} {n : Nat} (hn : 72 ≤ n) {nc ns nz nb nr t : Nat} (hI : CI M nc ns nz nb nr t)  (c f l m p : Int32) : AMet tX9_addSeason yX9_addSeason [Cond.code yX9_addSeason cX9_addSeason 6 (some .int)] [.ref 0, .int c, .int f, .int l, .int m, .int p] (wld G M) n (PO ["java/lang/IndexOutOfBoundsException", "java/lang/IllegalArgumentException", "java/lang/IllegalStateException"] (cd_addSeason M c f l m p) (some (.int (nI nz))) G M (addZ M nz c f l m p) n) := by
  obtain ⟨hc, hcl, hs, hsl, hz, hzl, hb, hbl, hr, hrl, ht, htl⟩ := id hI
  refine am_of (lo := [_, _, _, _, _, _]) (by decide) rfl (fun q => by cases q) rfl rfl rfl ?_
  refine aw_aload_n dX9_addSeason_0 rfl ?_
  refine aw_iload_n dX9_addSeason_1 rfl ?_
  refine ap_chkV kw_X9_80 kv_X9_80 ko_X9_checkClass (c_X9_checkClass hn _) dX9_addSeason_2 e_0 (l_0 hn) rfl rfl rfl rfl (ble' rfl) (by decide) (fun q => po_e 0 (by rw [cd_addSeason, if_pos q]) rfl (seq_rf)) (fun b2 => ?_)
  refine aw_iload_n dX9_addSeason_5 rfl ?_
  refine aw_iconst (v := 0) dX9_addSeason_6 (by decide) ?_
  refine aw_sipush (v := 999) dX9_addSeason_7 (by decide) ?_
  refine ap_chkS kw_X9_56 ks_X9_56 ko_X9_checkRange (c_X9_checkRange _ _ _) dX9_addSeason_10 rfl rfl (ble' rfl) (by decide) (fun q => po_e 1 (by rw [cd_addSeason, if_neg b2, if_pos q]) rfl (seq_rf)) (fun b10 => ?_)
  refine aw_iload_n dX9_addSeason_13 rfl ?_
  refine aw_iload_n dX9_addSeason_14 rfl ?_
  refine aw_sipush (v := 999) dX9_addSeason_15 (by decide) ?_
  refine ap_chkS kw_X9_56 ks_X9_56 ko_X9_checkRange (c_X9_checkRange _ _ _) dX9_addSeason_18 rfl rfl (ble' rfl) (by decide) (fun q => po_e 1 (by rw [cd_addSeason, if_neg b2, if_neg b10, if_pos q]) rfl (seq_rf)) (fun b18 => ?_)
  refine aw_iload dX9_addSeason_21 rfl ?_
  refine aw_iconst (v := 1) dX9_addSeason_23 (by decide) ?_
  refine aw_bipush (v := 14) dX9_addSeason_24 (by decide) ?_
  refine ap_chkS kw_X9_56 ks_X9_56 ko_X9_checkRange (c_X9_checkRange _ _ _) dX9_addSeason_26 rfl rfl (ble' rfl) (by decide) (fun q => po_e 1 (by rw [cd_addSeason, if_neg b2, if_neg b10, if_neg b18, if_pos q]) rfl (seq_rf)) (fun b26 => ?_)
  refine aw_iload dX9_addSeason_29 rfl ?_
  refine aw_iconst (v := 0) dX9_addSeason_31 (by decide) ?_
  refine aw_sipush (v := 9999) dX9_addSeason_32 (by decide) ?_
  refine ap_chkS kw_X9_56 ks_X9_56 ko_X9_checkRange (c_X9_checkRange _ _ _) dX9_addSeason_35 rfl rfl (ble' rfl) (by decide) (fun q => po_e 1 (by rw [cd_addSeason, if_neg b2, if_neg b10, if_neg b18, if_neg b26, if_pos q]) rfl (seq_rf)) (fun b35 => ?_)
  refine aw_aload_n dX9_addSeason_38 rfl ?_
  refine aw_get fl_X9_10 dX9_addSeason_39 e_0 (l_0 hn) rfl ?_
  refine aw_get fl_X9_96 dX9_addSeason_42 e_1 (l_1 hn) rfl ?_
  refine aw_get fl_X9_100 dX9_addSeason_45 e_9 (l_9 hn) rfl ?_
  refine aw_bipush (v := 12) dX9_addSeason_48 (by decide) ?_
  refine aw_icmp_lt 63 dX9_addSeason_50 (by decide) (fun c50 => ?_) (fun c50 => ?_)
  · have n50 := Int32.not_le.mpr c50
    refine aw_aload_n dX9_addSeason_63 rfl ?_
    refine aw_get fl_X9_10 dX9_addSeason_64 e_0 (l_0 hn) rfl ?_
    refine aw_get fl_X9_96 dX9_addSeason_67 e_1 (l_1 hn) rfl ?_
    refine aw_iload_n dX9_addSeason_70 rfl ?_
    refine aw_iload_n dX9_addSeason_71 rfl ?_
    refine aw_iload_n dX9_addSeason_72 rfl ?_
    refine aw_iload dX9_addSeason_73 rfl ?_
    refine aw_iload dX9_addSeason_75 rfl ?_
    refine ap_callVi kv_X9_105 ko_X5_add (c_X5_add hn hz (lt_of_lt hz (show (12 : Int32) = nI 12 from rfl) (by omega) (by decide) c50) c f l m p) dX9_addSeason_77 e_9 (l_9 hn) rfl rfl rfl rfl (ble' rfl) (by decide) ?_
    refine aw_iret rfl dX9_addSeason_80 (ble' rfl) (ble' rfl) ?_
    exact po_i (by rw [cd_addSeason, if_neg b2, if_neg b10, if_neg b18, if_neg b26, if_neg b35, if_neg n50]) (rfl) (seq_rf)
  · have n50 := Int32.not_lt.mp c50
    refine aw_throwS tx_103 dX9_addSeason_53 dX9_addSeason_56 dX9_addSeason_57 dX9_addSeason_59 dX9_addSeason_62 ⟨by decide, ble' rfl, by decide, by decide⟩ ?_
    exact po_e 2 (by rw [cd_addSeason, if_neg b2, if_neg b10, if_neg b18, if_neg b26, if_neg b35, if_pos n50]) rfl (seq_rf)

def cd_classOf (M : Nat → Nat → Int32) (x : Int32) : Nat := if (x < 0 ∨ M 6 2 ≤ x) then 1 else 0
set_option maxRecDepth 100000 in
set_option maxHeartbeats 4000000 in
theorem c_X9_classOf {G : AG} {M : Nat → Nat → Int32} {n : Nat} (hn : 72 ≤ n) {nc ns nz nb nr t : Nat} (hI : CI M nc ns nz nb nr t)  (x : Int32) : AMet tX9_classOf yX9_classOf [Cond.code yX9_classOf cX9_classOf 2 (some .int)] [.ref 0, .int x] (wld G M) n (PO ["java/lang/IndexOutOfBoundsException"] (cd_classOf M x) (some (.int (M 7 x.toNatClampNeg))) G M M n) := by
  obtain ⟨hc, hcl, hs, hsl, hz, hzl, hb, hbl, hr, hrl, ht, htl⟩ := id hI
  refine am_of (lo := [_, _]) (by decide) rfl (fun q => by cases q) rfl rfl rfl ?_
  refine aw_aload_n dX9_classOf_0 rfl ?_
  refine aw_iload_n dX9_classOf_1 rfl ?_
  refine ap_chkV kw_X9_108 kv_X9_108 ko_X9_checkSite (c_X9_checkSite hn _) dX9_classOf_2 e_0 (l_0 hn) rfl rfl rfl rfl (ble' rfl) (by decide) (fun q => po_e 0 (by rw [cd_classOf, if_pos q]) rfl (seq_rf)) (fun b2 => ?_)
  obtain ⟨j, hjl, hj⟩ := ck_ix hs (by omega) b2
  refine aw_aload_n dX9_classOf_5 rfl ?_
  refine aw_get fl_X9_10 dX9_classOf_6 e_0 (l_0 hn) rfl ?_
  refine aw_get fl_X9_84 dX9_classOf_9 e_1 (l_1 hn) rfl ?_
  refine aw_get fl_X9_111 dX9_classOf_12 e_6 (l_6 hn) rfl ?_
  refine aw_iload_n dX9_classOf_15 rfl ?_
  refine aw_ialdk dX9_classOf_16 e_7 (l_7 hn) hj (by omega) rfl ?_
  refine aw_iret rfl dX9_classOf_17 (ble' rfl) (ble' rfl) ?_
  exact po_i (by rw [cd_classOf, if_neg b2]) (by rw [cl_of hj (by omega)]) (seq_rf)

def cd_bookingState (M : Nat → Nat → Int32) (x : Int32) : Nat := if (x < 0 ∨ M 15 6 ≤ x) then 1 else 0
set_option maxRecDepth 100000 in
set_option maxHeartbeats 4000000 in
theorem c_X9_bookingState {G : AG} {M : Nat → Nat → Int32} {n : Nat} (hn : 72 ≤ n) {nc ns nz nb nr t : Nat} (hI : CI M nc ns nz nb nr t)  (x : Int32) : AMet tX9_bookingState yX9_bookingState [Cond.code yX9_bookingState cX9_bookingState 2 (some .int)] [.ref 0, .int x] (wld G M) n (PO ["java/lang/IndexOutOfBoundsException"] (cd_bookingState M x) (some (.int (M 20 x.toNatClampNeg))) G M M n) := by
  obtain ⟨hc, hcl, hs, hsl, hz, hzl, hb, hbl, hr, hrl, ht, htl⟩ := id hI
  refine am_of (lo := [_, _]) (by decide) rfl (fun q => by cases q) rfl rfl rfl ?_
  refine aw_aload_n dX9_bookingState_0 rfl ?_
  refine aw_iload_n dX9_bookingState_1 rfl ?_
  refine ap_chkV kw_X9_165 kv_X9_165 ko_X9_checkBooking (c_X9_checkBooking hn _) dX9_bookingState_2 e_0 (l_0 hn) rfl rfl rfl rfl (ble' rfl) (by decide) (fun q => po_e 0 (by rw [cd_bookingState, if_pos q]) rfl (seq_rf)) (fun b2 => ?_)
  obtain ⟨j, hjl, hj⟩ := ck_ix hb (by omega) b2
  refine aw_aload_n dX9_bookingState_5 rfl ?_
  refine aw_get fl_X9_10 dX9_bookingState_6 e_0 (l_0 hn) rfl ?_
  refine aw_get fl_X9_128 dX9_bookingState_9 e_1 (l_1 hn) rfl ?_
  refine aw_get fl_X9_168 dX9_bookingState_12 e_15 (l_15 hn) rfl ?_
  refine aw_iload_n dX9_bookingState_15 rfl ?_
  refine aw_ialdk dX9_bookingState_16 e_20 (l_20 hn) hj (by omega) rfl ?_
  refine aw_iret rfl dX9_bookingState_17 (ble' rfl) (ble' rfl) ?_
  exact po_i (by rw [cd_bookingState, if_neg b2]) (by rw [cl_of hj (by omega)]) (seq_rf)

def cd_bookingClass (M : Nat → Nat → Int32) (x : Int32) : Nat := if (x < 0 ∨ M 15 6 ≤ x) then 1 else 0
set_option maxRecDepth 100000 in
set_option maxHeartbeats 4000000 in
theorem c_X9_bookingClass {G : AG} {M : Nat → Nat → Int32} {n : Nat} (hn : 72 ≤ n) {nc ns nz nb nr t : Nat} (hI : CI M nc ns nz nb nr t)  (x : Int32) : AMet tX9_bookingClass yX9_bookingClass [Cond.code yX9_bookingClass cX9_bookingClass 2 (some .int)] [.ref 0, .int x] (wld G M) n (PO ["java/lang/IndexOutOfBoundsException"] (cd_bookingClass M x) (some (.int (M 16 x.toNatClampNeg))) G M M n) := by
  obtain ⟨hc, hcl, hs, hsl, hz, hzl, hb, hbl, hr, hrl, ht, htl⟩ := id hI
  refine am_of (lo := [_, _]) (by decide) rfl (fun q => by cases q) rfl rfl rfl ?_
  refine aw_aload_n dX9_bookingClass_0 rfl ?_
  refine aw_iload_n dX9_bookingClass_1 rfl ?_
  refine ap_chkV kw_X9_165 kv_X9_165 ko_X9_checkBooking (c_X9_checkBooking hn _) dX9_bookingClass_2 e_0 (l_0 hn) rfl rfl rfl rfl (ble' rfl) (by decide) (fun q => po_e 0 (by rw [cd_bookingClass, if_pos q]) rfl (seq_rf)) (fun b2 => ?_)
  obtain ⟨j, hjl, hj⟩ := ck_ix hb (by omega) b2
  refine aw_aload_n dX9_bookingClass_5 rfl ?_
  refine aw_get fl_X9_10 dX9_bookingClass_6 e_0 (l_0 hn) rfl ?_
  refine aw_get fl_X9_128 dX9_bookingClass_9 e_1 (l_1 hn) rfl ?_
  refine aw_get fl_X9_171 dX9_bookingClass_12 e_15 (l_15 hn) rfl ?_
  refine aw_iload_n dX9_bookingClass_15 rfl ?_
  refine aw_ialdk dX9_bookingClass_16 e_16 (l_16 hn) hj (by omega) rfl ?_
  refine aw_iret rfl dX9_bookingClass_17 (ble' rfl) (ble' rfl) ?_
  exact po_i (by rw [cd_bookingClass, if_neg b2]) (by rw [cl_of hj (by omega)]) (seq_rf)

def cd_arrival (M : Nat → Nat → Int32) (x : Int32) : Nat := if (x < 0 ∨ M 15 6 ≤ x) then 1 else 0
set_option maxRecDepth 100000 in
set_option maxHeartbeats 4000000 in
theorem c_X9_arrival {G : AG} {M : Nat → Nat → Int32} {n : Nat} (hn : 72 ≤ n) {nc ns nz nb nr t : Nat} (hI : CI M nc ns nz nb nr t)  (x : Int32) : AMet tX9_arrival yX9_arrival [Cond.code yX9_arrival cX9_arrival 2 (some .int)] [.ref 0, .int x] (wld G M) n (PO ["java/lang/IndexOutOfBoundsException"] (cd_arrival M x) (some (.int (M 17 x.toNatClampNeg))) G M M n) := by
  obtain ⟨hc, hcl, hs, hsl, hz, hzl, hb, hbl, hr, hrl, ht, htl⟩ := id hI
  refine am_of (lo := [_, _]) (by decide) rfl (fun q => by cases q) rfl rfl rfl ?_
  refine aw_aload_n dX9_arrival_0 rfl ?_
  refine aw_iload_n dX9_arrival_1 rfl ?_
  refine ap_chkV kw_X9_165 kv_X9_165 ko_X9_checkBooking (c_X9_checkBooking hn _) dX9_arrival_2 e_0 (l_0 hn) rfl rfl rfl rfl (ble' rfl) (by decide) (fun q => po_e 0 (by rw [cd_arrival, if_pos q]) rfl (seq_rf)) (fun b2 => ?_)
  obtain ⟨j, hjl, hj⟩ := ck_ix hb (by omega) b2
  refine aw_aload_n dX9_arrival_5 rfl ?_
  refine aw_get fl_X9_10 dX9_arrival_6 e_0 (l_0 hn) rfl ?_
  refine aw_get fl_X9_128 dX9_arrival_9 e_1 (l_1 hn) rfl ?_
  refine aw_get fl_X9_172 dX9_arrival_12 e_15 (l_15 hn) rfl ?_
  refine aw_iload_n dX9_arrival_15 rfl ?_
  refine aw_ialdk dX9_arrival_16 e_17 (l_17 hn) hj (by omega) rfl ?_
  refine aw_iret rfl dX9_arrival_17 (ble' rfl) (ble' rfl) ?_
  exact po_i (by rw [cd_arrival, if_neg b2]) (by rw [cl_of hj (by omega)]) (seq_rf)

def cd_departure (M : Nat → Nat → Int32) (x : Int32) : Nat := if (x < 0 ∨ M 15 6 ≤ x) then 1 else 0
set_option maxRecDepth 100000 in
set_option maxHeartbeats 4000000 in
theorem c_X9_departure {G : AG} {M : Nat → Nat → Int32} {n : Nat} (hn : 72 ≤ n) {nc ns nz nb nr t : Nat} (hI : CI M nc ns nz nb nr t)  (x : Int32) : AMet tX9_departure yX9_departure [Cond.code yX9_departure cX9_departure 2 (some .int)] [.ref 0, .int x] (wld G M) n (PO ["java/lang/IndexOutOfBoundsException"] (cd_departure M x) (some (.int (M 18 x.toNatClampNeg))) G M M n) := by
  obtain ⟨hc, hcl, hs, hsl, hz, hzl, hb, hbl, hr, hrl, ht, htl⟩ := id hI
  refine am_of (lo := [_, _]) (by decide) rfl (fun q => by cases q) rfl rfl rfl ?_
  refine aw_aload_n dX9_departure_0 rfl ?_
  refine aw_iload_n dX9_departure_1 rfl ?_
  refine ap_chkV kw_X9_165 kv_X9_165 ko_X9_checkBooking (c_X9_checkBooking hn _) dX9_departure_2 e_0 (l_0 hn) rfl rfl rfl rfl (ble' rfl) (by decide) (fun q => po_e 0 (by rw [cd_departure, if_pos q]) rfl (seq_rf)) (fun b2 => ?_)
  obtain ⟨j, hjl, hj⟩ := ck_ix hb (by omega) b2
  refine aw_aload_n dX9_departure_5 rfl ?_
  refine aw_get fl_X9_10 dX9_departure_6 e_0 (l_0 hn) rfl ?_
  refine aw_get fl_X9_128 dX9_departure_9 e_1 (l_1 hn) rfl ?_
  refine aw_get fl_X9_175 dX9_departure_12 e_15 (l_15 hn) rfl ?_
  refine aw_iload_n dX9_departure_15 rfl ?_
  refine aw_ialdk dX9_departure_16 e_18 (l_18 hn) hj (by omega) rfl ?_
  refine aw_iret rfl dX9_departure_17 (ble' rfl) (ble' rfl) ?_
  exact po_i (by rw [cd_departure, if_neg b2]) (by rw [cl_of hj (by omega)]) (seq_rf)

def cd_cost (M : Nat → Nat → Int32) (x : Int32) : Nat := if (x < 0 ∨ M 15 6 ≤ x) then 1 else 0
set_option maxRecDepth 100000 in
set_option maxHeartbeats 4000000 in
theorem c_X9_cost {G : AG} {M : Nat → Nat → Int32} {n : Nat} (hn : 72 ≤ n) {nc ns nz nb nr t : Nat} (hI : CI M nc ns nz nb nr t)  (x : Int32) : AMet tX9_cost yX9_cost [Cond.code yX9_cost cX9_cost 2 (some .int)] [.ref 0, .int x] (wld G M) n (PO ["java/lang/IndexOutOfBoundsException"] (cd_cost M x) (some (.int (M 19 x.toNatClampNeg))) G M M n) := by
  obtain ⟨hc, hcl, hs, hsl, hz, hzl, hb, hbl, hr, hrl, ht, htl⟩ := id hI
  refine am_of (lo := [_, _]) (by decide) rfl (fun q => by cases q) rfl rfl rfl ?_
  refine aw_aload_n dX9_cost_0 rfl ?_
  refine aw_iload_n dX9_cost_1 rfl ?_
  refine ap_chkV kw_X9_165 kv_X9_165 ko_X9_checkBooking (c_X9_checkBooking hn _) dX9_cost_2 e_0 (l_0 hn) rfl rfl rfl rfl (ble' rfl) (by decide) (fun q => po_e 0 (by rw [cd_cost, if_pos q]) rfl (seq_rf)) (fun b2 => ?_)
  obtain ⟨j, hjl, hj⟩ := ck_ix hb (by omega) b2
  refine aw_aload_n dX9_cost_5 rfl ?_
  refine aw_get fl_X9_10 dX9_cost_6 e_0 (l_0 hn) rfl ?_
  refine aw_get fl_X9_128 dX9_cost_9 e_1 (l_1 hn) rfl ?_
  refine aw_get fl_X9_178 dX9_cost_12 e_15 (l_15 hn) rfl ?_
  refine aw_iload_n dX9_cost_15 rfl ?_
  refine aw_ialdk dX9_cost_16 e_19 (l_19 hn) hj (by omega) rfl ?_
  refine aw_iret rfl dX9_cost_17 (ble' rfl) (ble' rfl) ?_
  exact po_i (by rw [cd_cost, if_neg b2]) (by rw [cl_of hj (by omega)]) (seq_rf)

def cd_siteOf (M : Nat → Nat → Int32) (x : Int32) : Nat := if (x < 0 ∨ M 15 6 ≤ x) then 1 else 0
set_option maxRecDepth 100000 in
set_option maxHeartbeats 4000000 in
theorem c_X9_siteOf {G : AG} {M : Nat → Nat → Int32} {n : Nat} (hn : 72 ≤ n) {nc ns nz nb nr t : Nat} (hI : CI M nc ns nz nb nr t)  (x : Int32) : AMet tX9_siteOf yX9_siteOf [Cond.code yX9_siteOf cX9_siteOf 2 (some .int)] [.ref 0, .int x] (wld G M) n (PO ["java/lang/IndexOutOfBoundsException"] (cd_siteOf M x) (some (.int (M 21 x.toNatClampNeg))) G M M n) := by
  obtain ⟨hc, hcl, hs, hsl, hz, hzl, hb, hbl, hr, hrl, ht, htl⟩ := id hI
  refine am_of (lo := [_, _]) (by decide) rfl (fun q => by cases q) rfl rfl rfl ?_
  refine aw_aload_n dX9_siteOf_0 rfl ?_
  refine aw_iload_n dX9_siteOf_1 rfl ?_
  refine ap_chkV kw_X9_165 kv_X9_165 ko_X9_checkBooking (c_X9_checkBooking hn _) dX9_siteOf_2 e_0 (l_0 hn) rfl rfl rfl rfl (ble' rfl) (by decide) (fun q => po_e 0 (by rw [cd_siteOf, if_pos q]) rfl (seq_rf)) (fun b2 => ?_)
  obtain ⟨j, hjl, hj⟩ := ck_ix hb (by omega) b2
  refine aw_aload_n dX9_siteOf_5 rfl ?_
  refine aw_get fl_X9_10 dX9_siteOf_6 e_0 (l_0 hn) rfl ?_
  refine aw_get fl_X9_128 dX9_siteOf_9 e_1 (l_1 hn) rfl ?_
  refine aw_get fl_X9_181 dX9_siteOf_12 e_15 (l_15 hn) rfl ?_
  refine aw_iload_n dX9_siteOf_15 rfl ?_
  refine aw_ialdk dX9_siteOf_16 e_21 (l_21 hn) hj (by omega) rfl ?_
  refine aw_iret rfl dX9_siteOf_17 (ble' rfl) (ble' rfl) ?_
  exact po_i (by rw [cd_siteOf, if_neg b2]) (by rw [cl_of hj (by omega)]) (seq_rf)

def cd_requestState (M : Nat → Nat → Int32) (x : Int32) : Nat := if (x < 0 ∨ M 22 5 ≤ x) then 1 else 0
set_option maxRecDepth 100000 in
set_option maxHeartbeats 4000000 in
theorem c_X9_requestState {G : AG} {M : Nat → Nat → Int32} {n : Nat} (hn : 72 ≤ n) {nc ns nz nb nr t : Nat} (hI : CI M nc ns nz nb nr t)  (x : Int32) : AMet tX9_requestState yX9_requestState [Cond.code yX9_requestState cX9_requestState 2 (some .int)] [.ref 0, .int x] (wld G M) n (PO ["java/lang/IndexOutOfBoundsException"] (cd_requestState M x) (some (.int (M 26 x.toNatClampNeg))) G M M n) := by
  obtain ⟨hc, hcl, hs, hsl, hz, hzl, hb, hbl, hr, hrl, ht, htl⟩ := id hI
  refine am_of (lo := [_, _]) (by decide) rfl (fun q => by cases q) rfl rfl rfl ?_
  refine aw_aload_n dX9_requestState_0 rfl ?_
  refine aw_iload_n dX9_requestState_1 rfl ?_
  refine ap_chkV kw_X9_238 kv_X9_238 ko_X9_checkRequest (c_X9_checkRequest hn _) dX9_requestState_2 e_0 (l_0 hn) rfl rfl rfl rfl (ble' rfl) (by decide) (fun q => po_e 0 (by rw [cd_requestState, if_pos q]) rfl (seq_rf)) (fun b2 => ?_)
  obtain ⟨j, hjl, hj⟩ := ck_ix hr (by omega) b2
  refine aw_aload_n dX9_requestState_5 rfl ?_
  refine aw_get fl_X9_10 dX9_requestState_6 e_0 (l_0 hn) rfl ?_
  refine aw_get fl_X9_228 dX9_requestState_9 e_1 (l_1 hn) rfl ?_
  refine aw_get fl_X9_241 dX9_requestState_12 e_22 (l_22 hn) rfl ?_
  refine aw_iload_n dX9_requestState_15 rfl ?_
  refine aw_ialdk dX9_requestState_16 e_26 (l_26 hn) hj (by omega) rfl ?_
  refine aw_iret rfl dX9_requestState_17 (ble' rfl) (ble' rfl) ?_
  exact po_i (by rw [cd_requestState, if_neg b2]) (by rw [cl_of hj (by omega)]) (seq_rf)

def cd_bookingOf (M : Nat → Nat → Int32) (x : Int32) : Nat := if (x < 0 ∨ M 22 5 ≤ x) then 1 else 0
set_option maxRecDepth 100000 in
set_option maxHeartbeats 4000000 in
theorem c_X9_bookingOf {G : AG} {M : Nat → Nat → Int32} {n : Nat} (hn : 72 ≤ n) {nc ns nz nb nr t : Nat} (hI : CI M nc ns nz nb nr t)  (x : Int32) : AMet tX9_bookingOf yX9_bookingOf [Cond.code yX9_bookingOf cX9_bookingOf 2 (some .int)] [.ref 0, .int x] (wld G M) n (PO ["java/lang/IndexOutOfBoundsException"] (cd_bookingOf M x) (some (.int (M 27 x.toNatClampNeg))) G M M n) := by
  obtain ⟨hc, hcl, hs, hsl, hz, hzl, hb, hbl, hr, hrl, ht, htl⟩ := id hI
  refine am_of (lo := [_, _]) (by decide) rfl (fun q => by cases q) rfl rfl rfl ?_
  refine aw_aload_n dX9_bookingOf_0 rfl ?_
  refine aw_iload_n dX9_bookingOf_1 rfl ?_
  refine ap_chkV kw_X9_238 kv_X9_238 ko_X9_checkRequest (c_X9_checkRequest hn _) dX9_bookingOf_2 e_0 (l_0 hn) rfl rfl rfl rfl (ble' rfl) (by decide) (fun q => po_e 0 (by rw [cd_bookingOf, if_pos q]) rfl (seq_rf)) (fun b2 => ?_)
  obtain ⟨j, hjl, hj⟩ := ck_ix hr (by omega) b2
  refine aw_aload_n dX9_bookingOf_5 rfl ?_
  refine aw_get fl_X9_10 dX9_bookingOf_6 e_0 (l_0 hn) rfl ?_
  refine aw_get fl_X9_228 dX9_bookingOf_9 e_1 (l_1 hn) rfl ?_
  refine aw_get fl_X9_242 dX9_bookingOf_12 e_22 (l_22 hn) rfl ?_
  refine aw_iload_n dX9_bookingOf_15 rfl ?_
  refine aw_ialdk dX9_bookingOf_16 e_27 (l_27 hn) hj (by omega) rfl ?_
  refine aw_iret rfl dX9_bookingOf_17 (ble' rfl) (ble' rfl) ?_
  exact po_i (by rw [cd_bookingOf, if_neg b2]) (by rw [cl_of hj (by omega)]) (seq_rf)

def cd_minimum (M : Nat → Nat → Int32) (c d : Int32) : Nat := if (c < 0 ∨ M 2 3 ≤ c) then 1 else if (d < 0 ∨ 999 < d) then 2 else 0
set_option maxRecDepth 100000 in
set_option maxHeartbeats 4000000 in
theorem c_X9_minimum {G : AG} {M : Nat → Nat → Int32} {n : Nat} (hn : 72 ≤ n) {nc ns nz nb nr t : Nat} (hI : CI M nc ns nz nb nr t)  (c d : Int32) : AMet tX9_minimum yX9_minimum [Cond.code yX9_minimum cX9_minimum 3 (some .int)] [.ref 0, .int c, .int d] (wld G M) n (PO ["java/lang/IndexOutOfBoundsException", "java/lang/IllegalArgumentException"] (cd_minimum M c d) (some (.int (sval (seasN (M 10) (M 11) (M 12) c d nz) (M 13) 1))) G M M n) := by
  obtain ⟨hc, hcl, hs, hsl, hz, hzl, hb, hbl, hr, hrl, ht, htl⟩ := id hI
  refine am_of (lo := [_, _, _]) (by decide) rfl (fun q => by cases q) rfl rfl rfl ?_
  refine aw_aload_n dX9_minimum_0 rfl ?_
  refine aw_iload_n dX9_minimum_1 rfl ?_
  refine ap_chkV kw_X9_80 kv_X9_80 ko_X9_checkClass (c_X9_checkClass hn _) dX9_minimum_2 e_0 (l_0 hn) rfl rfl rfl rfl (ble' rfl) (by decide) (fun q => po_e 0 (by rw [cd_minimum, if_pos q]) rfl (seq_rf)) (fun b2 => ?_)
  refine aw_iload_n dX9_minimum_5 rfl ?_
  refine aw_iconst (v := 0) dX9_minimum_6 (by decide) ?_
  refine aw_sipush (v := 999) dX9_minimum_7 (by decide) ?_
  refine ap_chkS kw_X9_56 ks_X9_56 ko_X9_checkRange (c_X9_checkRange _ _ _) dX9_minimum_10 rfl rfl (ble' rfl) (by decide) (fun q => po_e 1 (by rw [cd_minimum, if_neg b2, if_pos q]) rfl (seq_rf)) (fun b10 => ?_)
  refine aw_aload_n dX9_minimum_13 rfl ?_
  refine aw_get fl_X9_10 dX9_minimum_14 e_0 (l_0 hn) rfl ?_
  refine aw_get fl_X9_96 dX9_minimum_17 e_1 (l_1 hn) rfl ?_
  refine aw_iload_n dX9_minimum_20 rfl ?_
  refine aw_iload_n dX9_minimum_21 rfl ?_
  refine ap_callVi kv_X9_115 ko_X5_minimumOn (c_X5_minimumOn hn hz hzl c d) dX9_minimum_22 e_9 (l_9 hn) rfl rfl rfl rfl (ble' rfl) (by decide) ?_
  refine aw_iret rfl dX9_minimum_25 (ble' rfl) (ble' rfl) ?_
  exact po_i (by rw [cd_minimum, if_neg b2, if_neg b10]) (rfl) (seq_rf)

def cd_price (M : Nat → Nat → Int32) (c d : Int32) : Nat := if (c < 0 ∨ M 2 3 ≤ c) then 1 else if (d < 0 ∨ 999 < d) then 2 else 0
set_option maxRecDepth 100000 in
set_option maxHeartbeats 4000000 in
theorem c_X9_price {G : AG} {M : Nat → Nat → Int32} {n : Nat} (hn : 72 ≤ n) {nc ns nz nb nr t : Nat} (hI : CI M nc ns nz nb nr t)  (c d : Int32) : AMet tX9_price yX9_price [Cond.code yX9_price cX9_price 3 (some .int)] [.ref 0, .int c, .int d] (wld G M) n (PO ["java/lang/IndexOutOfBoundsException", "java/lang/IllegalArgumentException"] (cd_price M c d) (some (.int (sval (seasN (M 10) (M 11) (M 12) c d nz) (M 14) 20))) G M M n) := by
  obtain ⟨hc, hcl, hs, hsl, hz, hzl, hb, hbl, hr, hrl, ht, htl⟩ := id hI
  refine am_of (lo := [_, _, _]) (by decide) rfl (fun q => by cases q) rfl rfl rfl ?_
  refine aw_aload_n dX9_price_0 rfl ?_
  refine aw_iload_n dX9_price_1 rfl ?_
  refine ap_chkV kw_X9_80 kv_X9_80 ko_X9_checkClass (c_X9_checkClass hn _) dX9_price_2 e_0 (l_0 hn) rfl rfl rfl rfl (ble' rfl) (by decide) (fun q => po_e 0 (by rw [cd_price, if_pos q]) rfl (seq_rf)) (fun b2 => ?_)
  refine aw_iload_n dX9_price_5 rfl ?_
  refine aw_iconst (v := 0) dX9_price_6 (by decide) ?_
  refine aw_sipush (v := 999) dX9_price_7 (by decide) ?_
  refine ap_chkS kw_X9_56 ks_X9_56 ko_X9_checkRange (c_X9_checkRange _ _ _) dX9_price_10 rfl rfl (ble' rfl) (by decide) (fun q => po_e 1 (by rw [cd_price, if_neg b2, if_pos q]) rfl (seq_rf)) (fun b10 => ?_)
  refine aw_aload_n dX9_price_13 rfl ?_
  refine aw_get fl_X9_10 dX9_price_14 e_0 (l_0 hn) rfl ?_
  refine aw_get fl_X9_96 dX9_price_17 e_1 (l_1 hn) rfl ?_
  refine aw_iload_n dX9_price_20 rfl ?_
  refine aw_iload_n dX9_price_21 rfl ?_
  refine ap_callVi kv_X9_119 ko_X5_priceOn (c_X5_priceOn hn hz hzl c d) dX9_price_22 e_9 (l_9 hn) rfl rfl rfl rfl (ble' rfl) (by decide) ?_
  refine aw_iret rfl dX9_price_25 (ble' rfl) (ble' rfl) ?_
  exact po_i (by rw [cd_price, if_neg b2, if_neg b10]) (rfl) (seq_rf)

def cd_capacity (M : Nat → Nat → Int32) (c d : Int32) : Nat := if (c < 0 ∨ M 2 3 ≤ c) then 1 else 0
set_option maxRecDepth 100000 in
set_option maxHeartbeats 4000000 in
theorem c_X9_capacity {G : AG} {M : Nat → Nat → Int32} {n : Nat} (hn : 72 ≤ n) {nc ns nz nb nr t : Nat} (hI : CI M nc ns nz nb nr t)  (c d : Int32) : AMet tX9_capacity yX9_capacity [Cond.code yX9_capacity cX9_capacity 3 (some .int)] [.ref 0, .int c, .int d] (wld G M) n (PO ["java/lang/IndexOutOfBoundsException"] (cd_capacity M c d) (some (.int (capF (M 1 5) (nI (cnt (opB (M 7) (M 8) c d) ns)) d))) G M M n) := by
  obtain ⟨hc, hcl, hs, hsl, hz, hzl, hb, hbl, hr, hrl, ht, htl⟩ := id hI
  refine am_of (lo := [_, _, _]) (by decide) rfl (fun q => by cases q) rfl rfl rfl ?_
  refine aw_aload_n dX9_capacity_0 rfl ?_
  refine aw_iload_n dX9_capacity_1 rfl ?_
  refine ap_chkV kw_X9_80 kv_X9_80 ko_X9_checkClass (c_X9_checkClass hn _) dX9_capacity_2 e_0 (l_0 hn) rfl rfl rfl rfl (ble' rfl) (by decide) (fun q => po_e 0 (by rw [cd_capacity, if_pos q]) rfl (seq_rf)) (fun b2 => ?_)
  refine aw_aload_n dX9_capacity_5 rfl ?_
  refine aw_get fl_X9_10 dX9_capacity_6 e_0 (l_0 hn) rfl ?_
  refine aw_iload_n dX9_capacity_9 rfl ?_
  refine aw_iload_n dX9_capacity_10 rfl ?_
  refine ap_callVi kv_X9_122 ko_X1_capacityOn (c_X1_capacityOn hn hs hsl c d) dX9_capacity_11 e_1 (l_1 hn) rfl rfl rfl rfl (ble' rfl) (by decide) ?_
  refine aw_iret rfl dX9_capacity_14 (ble' rfl) (ble' rfl) ?_
  exact po_i (by rw [cd_capacity, if_neg b2]) (rfl) (seq_rf)

def cd_released (M : Nat → Nat → Int32) (c d : Int32) : Nat := if (c < 0 ∨ M 2 3 ≤ c) then 1 else 0
set_option maxRecDepth 100000 in
set_option maxHeartbeats 4000000 in
theorem c_X9_released {G : AG} {M : Nat → Nat → Int32} {n : Nat} (hn : 72 ≤ n) {nc ns nz nb nr t : Nat} (hI : CI M nc ns nz nb nr t)  (c d : Int32) : AMet tX9_released yX9_released [Cond.code yX9_released cX9_released 3 (some .int)] [.ref 0, .int c, .int d] (wld G M) n (PO ["java/lang/IndexOutOfBoundsException"] (cd_released M c d) (some (.int (relC (M 1 5) (M 3 c.toNatClampNeg) (M 4 c.toNatClampNeg) (M 5 c.toNatClampNeg) (nI (cnt (opB (M 7) (M 8) c d) ns)) d))) G M M n) := by
  obtain ⟨hc, hcl, hs, hsl, hz, hzl, hb, hbl, hr, hrl, ht, htl⟩ := id hI
  refine am_of (lo := [_, _, _]) (by decide) rfl (fun q => by cases q) rfl rfl rfl ?_
  refine aw_aload_n dX9_released_0 rfl ?_
  refine aw_iload_n dX9_released_1 rfl ?_
  refine ap_chkV kw_X9_80 kv_X9_80 ko_X9_checkClass (c_X9_checkClass hn _) dX9_released_2 e_0 (l_0 hn) rfl rfl rfl rfl (ble' rfl) (by decide) (fun q => po_e 0 (by rw [cd_released, if_pos q]) rfl (seq_rf)) (fun b2 => ?_)
  obtain ⟨kc, hkc, hk⟩ := ck_ix hc (by omega) b2
  refine aw_aload_n dX9_released_5 rfl ?_
  refine aw_get fl_X9_10 dX9_released_6 e_0 (l_0 hn) rfl ?_
  refine aw_iload_n dX9_released_9 rfl ?_
  refine aw_iload_n dX9_released_10 rfl ?_
  refine ap_callVi kv_X9_125 ko_X1_releasedOn (c_X1_releasedOn hn hc hcl hk hkc hs hsl d) dX9_released_11 e_1 (l_1 hn) rfl rfl rfl rfl (ble' rfl) (by decide) ?_
  refine aw_iret rfl dX9_released_14 (ble' rfl) (ble' rfl) ?_
  exact po_i (by rw [cd_released, if_neg b2]) (by rw [cl_of hk (by omega)]) (seq_rf)

def cd_taken (M : Nat → Nat → Int32) (c d : Int32) : Nat := if (c < 0 ∨ M 2 3 ≤ c) then 1 else 0
set_option maxRecDepth 100000 in
set_option maxHeartbeats 4000000 in
theorem c_X9_taken {G : AG} {M : Nat → Nat → Int32} {n : Nat} (hn : 72 ≤ n) {nc ns nz nb nr t : Nat} (hI : CI M nc ns nz nb nr t)  (c d : Int32) : AMet tX9_taken yX9_taken [Cond.code yX9_taken cX9_taken 3 (some .int)] [.ref 0, .int c, .int d] (wld G M) n (PO ["java/lang/IndexOutOfBoundsException"] (cd_taken M c d) (some (.int (nI (cnt (tkB (M 16) (M 17) (M 18) (M 20) c d) nb)))) G M M n) := by
  obtain ⟨hc, hcl, hs, hsl, hz, hzl, hb, hbl, hr, hrl, ht, htl⟩ := id hI
  refine am_of (lo := [_, _, _]) (by decide) rfl (fun q => by cases q) rfl rfl rfl ?_
  refine aw_aload_n dX9_taken_0 rfl ?_
  refine aw_iload_n dX9_taken_1 rfl ?_
  refine ap_chkV kw_X9_80 kv_X9_80 ko_X9_checkClass (c_X9_checkClass hn _) dX9_taken_2 e_0 (l_0 hn) rfl rfl rfl rfl (ble' rfl) (by decide) (fun q => po_e 0 (by rw [cd_taken, if_pos q]) rfl (seq_rf)) (fun b2 => ?_)
  refine aw_aload_n dX9_taken_5 rfl ?_
  refine aw_get fl_X9_10 dX9_taken_6 e_0 (l_0 hn) rfl ?_
  refine aw_get fl_X9_128 dX9_taken_9 e_1 (l_1 hn) rfl ?_
  refine aw_iload_n dX9_taken_12 rfl ?_
  refine aw_iload_n dX9_taken_13 rfl ?_
  refine ap_callVi kv_X9_132 ko_X0_takenOn (c_X0_takenOn hn hb hbl c d) dX9_taken_14 e_15 (l_15 hn) rfl rfl rfl rfl (ble' rfl) (by decide) ?_
  refine aw_iret rfl dX9_taken_17 (ble' rfl) (ble' rfl) ?_
  exact po_i (by rw [cd_taken, if_neg b2]) (rfl) (seq_rf)

def cd_available (M : Nat → Nat → Int32) (c d : Int32) : Nat := if (c < 0 ∨ M 2 3 ≤ c) then 1 else 0
set_option maxRecDepth 100000 in
set_option maxHeartbeats 4000000 in
theorem c_X9_available {G : AG} {M : Nat → Nat → Int32} {n : Nat} (hn : 72 ≤ n) {nc ns nz nb nr t : Nat} (hI : CI M nc ns nz nb nr t)  (c d : Int32) : AMet tX9_available yX9_available [Cond.code yX9_available cX9_available 4 (some .int)] [.ref 0, .int c, .int d] (wld G M) n (PO ["java/lang/IndexOutOfBoundsException"] (cd_available M c d) (some (.int (if (relC (M 1 5) (M 3 c.toNatClampNeg) (M 4 c.toNatClampNeg) (M 5 c.toNatClampNeg) (nI (cnt (opB (M 7) (M 8) c d) ns)) d) - (nI (cnt (tkB (M 16) (M 17) (M 18) (M 20) c d) nb)) < 0 then 0 else (relC (M 1 5) (M 3 c.toNatClampNeg) (M 4 c.toNatClampNeg) (M 5 c.toNatClampNeg) (nI (cnt (opB (M 7) (M 8) c d) ns)) d) - (nI (cnt (tkB (M 16) (M 17) (M 18) (M 20) c d) nb))))) G M M n) := by
  obtain ⟨hc, hcl, hs, hsl, hz, hzl, hb, hbl, hr, hrl, ht, htl⟩ := id hI
  refine am_of (lo := [_, _, _, _]) (by decide) rfl (fun q => by cases q) rfl rfl rfl ?_
  refine aw_aload_n dX9_available_0 rfl ?_
  refine aw_iload_n dX9_available_1 rfl ?_
  refine ap_chkV kw_X9_80 kv_X9_80 ko_X9_checkClass (c_X9_checkClass hn _) dX9_available_2 e_0 (l_0 hn) rfl rfl rfl rfl (ble' rfl) (by decide) (fun q => po_e 0 (by rw [cd_available, if_pos q]) rfl (seq_rf)) (fun b2 => ?_)
  obtain ⟨kc, hkc, hk⟩ := ck_ix hc (by omega) b2
  refine aw_aload_n dX9_available_5 rfl ?_
  refine aw_get fl_X9_10 dX9_available_6 e_0 (l_0 hn) rfl ?_
  refine aw_iload_n dX9_available_9 rfl ?_
  refine aw_iload_n dX9_available_10 rfl ?_
  refine ap_callVi kv_X9_125 ko_X1_releasedOn (c_X1_releasedOn hn hc hcl hk hkc hs hsl d) dX9_available_11 e_1 (l_1 hn) rfl rfl rfl rfl (ble' rfl) (by decide) ?_
  refine aw_aload_n dX9_available_14 rfl ?_
  refine aw_get fl_X9_10 dX9_available_15 e_0 (l_0 hn) rfl ?_
  refine aw_get fl_X9_128 dX9_available_18 e_1 (l_1 hn) rfl ?_
  refine aw_iload_n dX9_available_21 rfl ?_
  refine aw_iload_n dX9_available_22 rfl ?_
  refine ap_callVi kv_X9_132 ko_X0_takenOn (c_X0_takenOn hn hb hbl c d) dX9_available_23 e_15 (l_15 hn) rfl rfl rfl rfl (ble' rfl) (by decide) ?_
  refine aw_isub dX9_available_26 ?_
  refine aw_istore_n (lo' := [_, _, _, some (.int _)]) dX9_available_27 (by decide) rfl ?_
  refine aw_iload_n dX9_available_28 rfl ?_
  refine aw_iconst (v := 0) dX9_available_29 (by decide) ?_
  refine aw_mmax km_X9_137 dX9_available_30 ⟨by decide, ble' rfl, by decide, by decide⟩ ?_
  refine aw_iret rfl dX9_available_33 (ble' rfl) (ble' rfl) ?_
  exact po_i (by rw [cd_available, if_neg b2]) (by rw [cl_of hk (by omega)]) (seq_rf)

def cd_vacantSite (M : Nat → Nat → Int32) (c : Int32) : Nat := if (c < 0 ∨ M 2 3 ≤ c) then 1 else 0
set_option maxRecDepth 100000 in
set_option maxHeartbeats 4000000 in
theorem c_X9_vacantSite {G : AG} {M : Nat → Nat → Int32} {n : Nat} (hn : 72 ≤ n) {nc ns nz nb nr t : Nat} (hI : CI M nc ns nz nb nr t)  (c : Int32) : AMet tX9_vacantSite yX9_vacantSite [Cond.code yX9_vacantSite cX9_vacantSite 2 (some .int)] [.ref 0, .int c] (wld G M) n (PO ["java/lang/IndexOutOfBoundsException"] (cd_vacantSite M c) (some (.int (fstN (fun k => decide (M 7 k = c ∧ (¬ M 1 5 < M 8 k ∧ anyB (sbB (M 20) (M 21) (nI k)) nb = false))) ns))) G M M n) := by
  obtain ⟨hc, hcl, hs, hsl, hz, hzl, hb, hbl, hr, hrl, ht, htl⟩ := id hI
  refine am_of (lo := [_, _]) (by decide) rfl (fun q => by cases q) rfl rfl rfl ?_
  refine aw_aload_n dX9_vacantSite_0 rfl ?_
  refine aw_iload_n dX9_vacantSite_1 rfl ?_
  refine ap_chkV kw_X9_80 kv_X9_80 ko_X9_checkClass (c_X9_checkClass hn _) dX9_vacantSite_2 e_0 (l_0 hn) rfl rfl rfl rfl (ble' rfl) (by decide) (fun q => po_e 0 (by rw [cd_vacantSite, if_pos q]) rfl (seq_rf)) (fun b2 => ?_)
  refine aw_aload_n dX9_vacantSite_5 rfl ?_
  refine aw_get fl_X9_10 dX9_vacantSite_6 e_0 (l_0 hn) rfl ?_
  refine aw_iload_n dX9_vacantSite_9 rfl ?_
  refine ap_callVi kv_X9_191 ko_X1_lowestVacantSite (c_X1_lowestVacantSite hn hb hbl hs hsl c) dX9_vacantSite_10 e_1 (l_1 hn) rfl rfl rfl rfl (ble' rfl) (by decide) ?_
  refine aw_iret rfl dX9_vacantSite_13 (ble' rfl) (ble' rfl) ?_
  exact po_i (by rw [cd_vacantSite, if_neg b2]) (rfl) (seq_rf)
