theorem aw_bastk {T : ATy} {Q : AQ} {CX : AC} {pc : Nat} {lo : List (Option Value)} {st : List Value} {h h' : Nat → AE} {n ce sl : Nat} {i len k : Nat} {f : Nat → Int32} {j x : Int32} (hd : decode T.2.1 pc = .ok (.bastore, 1)) (he : h i = .inl (1, len, .inl f)) (hi : i < n) (hj : j = nI k) (hk : k < len) (hl : Nat.ble len 2000000000 = true) (hh : hset h i (.inl (1, len, .inl (upd f k (vp_nar .byte x)))) = h') (kk : AW T Q CX (pc + 1) lo st h' n ce sl) : AW T Q CX pc lo (.int x :: .int j :: .ref i :: st) h n ce sl := by
  have h2 : len < 2 ^ 31 := Nat.lt_of_le_of_lt (Nat.le_of_ble_eq_true hl) (by decide)
  refine aw_bast hd he hi (in_of hj hk h2) ?_ kk
  rw [cl_of hj (Nat.lt_trans hk h2)]
  exact hh
/-- the plan of the class c -/
def planM (M : Nat → Nat → Int32) (ns nb nz : Nat) (c pol : Int32) : PlS := plRun (plStep nb ns (M 16) (M 17) (M 18) (M 20) (M 7) (M 8) (mnM M nz c) c pol) nb ((psS (M 16) (M 18) (M 20) (M 21) c (mapK (fun _ => -1) (M 59) 60, mapK (fun _ => -1) (M 60) 16) nb).1, (psS (M 16) (M 18) (M 20) (M 21) c (mapK (fun _ => -1) (M 59) 60, mapK (fun _ => -1) (M 60) 16) nb).2, 0, 0)
def cd_planSite (M : Nat → Nat → Int32) (x p : Int32) : Nat := if (x < 0 ∨ M 15 6 ≤ x) then 1 else if (p < 0 ∨ 1 < p) then 2 else if ¬ actP (M 20 x.toNatClampNeg) then 3 else 0
set_option maxRecDepth 100000 in
set_option maxHeartbeats 4000000 in
theorem c_X9_planSite {G : AG} {M : Nat → Nat → Int32} {n : Nat} (hn : 72 ≤ n) {nc ns nz nb nr t : Nat} (hI : CI M nc ns nz nb nr t)  (x p : Int32) : AMet tX9_planSite yX9_planSite [Cond.code yX9_planSite cX9_planSite 3 (some .int)] [.ref 0, .int x, .int p] (wld G M) n (PO ["java/lang/IndexOutOfBoundsException", "java/lang/IllegalArgumentException", "java/lang/IllegalStateException"] (cd_planSite M x p) (some (.int ((planM M (nsM M) (nbM M) (nzM M) (M 16 x.toNatClampNeg) p).1 x.toNatClampNeg))) G M M n) := by
  obtain ⟨hc, hcl, hs, hsl, hz, hzl, hb, hbl, hr, hrl, ht, htl⟩ := id hI
  have ens : nsM M = ns := cl_of hs (by omega)
  have enb : nbM M = nb := cl_of hb (by omega)
  have enz : nzM M = nz := cl_of hz (by omega)
  have enr : nrM M = nr := cl_of hr (by omega)
  have etm : tM M = t := cl_of ht (by omega)
  refine am_of (lo := [_, _, _]) (by decide) rfl (fun q => by cases q) rfl rfl rfl ?_
  refine aw_aload_n dX9_planSite_0 rfl ?_
  refine aw_iload_n dX9_planSite_1 rfl ?_
  refine ap_chkV kw_X9_165 kv_X9_165 ko_X9_checkBooking (c_X9_checkBooking hn _) dX9_planSite_2 e_0 (l_0 hn) rfl rfl rfl rfl (ble' rfl) (by decide) (fun q => po_e 0 (by rw [cd_planSite, if_pos q]) rfl (seq_rf)) (fun b2 => ?_)
  obtain ⟨j, hjl, hj⟩ := ck_ix hb (by omega) b2
  refine aw_iload_n dX9_planSite_5 rfl ?_
  refine aw_iconst (v := 0) dX9_planSite_6 (by decide) ?_
  refine aw_iconst (v := 1) dX9_planSite_7 (by decide) ?_
  refine ap_chkS kw_X9_56 ks_X9_56 ko_X9_checkRange (c_X9_checkRange _ _ _) dX9_planSite_8 rfl rfl (ble' rfl) (by decide) (fun q => po_e 1 (by rw [cd_planSite, if_neg b2, if_pos q]) rfl (seq_rf)) (fun b8 => ?_)
  refine aw_aload_n dX9_planSite_11 rfl ?_
  refine aw_get fl_X9_10 dX9_planSite_12 e_0 (l_0 hn) rfl ?_
  refine aw_get fl_X9_128 dX9_planSite_15 e_1 (l_1 hn) rfl ?_
  refine aw_iload_n dX9_planSite_18 rfl ?_
  refine ap_callVi kv_X9_207 ko_X0_isActive (c_X0_isActive hn hj (by omega)) dX9_planSite_19 e_15 (l_15 hn) rfl rfl rfl rfl (ble' rfl) (by decide) ?_
  refine ap_chkS kw_X9_184 ks_X9_184 ko_X9_checkState (c_X9_checkState _) dX9_planSite_22 rfl rfl (ble' rfl) (by decide) (fun q => po_e 2 (by rw [cd_planSite, if_neg b2, if_neg b8, if_pos (by rw [cl_of hj (by omega)]; exact bI_z.mp q)]) rfl (seq_rf)) (fun b22 => ?_)
  refine aw_aload_n dX9_planSite_25 rfl ?_
  refine aw_get fl_X9_35 dX9_planSite_26 e_0 (l_0 hn) rfl ?_
  refine aw_aload_n dX9_planSite_29 rfl ?_
  refine aw_get fl_X9_10 dX9_planSite_30 e_0 (l_0 hn) rfl ?_
  refine aw_get fl_X9_128 dX9_planSite_33 e_1 (l_1 hn) rfl ?_
  refine aw_get fl_X9_171 dX9_planSite_36 e_15 (l_15 hn) rfl ?_
  refine aw_iload_n dX9_planSite_39 rfl ?_
  refine aw_ialdk dX9_planSite_40 e_16 (l_16 hn) hj (by omega) rfl ?_
  refine aw_iload_n dX9_planSite_41 rfl ?_
  refine ap_callVv kv_X9_251 ko_X3_make (show AMet tX3_make yX3_make [Cond.code yX3_make cX3_make 6 none] [.ref 58, .int (M 16 j), .int p] (wld G M) n (PD (.inl none) (wld G (plM M (planM M ns nb nz (M 16 j) p).1 (planM M ns nb nz (M 16 j) p).2.1 (planM M ns nb nz (M 16 j) p).2.2.1 (planM M ns nb nz (M 16 j) p).2.2.2)) n) from c_X3_make hn hb hbl hs hsl hz hzl (M 16 j) p) dX9_planSite_42 e_58 (l_58 hn) rfl rfl rfl rfl (ble' rfl) (by decide) ?_
  refine aw_aload_n dX9_planSite_45 rfl ?_
  refine aw_get fl_X9_35 dX9_planSite_46 e_0 (l_0 hn) rfl ?_
  refine aw_get fl_X9_254 dX9_planSite_49 e_58 (l_58 hn) rfl ?_
  refine aw_iload_n dX9_planSite_52 rfl ?_
  refine aw_ialdk dX9_planSite_53 e_59 (l_59 hn) hj (by omega) rfl ?_
  refine aw_iret rfl dX9_planSite_54 (ble' rfl) (ble' rfl) ?_
  exact po_i (by rw [cd_planSite, if_neg b2, if_neg b8, if_neg (fun q => q (by rw [cl_of hj (by omega)]; exact bI_nz.mp b22))]) (by rw [cl_of hj (by omega), ens, enb, enz]; rfl) (seq_pl seq_rf)

def cd_gapNights (M : Nat → Nat → Int32) (c p : Int32) : Nat := if (c < 0 ∨ M 2 3 ≤ c) then 1 else if (p < 0 ∨ 1 < p) then 2 else 0
set_option maxRecDepth 100000 in
set_option maxHeartbeats 4000000 in
theorem c_X9_gapNights {G : AG} {M : Nat → Nat → Int32} {n : Nat} (hn : 72 ≤ n) {nc ns nz nb nr t : Nat} (hI : CI M nc ns nz nb nr t)  (c p : Int32) : AMet tX9_gapNights yX9_gapNights [Cond.code yX9_gapNights cX9_gapNights 3 (some .int)] [.ref 0, .int c, .int p] (wld G M) n (PO ["java/lang/IndexOutOfBoundsException", "java/lang/IllegalArgumentException"] (cd_gapNights M c p) (some (.int (planM M (nsM M) (nbM M) (nzM M) c p).2.2.1)) G M M n) := by
  obtain ⟨hc, hcl, hs, hsl, hz, hzl, hb, hbl, hr, hrl, ht, htl⟩ := id hI
  have ens : nsM M = ns := cl_of hs (by omega)
  have enb : nbM M = nb := cl_of hb (by omega)
  have enz : nzM M = nz := cl_of hz (by omega)
  have enr : nrM M = nr := cl_of hr (by omega)
  have etm : tM M = t := cl_of ht (by omega)
  refine am_of (lo := [_, _, _]) (by decide) rfl (fun q => by cases q) rfl rfl rfl ?_
  refine aw_aload_n dX9_gapNights_0 rfl ?_
  refine aw_iload_n dX9_gapNights_1 rfl ?_
  refine ap_chkV kw_X9_80 kv_X9_80 ko_X9_checkClass (c_X9_checkClass hn _) dX9_gapNights_2 e_0 (l_0 hn) rfl rfl rfl rfl (ble' rfl) (by decide) (fun q => po_e 0 (by rw [cd_gapNights, if_pos q]) rfl (seq_rf)) (fun b2 => ?_)
  refine aw_iload_n dX9_gapNights_5 rfl ?_
  refine aw_iconst (v := 0) dX9_gapNights_6 (by decide) ?_
  refine aw_iconst (v := 1) dX9_gapNights_7 (by decide) ?_
  refine ap_chkS kw_X9_56 ks_X9_56 ko_X9_checkRange (c_X9_checkRange _ _ _) dX9_gapNights_8 rfl rfl (ble' rfl) (by decide) (fun q => po_e 1 (by rw [cd_gapNights, if_neg b2, if_pos q]) rfl (seq_rf)) (fun b8 => ?_)
  refine aw_aload_n dX9_gapNights_11 rfl ?_
  refine aw_get fl_X9_35 dX9_gapNights_12 e_0 (l_0 hn) rfl ?_
  refine aw_iload_n dX9_gapNights_15 rfl ?_
  refine aw_iload_n dX9_gapNights_16 rfl ?_
  refine ap_callVv kv_X9_251 ko_X3_make (show AMet tX3_make yX3_make [Cond.code yX3_make cX3_make 6 none] [.ref 58, .int c, .int p] (wld G M) n (PD (.inl none) (wld G (plM M (planM M ns nb nz c p).1 (planM M ns nb nz c p).2.1 (planM M ns nb nz c p).2.2.1 (planM M ns nb nz c p).2.2.2)) n) from c_X3_make hn hb hbl hs hsl hz hzl c p) dX9_gapNights_17 e_58 (l_58 hn) rfl rfl rfl rfl (ble' rfl) (by decide) ?_
  refine aw_aload_n dX9_gapNights_20 rfl ?_
  refine aw_get fl_X9_35 dX9_gapNights_21 e_0 (l_0 hn) rfl ?_
  refine aw_get fl_X9_255 dX9_gapNights_24 e_58 (l_58 hn) rfl ?_
  refine aw_iret rfl dX9_gapNights_27 (ble' rfl) (ble' rfl) ?_
  exact po_i (by rw [cd_gapNights, if_neg b2, if_neg b8]) (by rw [ens, enb, enz]; rfl) (seq_pl seq_rf)

def cd_orphanNights (M : Nat → Nat → Int32) (c p : Int32) : Nat := if (c < 0 ∨ M 2 3 ≤ c) then 1 else if (p < 0 ∨ 1 < p) then 2 else 0
set_option maxRecDepth 100000 in
set_option maxHeartbeats 4000000 in
theorem c_X9_orphanNights {G : AG} {M : Nat → Nat → Int32} {n : Nat} (hn : 72 ≤ n) {nc ns nz nb nr t : Nat} (hI : CI M nc ns nz nb nr t)  (c p : Int32) : AMet tX9_orphanNights yX9_orphanNights [Cond.code yX9_orphanNights cX9_orphanNights 3 (some .int)] [.ref 0, .int c, .int p] (wld G M) n (PO ["java/lang/IndexOutOfBoundsException", "java/lang/IllegalArgumentException"] (cd_orphanNights M c p) (some (.int (planM M (nsM M) (nbM M) (nzM M) c p).2.2.2)) G M M n) := by
  obtain ⟨hc, hcl, hs, hsl, hz, hzl, hb, hbl, hr, hrl, ht, htl⟩ := id hI
  have ens : nsM M = ns := cl_of hs (by omega)
  have enb : nbM M = nb := cl_of hb (by omega)
  have enz : nzM M = nz := cl_of hz (by omega)
  have enr : nrM M = nr := cl_of hr (by omega)
  have etm : tM M = t := cl_of ht (by omega)
  refine am_of (lo := [_, _, _]) (by decide) rfl (fun q => by cases q) rfl rfl rfl ?_
  refine aw_aload_n dX9_orphanNights_0 rfl ?_
  refine aw_iload_n dX9_orphanNights_1 rfl ?_
  refine ap_chkV kw_X9_80 kv_X9_80 ko_X9_checkClass (c_X9_checkClass hn _) dX9_orphanNights_2 e_0 (l_0 hn) rfl rfl rfl rfl (ble' rfl) (by decide) (fun q => po_e 0 (by rw [cd_orphanNights, if_pos q]) rfl (seq_rf)) (fun b2 => ?_)
  refine aw_iload_n dX9_orphanNights_5 rfl ?_
  refine aw_iconst (v := 0) dX9_orphanNights_6 (by decide) ?_
  refine aw_iconst (v := 1) dX9_orphanNights_7 (by decide) ?_
  refine ap_chkS kw_X9_56 ks_X9_56 ko_X9_checkRange (c_X9_checkRange _ _ _) dX9_orphanNights_8 rfl rfl (ble' rfl) (by decide) (fun q => po_e 1 (by rw [cd_orphanNights, if_neg b2, if_pos q]) rfl (seq_rf)) (fun b8 => ?_)
  refine aw_aload_n dX9_orphanNights_11 rfl ?_
  refine aw_get fl_X9_35 dX9_orphanNights_12 e_0 (l_0 hn) rfl ?_
  refine aw_iload_n dX9_orphanNights_15 rfl ?_
  refine aw_iload_n dX9_orphanNights_16 rfl ?_
  refine ap_callVv kv_X9_251 ko_X3_make (show AMet tX3_make yX3_make [Cond.code yX3_make cX3_make 6 none] [.ref 58, .int c, .int p] (wld G M) n (PD (.inl none) (wld G (plM M (planM M ns nb nz c p).1 (planM M ns nb nz c p).2.1 (planM M ns nb nz c p).2.2.1 (planM M ns nb nz c p).2.2.2)) n) from c_X3_make hn hb hbl hs hsl hz hzl c p) dX9_orphanNights_17 e_58 (l_58 hn) rfl rfl rfl rfl (ble' rfl) (by decide) ?_
  refine aw_aload_n dX9_orphanNights_20 rfl ?_
  refine aw_get fl_X9_35 dX9_orphanNights_21 e_0 (l_0 hn) rfl ?_
  refine aw_get fl_X9_258 dX9_orphanNights_24 e_58 (l_58 hn) rfl ?_
  refine aw_iret rfl dX9_orphanNights_27 (ble' rfl) (ble' rfl) ?_
  exact po_i (by rw [cd_orphanNights, if_neg b2, if_neg b8]) (by rw [ens, enb, enz]; rfl) (seq_pl seq_rf)

def gcdN : Nat → Int32 → Int32 → Int32
  | 0, a, _ => a
  | f + 1, a, b => if b = 0 then a else gcdN f b (a - a / b * b)
set_option maxRecDepth 100000 in
set_option maxHeartbeats 4000000 in
theorem lp_X9_commonDivisor {h : Nat → AE} {n : Nat} (a b : Int32) : ∀ (j i : Nat) (x2 x3 x4 : Int32), i < j → i ≤ 64 → x4 = nI (64 - i) → gcdN 64 a b = gcdN i x2 x3 →  AW tX9_commonDivisor (AQm tX9_commonDivisor (PD (.inl (some (.int (gcdN 64 a b)))) h n)) C0 7 [some (.int a), some (.int b), some (.int x2), some (.int x3), some (.int x4), none] [] h n 0 0 := by
  intro j
  induction j with
  | zero => intro i x2 x3 x4 h1; omega
  | succ j ih =>
    intro i x2 x3 x4 h1 hi h4 hv
    refine aw_iload dX9_commonDivisor_7 rfl ?_
    refine aw_bipush (v := 64) dX9_commonDivisor_9 (by decide) ?_
    refine aw_icmp_ge 34 dX9_commonDivisor_11 (by decide) (fun c11 => ?_) (fun c11 => ?_)
    · have n11 := Int32.not_lt.mpr c11
      refine aw_iload_n dX9_commonDivisor_34 rfl ?_
      refine aw_iret rfl dX9_commonDivisor_35 (ble' rfl) (ble' rfl) ?_
      have h0 : i = 0 := by have := le_of_le (show (64 : Int32) = nI 64 from rfl) h4 (by decide) (by omega) c11; omega
      subst h0
      exact pd_i (by rw [hv]; rfl)
    · have n11 := Int32.not_le.mp c11
      cases i with
      | zero => exact absurd (by rw [h4]; decide) c11
      | succ k =>
        refine aw_iload_n dX9_commonDivisor_14 rfl ?_
        refine aw_if_eq 34 dX9_commonDivisor_15 (by decide) (fun c15 => ?_) (fun c15 => ?_)
        · refine aw_iload_n dX9_commonDivisor_34 rfl ?_
          refine aw_iret rfl dX9_commonDivisor_35 (ble' rfl) (ble' rfl) ?_
          exact pd_i (by rw [hv, gcdN, if_pos c15])
        · refine aw_iload_n dX9_commonDivisor_18 rfl ?_
          refine aw_iload_n dX9_commonDivisor_19 rfl ?_
          refine aw_irem dX9_commonDivisor_20 c15 ?_
          refine aw_istore (lo' := [_, _, _, _, _, some (.int _)]) dX9_commonDivisor_21 (by decide) rfl ?_
          refine aw_iload_n dX9_commonDivisor_23 rfl ?_
          refine aw_istore_n (lo' := [_, _, some (.int _), _, _, _]) dX9_commonDivisor_24 (by decide) rfl ?_
          refine aw_iload dX9_commonDivisor_25 rfl ?_
          refine aw_istore_n (lo' := [_, _, _, some (.int _), _, _]) dX9_commonDivisor_27 (by decide) rfl ?_
          refine aw_iinc (lo' := [_, _, _, _, some (.int _), _]) dX9_commonDivisor_28 rfl (by decide) rfl ?_
          refine aw_goto 7 dX9_commonDivisor_31 (by decide) ?_
          refine aw_lo2 (lo' := [some (.int _), some (.int _), some (.int _), some (.int _), some (.int _), none]) ⟨rfl, rfl, rfl, rfl, rfl, trivial⟩ ?_
          exact ih k _ _ _ (by omega) (by omega) (by rw [h4, show 64 - k = (64 - (k + 1)) + 1 by omega]; exact inc1 _) (by rw [hv, gcdN, if_neg c15])

set_option maxRecDepth 100000 in
set_option maxHeartbeats 4000000 in
theorem c_X9_commonDivisor {h : Nat → AE} {n : Nat} (a b : Int32) : AMet tX9_commonDivisor yX9_commonDivisor [Cond.code yX9_commonDivisor cX9_commonDivisor 6 (some .int)] [.int a, .int b] h n (PD (.inl (some (.int (gcdN 64 a b)))) h n) := by
  refine am_of (lo := [_, _, _, _, _, _]) (by decide) rfl (fun q => by cases q) rfl rfl rfl ?_
  refine aw_iload_n dX9_commonDivisor_0 rfl ?_
  refine aw_istore_n (lo' := [_, _, some (.int _), _, _, _]) dX9_commonDivisor_1 (by decide) rfl ?_
  refine aw_iload_n dX9_commonDivisor_2 rfl ?_
  refine aw_istore_n (lo' := [_, _, _, some (.int _), _, _]) dX9_commonDivisor_3 (by decide) rfl ?_
  refine aw_iconst (v := 0) dX9_commonDivisor_4 (by decide) ?_
  refine aw_istore (lo' := [_, _, _, _, some (.int _), _]) dX9_commonDivisor_5 (by decide) rfl ?_
  exact lp_X9_commonDivisor a b 65 64 _ _ _ (by omega) (by omega) rfl rfl

/-- the sums of the taken ones and of the sites over the nights from a to b -/
def tkS (M : Nat → Nat → Int32) (c : Int32) (a b : Nat) : Int32 := psum (fun d => nI (cnt (tkB (M 16) (M 17) (M 18) (M 20) c d) (nbM M))) a (b + 1 - a)
def cpS (M : Nat → Nat → Int32) (c : Int32) (a b : Nat) : Int32 := psum (fun d => capF (M 1 5) (nI (cnt (opB (M 7) (M 8) c d) (nsM M))) d) a (b + 1 - a)
def cd_occupancyNumerator (M : Nat → Nat → Int32) (c f l : Int32) : Nat := if (c < 0 ∨ M 2 3 ≤ c) then 1 else if ((f < M 1 5 ∨ 998 < f) ∨ (l < f ∨ 998 < l)) then 2 else 0
set_option maxRecDepth 100000 in
set_option maxHeartbeats 4000000 in
theorem c_X9_occupancyNumerator {G : AG} {M : Nat → Nat → Int32} {n : Nat} (hn : 72 ≤ n) {nc ns nz nb nr t : Nat} (hI : CI M nc ns nz nb nr t)  (c f l : Int32) : AMet tX9_occupancyNumerator yX9_occupancyNumerator [Cond.code yX9_occupancyNumerator cX9_occupancyNumerator 6 (some .int)] [.ref 0, .int c, .int f, .int l] (wld G M) n (PO ["java/lang/IndexOutOfBoundsException", "java/lang/IllegalArgumentException"] (cd_occupancyNumerator M c f l) (some (.int (if (tkS M c f.toNatClampNeg l.toNatClampNeg) = 0 ∨ gcdN 64 (tkS M c f.toNatClampNeg l.toNatClampNeg) (cpS M c f.toNatClampNeg l.toNatClampNeg) = 0 then 0 else (tkS M c f.toNatClampNeg l.toNatClampNeg) / gcdN 64 (tkS M c f.toNatClampNeg l.toNatClampNeg) (cpS M c f.toNatClampNeg l.toNatClampNeg)))) G M M n) := by
  obtain ⟨hc, hcl, hs, hsl, hz, hzl, hb, hbl, hr, hrl, ht, htl⟩ := id hI
  have ens : nsM M = ns := cl_of hs (by omega)
  have enb : nbM M = nb := cl_of hb (by omega)
  have enz : nzM M = nz := cl_of hz (by omega)
  have enr : nrM M = nr := cl_of hr (by omega)
  have etm : tM M = t := cl_of ht (by omega)
  refine am_of (lo := [_, _, _, _, _, _]) (by decide) rfl (fun q => by cases q) rfl rfl rfl ?_
  refine aw_aload_n dX9_occupancyNumerator_0 rfl ?_
  refine aw_iload_n dX9_occupancyNumerator_1 rfl ?_
  refine ap_chkV kw_X9_80 kv_X9_80 ko_X9_checkClass (c_X9_checkClass hn _) dX9_occupancyNumerator_2 e_0 (l_0 hn) rfl rfl rfl rfl (ble' rfl) (by decide) (fun q => po_e 0 (by rw [cd_occupancyNumerator, if_pos q]) rfl (seq_rf)) (fun b2 => ?_)
  refine aw_aload_n dX9_occupancyNumerator_5 rfl ?_
  refine aw_iload_n dX9_occupancyNumerator_6 rfl ?_
  refine aw_iload_n dX9_occupancyNumerator_7 rfl ?_
  refine ap_chkV kw_X9_261 kv_X9_261 ko_X9_checkNights (c_X9_checkNights hn _ _) dX9_occupancyNumerator_8 e_0 (l_0 hn) rfl rfl rfl rfl (ble' rfl) (by decide) (fun q => po_e 1 (by rw [cd_occupancyNumerator, if_neg b2, if_pos q]) rfl (seq_rf)) (fun b8 => ?_)
  obtain ⟨d, htd, hd9, hd⟩ := ck_rng ht (show (998 : Int32) = nI 998 from rfl) (by omega) (by decide) (fun q => b8 (Or.inl q))
  obtain ⟨e, hde, he9, he⟩ := ck_rng hd (show (998 : Int32) = nI 998 from rfl) (by omega) (by decide) (fun q => b8 (Or.inr q))
  have et : tkS M c f.toNatClampNeg l.toNatClampNeg = psum (fun d => (nI (cnt (tkB (M 16) (M 17) (M 18) (M 20) c d) nb))) d (e + 1 - d) := by rw [tkS, enb, cl_of hd (by omega), cl_of he (by omega)]
  have ec : cpS M c f.toNatClampNeg l.toNatClampNeg = psum (fun d => (capF (M 1 5) (nI (cnt (opB (M 7) (M 8) c d) ns)) d)) d (e + 1 - d) := by rw [cpS, ens, cl_of hd (by omega), cl_of he (by omega)]
  refine aw_aload_n dX9_occupancyNumerator_11 rfl ?_
  refine aw_get fl_X9_10 dX9_occupancyNumerator_12 e_0 (l_0 hn) rfl ?_
  refine aw_iload_n dX9_occupancyNumerator_15 rfl ?_
  refine aw_iload_n dX9_occupancyNumerator_16 rfl ?_
  refine aw_iload_n dX9_occupancyNumerator_17 rfl ?_
  refine ap_callVi kv_X9_264 ko_X1_takenInAll (c_X1_takenInAll hn hb hbl c (by omega) (by omega) hd he) dX9_occupancyNumerator_18 e_1 (l_1 hn) rfl rfl rfl rfl (ble' rfl) (by decide) ?_
  refine aw_istore (lo' := [_, _, _, _, some (.int _), _]) dX9_occupancyNumerator_21 (by decide) rfl ?_
  refine aw_iload dX9_occupancyNumerator_23 rfl ?_
  refine aw_aload_n dX9_occupancyNumerator_25 rfl ?_
  refine aw_get fl_X9_10 dX9_occupancyNumerator_26 e_0 (l_0 hn) rfl ?_
  refine aw_iload_n dX9_occupancyNumerator_29 rfl ?_
  refine aw_iload_n dX9_occupancyNumerator_30 rfl ?_
  refine aw_iload_n dX9_occupancyNumerator_31 rfl ?_
  refine ap_callVi kv_X9_267 ko_X1_capacityInAll (c_X1_capacityInAll hn hs hsl c (by omega) (by omega) hd he) dX9_occupancyNumerator_32 e_1 (l_1 hn) rfl rfl rfl rfl (ble' rfl) (by decide) ?_
  refine ap_callSi ks_X9_270 ko_X9_commonDivisor (c_X9_commonDivisor _ _) dX9_occupancyNumerator_35 rfl rfl (ble' rfl) (by decide) ?_
  refine aw_istore (lo' := [_, _, _, _, _, some (.int _)]) dX9_occupancyNumerator_38 (by decide) rfl ?_
  refine aw_iload dX9_occupancyNumerator_40 rfl ?_
  refine aw_if_eq 50 dX9_occupancyNumerator_42 (by decide) (fun c42 => ?_) (fun c42 => ?_)
  · refine aw_iconst (v := 0) dX9_occupancyNumerator_50 (by decide) ?_
    refine aw_goto 59 dX9_occupancyNumerator_51 (by decide) ?_
    refine aw_iret rfl dX9_occupancyNumerator_59 (ble' rfl) (ble' rfl) ?_
    exact po_i (by rw [cd_occupancyNumerator, if_neg b2, if_neg b8]) (by rw [if_pos (Or.inl (by rw [et]; exact c42))]) seq_rf
  · refine aw_iload dX9_occupancyNumerator_45 rfl ?_
    refine aw_if_ne 54 dX9_occupancyNumerator_47 (by decide) (fun c47 => ?_) (fun c47 => ?_)
    · refine aw_iload dX9_occupancyNumerator_54 rfl ?_
      refine aw_iload dX9_occupancyNumerator_56 rfl ?_
      refine aw_idiv dX9_occupancyNumerator_58 c47 ?_
      refine aw_iret rfl dX9_occupancyNumerator_59 (ble' rfl) (ble' rfl) ?_
      exact po_i (by rw [cd_occupancyNumerator, if_neg b2, if_neg b8]) (by rw [if_neg (by rintro (q | q); exact c42 (by rw [et] at q; exact q); exact c47 (by rw [et, ec] at q; exact q)), et, ec]) seq_rf
    · refine aw_iconst (v := 0) dX9_occupancyNumerator_50 (by decide) ?_
      refine aw_goto 59 dX9_occupancyNumerator_51 (by decide) ?_
      refine aw_iret rfl dX9_occupancyNumerator_59 (ble' rfl) (ble' rfl) ?_
      exact po_i (by rw [cd_occupancyNumerator, if_neg b2, if_neg b8]) (by rw [if_pos (Or.inr (by rw [et, ec]; exact c47))]) seq_rf

def cd_occupancyDenominator (M : Nat → Nat → Int32) (c f l : Int32) : Nat := if (c < 0 ∨ M 2 3 ≤ c) then 1 else if ((f < M 1 5 ∨ 998 < f) ∨ (l < f ∨ 998 < l)) then 2 else 0
set_option maxRecDepth 100000 in
set_option maxHeartbeats 4000000 in
theorem c_X9_occupancyDenominator {G : AG} {M : Nat → Nat → Int32} {n : Nat} (hn : 72 ≤ n) {nc ns nz nb nr t : Nat} (hI : CI M nc ns nz nb nr t)  (c f l : Int32) : AMet tX9_occupancyDenominator yX9_occupancyDenominator [Cond.code yX9_occupancyDenominator cX9_occupancyDenominator 7 (some .int)] [.ref 0, .int c, .int f, .int l] (wld G M) n (PO ["java/lang/IndexOutOfBoundsException", "java/lang/IllegalArgumentException"] (cd_occupancyDenominator M c f l) (some (.int (if (tkS M c f.toNatClampNeg l.toNatClampNeg) = 0 ∨ gcdN 64 (tkS M c f.toNatClampNeg l.toNatClampNeg) (cpS M c f.toNatClampNeg l.toNatClampNeg) = 0 then 1 else (cpS M c f.toNatClampNeg l.toNatClampNeg) / gcdN 64 (tkS M c f.toNatClampNeg l.toNatClampNeg) (cpS M c f.toNatClampNeg l.toNatClampNeg)))) G M M n) := by
  obtain ⟨hc, hcl, hs, hsl, hz, hzl, hb, hbl, hr, hrl, ht, htl⟩ := id hI
  have ens : nsM M = ns := cl_of hs (by omega)
  have enb : nbM M = nb := cl_of hb (by omega)
  have enz : nzM M = nz := cl_of hz (by omega)
  have enr : nrM M = nr := cl_of hr (by omega)
  have etm : tM M = t := cl_of ht (by omega)
  refine am_of (lo := [_, _, _, _, _, _, _]) (by decide) rfl (fun q => by cases q) rfl rfl rfl ?_
  refine aw_aload_n dX9_occupancyDenominator_0 rfl ?_
  refine aw_iload_n dX9_occupancyDenominator_1 rfl ?_
  refine ap_chkV kw_X9_80 kv_X9_80 ko_X9_checkClass (c_X9_checkClass hn _) dX9_occupancyDenominator_2 e_0 (l_0 hn) rfl rfl rfl rfl (ble' rfl) (by decide) (fun q => po_e 0 (by rw [cd_occupancyDenominator, if_pos q]) rfl (seq_rf)) (fun b2 => ?_)
  refine aw_aload_n dX9_occupancyDenominator_5 rfl ?_
  refine aw_iload_n dX9_occupancyDenominator_6 rfl ?_
  refine aw_iload_n dX9_occupancyDenominator_7 rfl ?_
  refine ap_chkV kw_X9_261 kv_X9_261 ko_X9_checkNights (c_X9_checkNights hn _ _) dX9_occupancyDenominator_8 e_0 (l_0 hn) rfl rfl rfl rfl (ble' rfl) (by decide) (fun q => po_e 1 (by rw [cd_occupancyDenominator, if_neg b2, if_pos q]) rfl (seq_rf)) (fun b8 => ?_)
  obtain ⟨d, htd, hd9, hd⟩ := ck_rng ht (show (998 : Int32) = nI 998 from rfl) (by omega) (by decide) (fun q => b8 (Or.inl q))
  obtain ⟨e, hde, he9, he⟩ := ck_rng hd (show (998 : Int32) = nI 998 from rfl) (by omega) (by decide) (fun q => b8 (Or.inr q))
  have et : tkS M c f.toNatClampNeg l.toNatClampNeg = psum (fun d => (nI (cnt (tkB (M 16) (M 17) (M 18) (M 20) c d) nb))) d (e + 1 - d) := by rw [tkS, enb, cl_of hd (by omega), cl_of he (by omega)]
  have ec : cpS M c f.toNatClampNeg l.toNatClampNeg = psum (fun d => (capF (M 1 5) (nI (cnt (opB (M 7) (M 8) c d) ns)) d)) d (e + 1 - d) := by rw [cpS, ens, cl_of hd (by omega), cl_of he (by omega)]
  refine aw_aload_n dX9_occupancyDenominator_11 rfl ?_
  refine aw_get fl_X9_10 dX9_occupancyDenominator_12 e_0 (l_0 hn) rfl ?_
  refine aw_iload_n dX9_occupancyDenominator_15 rfl ?_
  refine aw_iload_n dX9_occupancyDenominator_16 rfl ?_
  refine aw_iload_n dX9_occupancyDenominator_17 rfl ?_
  refine ap_callVi kv_X9_264 ko_X1_takenInAll (c_X1_takenInAll hn hb hbl c (by omega) (by omega) hd he) dX9_occupancyDenominator_18 e_1 (l_1 hn) rfl rfl rfl rfl (ble' rfl) (by decide) ?_
  refine aw_istore (lo' := [_, _, _, _, some (.int _), _, _]) dX9_occupancyDenominator_21 (by decide) rfl ?_
  refine aw_aload_n dX9_occupancyDenominator_23 rfl ?_
  refine aw_get fl_X9_10 dX9_occupancyDenominator_24 e_0 (l_0 hn) rfl ?_
  refine aw_iload_n dX9_occupancyDenominator_27 rfl ?_
  refine aw_iload_n dX9_occupancyDenominator_28 rfl ?_
  refine aw_iload_n dX9_occupancyDenominator_29 rfl ?_
  refine ap_callVi kv_X9_267 ko_X1_capacityInAll (c_X1_capacityInAll hn hs hsl c (by omega) (by omega) hd he) dX9_occupancyDenominator_30 e_1 (l_1 hn) rfl rfl rfl rfl (ble' rfl) (by decide) ?_
  refine aw_istore (lo' := [_, _, _, _, _, some (.int _), _]) dX9_occupancyDenominator_33 (by decide) rfl ?_
  refine aw_iload dX9_occupancyDenominator_35 rfl ?_
  refine aw_iload dX9_occupancyDenominator_37 rfl ?_
  refine ap_callSi ks_X9_270 ko_X9_commonDivisor (c_X9_commonDivisor _ _) dX9_occupancyDenominator_39 rfl rfl (ble' rfl) (by decide) ?_
  refine aw_istore (lo' := [_, _, _, _, _, _, some (.int _)]) dX9_occupancyDenominator_42 (by decide) rfl ?_
  refine aw_iload dX9_occupancyDenominator_44 rfl ?_
  refine aw_if_eq 54 dX9_occupancyDenominator_46 (by decide) (fun c46 => ?_) (fun c46 => ?_)
  · refine aw_iconst (v := 1) dX9_occupancyDenominator_54 (by decide) ?_
    refine aw_goto 63 dX9_occupancyDenominator_55 (by decide) ?_
    refine aw_iret rfl dX9_occupancyDenominator_63 (ble' rfl) (ble' rfl) ?_
    exact po_i (by rw [cd_occupancyDenominator, if_neg b2, if_neg b8]) (by rw [if_pos (Or.inl (by rw [et]; exact c46))]) seq_rf
  · refine aw_iload dX9_occupancyDenominator_49 rfl ?_
    refine aw_if_ne 58 dX9_occupancyDenominator_51 (by decide) (fun c51 => ?_) (fun c51 => ?_)
    · refine aw_iload dX9_occupancyDenominator_58 rfl ?_
      refine aw_iload dX9_occupancyDenominator_60 rfl ?_
      refine aw_idiv dX9_occupancyDenominator_62 c51 ?_
      refine aw_iret rfl dX9_occupancyDenominator_63 (ble' rfl) (ble' rfl) ?_
      exact po_i (by rw [cd_occupancyDenominator, if_neg b2, if_neg b8]) (by rw [if_neg (by rintro (q | q); exact c46 (by rw [et] at q; exact q); exact c51 (by rw [et, ec] at q; exact q)), et, ec]) seq_rf
    · refine aw_iconst (v := 1) dX9_occupancyDenominator_54 (by decide) ?_
      refine aw_goto 63 dX9_occupancyDenominator_55 (by decide) ?_
      refine aw_iret rfl dX9_occupancyDenominator_63 (ble' rfl) (ble' rfl) ?_
      exact po_i (by rw [cd_occupancyDenominator, if_neg b2, if_neg b8]) (by rw [if_pos (Or.inr (by rw [et, ec]; exact c51))]) seq_rf

def cd_truncateText (M : Nat → Nat → Int32) (l : Int32) : Nat := if (l < 0 ∨ M 0 7 < l) then 1 else 0
set_option maxRecDepth 100000 in
set_option maxHeartbeats 4000000 in
theorem c_X9_truncateText {G : AG} {M : Nat → Nat → Int32} {n : Nat} (hn : 72 ≤ n)   (l : Int32) : AMet tX9_truncateText yX9_truncateText [Cond.code yX9_truncateText cX9_truncateText 2 (some .int)] [.ref 0, .int l] (wld G M) n (PO ["java/lang/IllegalArgumentException"] (cd_truncateText M l) (some (.int l)) G M (updM M 0 (upd (M 0) 7 l)) n) := by
  refine am_of (lo := [_, _]) (by decide) rfl (fun q => by cases q) rfl rfl rfl ?_
  refine aw_iload_n dX9_truncateText_0 rfl ?_
  refine aw_iconst (v := 0) dX9_truncateText_1 (by decide) ?_
  refine aw_aload_n dX9_truncateText_2 rfl ?_
  refine aw_get fl_X9_52 dX9_truncateText_3 e_0 (l_0 hn) rfl ?_
  refine ap_chkS kw_X9_56 ks_X9_56 ko_X9_checkRange (c_X9_checkRange _ _ _) dX9_truncateText_6 rfl rfl (ble' rfl) (by decide) (fun q => po_e 0 (by rw [cd_truncateText, if_pos q]) rfl (seq_rf)) (fun b6 => ?_)
  refine aw_aload_n dX9_truncateText_9 rfl ?_
  refine aw_iload_n dX9_truncateText_10 rfl ?_
  refine aw_put fp_X9_52_m dX9_truncateText_11 e_0 (l_0 hn) (ble' rfl) (fun _ => ⟨rfl, rfl⟩) (hwf rfl) ?_
  refine aw_iload_n dX9_truncateText_14 rfl ?_
  refine aw_iret rfl dX9_truncateText_15 (ble' rfl) (ble' rfl) ?_
  exact po_i (by rw [cd_truncateText, if_neg b6]) (rfl) (seq_rf)

/-- four bytes more -/
def apM (M : Nat → Nat → Int32) (k : Nat) (f : Int32) : Nat → Nat → Int32 := updM (updM M 61 (upd (upd (upd (upd (M 61) k (vp_nar .byte (f >>> (24 &&& 31)).toInt8.toInt32)) (k + 1) (vp_nar .byte (f >>> ((24 + Int32.ofInt (-8)) &&& 31)).toInt8.toInt32)) (k + 2) (vp_nar .byte (f >>> ((24 + Int32.ofInt (-8) + Int32.ofInt (-8)) &&& 31)).toInt8.toInt32)) (k + 3) (vp_nar .byte (f >>> ((24 + Int32.ofInt (-8) + Int32.ofInt (-8) + Int32.ofInt (-8)) &&& 31)).toInt8.toInt32))) 0 (upd (M 0) 7 (nI (k + 4)))
def cd_appendText (M : Nat → Nat → Int32) (f : Int32) : Nat := if 496 < M 0 7 then 1 else 0
set_option maxRecDepth 100000 in
set_option maxHeartbeats 4000000 in
theorem c_X9_appendText {G : AG} {M : Nat → Nat → Int32} {n : Nat} (hn : 72 ≤ n)  {k : Nat} (hk : M 0 7 = nI k) (hk5 : k ≤ 500) (f : Int32) : AMet tX9_appendText yX9_appendText [Cond.code yX9_appendText cX9_appendText 3 (some .int)] [.ref 0, .int f] (wld G M) n (PO ["java/lang/IllegalStateException"] (cd_appendText M f) (some (.int (nI (k + 4)))) G M (apM M k f) n) := by
  refine am_of (lo := [_, _, _]) (by decide) rfl (fun q => by cases q) rfl rfl rfl ?_
  refine aw_aload_n dX9_appendText_0 rfl ?_
  refine aw_get fl_X9_52 dX9_appendText_1 e_0 (l_0 hn) rfl ?_
  refine aw_sipush (v := 496) dX9_appendText_4 (by decide) ?_
  refine aw_icmp_le 21 dX9_appendText_7 (by decide) (fun c7 => ?_) (fun c7 => ?_)
  · have n7 := Int32.not_lt.mpr c7
    have h496 : k ≤ 496 := le_of_le hk (show (496 : Int32) = nI 496 from rfl) (by omega) (by decide) c7
    have q0 : (M 0 7) = nI k := hk
    have q1 : (M 0 7) + 1 = nI (k + 1) := by rw [hk]; exact nI_1 k
    have q2 : (M 0 7) + 1 + 1 = nI (k + 2) := by rw [q1]; exact nI_1 (k + 1)
    have q3 : (M 0 7) + 1 + 1 + 1 = nI (k + 3) := by rw [q2]; exact nI_1 (k + 2)
    have q4 : (M 0 7) + 1 + 1 + 1 + 1 = nI (k + 4) := by rw [q3]; exact nI_1 (k + 3)
    refine aw_bipush (v := 24) dX9_appendText_21 (by decide) ?_
    refine aw_istore_n (lo' := [_, _, some (.int _)]) dX9_appendText_23 (by decide) rfl ?_
    refine aw_iload_n dX9_appendText_24 rfl ?_
    refine aw_if_lt 57 dX9_appendText_25 (by decide) (fun q => absurd q (by decide)) (fun _ => ?_)
    refine aw_aload_n dX9_appendText_28 rfl ?_
    refine aw_get fl_X9_39 dX9_appendText_29 e_0 (l_0 hn) rfl ?_
    refine aw_aload_n dX9_appendText_32 rfl ?_
    refine aw_get fl_X9_52 dX9_appendText_33 e_0 (l_0 hn) rfl ?_
    refine aw_iload_n dX9_appendText_36 rfl ?_
    refine aw_iload_n dX9_appendText_37 rfl ?_
    refine aw_ishr dX9_appendText_38 ?_
    refine aw_i2b dX9_appendText_39 ?_
    refine aw_bastk dX9_appendText_40 e_61 (l_61 hn) q0 (by omega) rfl (hwa rfl) ?_
    refine aw_aload_n dX9_appendText_41 rfl ?_
    refine aw_dup dX9_appendText_42 rfl ?_
    refine aw_get fl_X9_52 dX9_appendText_43 e_0 (l_0 hn) rfl ?_
    refine aw_iconst (v := 1) dX9_appendText_46 (by decide) ?_
    refine aw_iadd dX9_appendText_47 ?_
    refine aw_put fp_X9_52_m dX9_appendText_48 e_0 (l_0 hn) (ble' rfl) (fun _ => ⟨rfl, rfl⟩) (hwf rfl) ?_
    refine aw_iinc (lo' := [_, _, some (.int _)]) dX9_appendText_51 rfl (by decide) rfl ?_
    refine aw_goto 24 dX9_appendText_54 (by decide) ?_
    refine aw_iload_n dX9_appendText_24 rfl ?_
    refine aw_if_lt 57 dX9_appendText_25 (by decide) (fun q => absurd q (by decide)) (fun _ => ?_)
    refine aw_aload_n dX9_appendText_28 rfl ?_
    refine aw_get fl_X9_39 dX9_appendText_29 e_0 (l_0 hn) rfl ?_
    refine aw_aload_n dX9_appendText_32 rfl ?_
    refine aw_get fl_X9_52 dX9_appendText_33 e_0 (l_0 hn) rfl ?_
    refine aw_iload_n dX9_appendText_36 rfl ?_
    refine aw_iload_n dX9_appendText_37 rfl ?_
    refine aw_ishr dX9_appendText_38 ?_
    refine aw_i2b dX9_appendText_39 ?_
    refine aw_bastk dX9_appendText_40 e_61 (l_61 hn) q1 (by omega) rfl (hwa rfl) ?_
    refine aw_aload_n dX9_appendText_41 rfl ?_
    refine aw_dup dX9_appendText_42 rfl ?_
    refine aw_get fl_X9_52 dX9_appendText_43 e_0 (l_0 hn) rfl ?_
    refine aw_iconst (v := 1) dX9_appendText_46 (by decide) ?_
    refine aw_iadd dX9_appendText_47 ?_
    refine aw_put fp_X9_52_m dX9_appendText_48 e_0 (l_0 hn) (ble' rfl) (fun _ => ⟨rfl, rfl⟩) (hwf rfl) ?_
    refine aw_iinc (lo' := [_, _, some (.int _)]) dX9_appendText_51 rfl (by decide) rfl ?_
    refine aw_goto 24 dX9_appendText_54 (by decide) ?_
    refine aw_iload_n dX9_appendText_24 rfl ?_
    refine aw_if_lt 57 dX9_appendText_25 (by decide) (fun q => absurd q (by decide)) (fun _ => ?_)
    refine aw_aload_n dX9_appendText_28 rfl ?_
    refine aw_get fl_X9_39 dX9_appendText_29 e_0 (l_0 hn) rfl ?_
    refine aw_aload_n dX9_appendText_32 rfl ?_
    refine aw_get fl_X9_52 dX9_appendText_33 e_0 (l_0 hn) rfl ?_
    refine aw_iload_n dX9_appendText_36 rfl ?_
    refine aw_iload_n dX9_appendText_37 rfl ?_
    refine aw_ishr dX9_appendText_38 ?_
    refine aw_i2b dX9_appendText_39 ?_
    refine aw_bastk dX9_appendText_40 e_61 (l_61 hn) q2 (by omega) rfl (hwa rfl) ?_
    refine aw_aload_n dX9_appendText_41 rfl ?_
    refine aw_dup dX9_appendText_42 rfl ?_
    refine aw_get fl_X9_52 dX9_appendText_43 e_0 (l_0 hn) rfl ?_
    refine aw_iconst (v := 1) dX9_appendText_46 (by decide) ?_
    refine aw_iadd dX9_appendText_47 ?_
    refine aw_put fp_X9_52_m dX9_appendText_48 e_0 (l_0 hn) (ble' rfl) (fun _ => ⟨rfl, rfl⟩) (hwf rfl) ?_
    refine aw_iinc (lo' := [_, _, some (.int _)]) dX9_appendText_51 rfl (by decide) rfl ?_
    refine aw_goto 24 dX9_appendText_54 (by decide) ?_
    refine aw_iload_n dX9_appendText_24 rfl ?_
    refine aw_if_lt 57 dX9_appendText_25 (by decide) (fun q => absurd q (by decide)) (fun _ => ?_)
    refine aw_aload_n dX9_appendText_28 rfl ?_
    refine aw_get fl_X9_39 dX9_appendText_29 e_0 (l_0 hn) rfl ?_
    refine aw_aload_n dX9_appendText_32 rfl ?_
    refine aw_get fl_X9_52 dX9_appendText_33 e_0 (l_0 hn) rfl ?_
    refine aw_iload_n dX9_appendText_36 rfl ?_
    refine aw_iload_n dX9_appendText_37 rfl ?_
    refine aw_ishr dX9_appendText_38 ?_
    refine aw_i2b dX9_appendText_39 ?_
    refine aw_bastk dX9_appendText_40 e_61 (l_61 hn) q3 (by omega) rfl (hwa rfl) ?_
    refine aw_aload_n dX9_appendText_41 rfl ?_
    refine aw_dup dX9_appendText_42 rfl ?_
    refine aw_get fl_X9_52 dX9_appendText_43 e_0 (l_0 hn) rfl ?_
    refine aw_iconst (v := 1) dX9_appendText_46 (by decide) ?_
    refine aw_iadd dX9_appendText_47 ?_
    refine aw_put fp_X9_52_m dX9_appendText_48 e_0 (l_0 hn) (ble' rfl) (fun _ => ⟨rfl, rfl⟩) (hwf rfl) ?_
    refine aw_iinc (lo' := [_, _, some (.int _)]) dX9_appendText_51 rfl (by decide) rfl ?_
    refine aw_goto 24 dX9_appendText_54 (by decide) ?_
    refine aw_iload_n dX9_appendText_24 rfl ?_
    refine aw_if_lt 57 dX9_appendText_25 (by decide) (fun _ => ?_) (fun q => absurd q (by decide))
    refine aw_aload_n dX9_appendText_57 rfl ?_
    refine aw_get fl_X9_52 dX9_appendText_58 e_0 (l_0 hn) rfl ?_
    refine aw_iret rfl dX9_appendText_61 (ble' rfl) (ble' rfl) ?_
    refine po_i (by rw [cd_appendText, if_neg n7]) q4 (fun i hi => ?_)
    by_cases h0 : i = 0
    · subst h0; rw [apM, ← q4]; funext j; by_cases hj : j = 7 <;> simp [updM, upd, hj]
    · by_cases h1 : i = 61
      · subst h1; rfl
      · simp [apM, updM, h0, h1]
  · have n7 := Int32.not_le.mp c7
    refine aw_throwSW tx_282 dX9_appendText_10 dX9_appendText_13 dX9_appendText_14 dX9_appendText_17 dX9_appendText_20 ⟨by decide, ble' rfl, by decide, by decide⟩ ?_
    exact po_e 0 (by rw [cd_appendText, if_pos n7]) rfl (seq_rf)

def sumK (f : Nat → Int32) : Nat → Int32
  | 0 => 0
  | n + 1 => sumK f n + f n
set_option maxRecDepth 100000 in
set_option maxHeartbeats 4000000 in
theorem lp_X9_revenue {G : AG} {M : Nat → Nat → Int32} {n : Nat} (hn : 72 ≤ n)  {nb : Nat} (hb : M 15 6 = nI nb) (hbl : nb ≤ 60) : ∀ (j : Nat) (k : Nat) (x1 x2 : Int32), nb - k < j → k ≤ nb → x2 = nI k → x1 = sumK (M 19) k →  AW tX9_revenue (AQm tX9_revenue (PD (.inl (some (.int (sumK (M 19) nb)))) (wld G M) n)) C0 4 [some (.ref 0), some (.int x1), some (.int x2)] [] (wld G M) n 0 0 := by
  intro j
  induction j with
  | zero => intro k x1 x2 h0 hk h2 h1; omega
  | succ j ih =>
    intro k x1 x2 h0 hk h2 h1
    refine aw_iload_n dX9_revenue_4 rfl ?_
    refine aw_aload_n dX9_revenue_5 rfl ?_
    refine aw_get fl_X9_10 dX9_revenue_6 e_0 (l_0 hn) rfl ?_
    refine aw_get fl_X9_128 dX9_revenue_9 e_1 (l_1 hn) rfl ?_
    refine aw_get fl_X9_164 dX9_revenue_12 e_15 (l_15 hn) rfl ?_
    refine aw_icmp_ge 39 dX9_revenue_15 (by decide) (fun c15 => ?_) (fun c15 => ?_)
    · have n15 := Int32.not_lt.mpr c15
      refine aw_iload_n dX9_revenue_39 rfl ?_
      refine aw_iret rfl dX9_revenue_40 (ble' rfl) (ble' rfl) ?_
      have hke : k = nb := Nat.le_antisymm hk (le_of_le hb h2 (by omega) (by omega) c15)
      exact pd_i (by rw [h1, hke])
    · have n15 := Int32.not_le.mp c15
      have hlt : k < nb := lt_of_nle hb h2 (by omega) (by omega) c15
      refine aw_iload_n dX9_revenue_18 rfl ?_
      refine aw_aload_n dX9_revenue_19 rfl ?_
      refine aw_get fl_X9_10 dX9_revenue_20 e_0 (l_0 hn) rfl ?_
      refine aw_get fl_X9_128 dX9_revenue_23 e_1 (l_1 hn) rfl ?_
      refine aw_get fl_X9_178 dX9_revenue_26 e_15 (l_15 hn) rfl ?_
      refine aw_iload_n dX9_revenue_29 rfl ?_
      refine aw_ialdk dX9_revenue_30 e_19 (l_19 hn) h2 (by omega) rfl ?_
      refine aw_iadd dX9_revenue_31 ?_
      refine aw_istore_n (lo' := [_, some (.int _), _]) dX9_revenue_32 (by decide) rfl ?_
      refine aw_iinc (lo' := [_, _, some (.int _)]) dX9_revenue_33 rfl (by decide) rfl ?_
      refine aw_goto 4 dX9_revenue_36 (by decide) ?_
      exact ih (k + 1) _ _ (by omega) (by omega) (by rw [h2]; exact inc1 k) (by rw [h1]; rfl)

set_option maxRecDepth 100000 in
set_option maxHeartbeats 4000000 in
theorem c_X9_revenue {G : AG} {M : Nat → Nat → Int32} {n : Nat} (hn : 72 ≤ n) {nb : Nat} (hb : M 15 6 = nI nb) (hbl : nb ≤ 60) : AMet tX9_revenue yX9_revenue [Cond.code yX9_revenue cX9_revenue 3 (some .int)] [.ref 0] (wld G M) n (PD (.inl (some (.int (sumK (M 19) nb)))) (wld G M) n) := by
  refine am_of (lo := [_, _, _]) (by decide) rfl (fun q => by cases q) rfl rfl rfl ?_
  refine aw_iconst (v := 0) dX9_revenue_0 (by decide) ?_
  refine aw_istore_n (lo' := [_, some (.int _), _]) dX9_revenue_1 (by decide) rfl ?_
  refine aw_iconst (v := 0) dX9_revenue_2 (by decide) ?_
  refine aw_istore_n (lo' := [_, _, some (.int _)]) dX9_revenue_3 (by decide) rfl ?_
  exact lp_X9_revenue hn hb hbl (nb + 1) 0 _ _ (by omega) (by omega) rfl rfl
