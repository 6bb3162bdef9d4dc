/-- the cheapest of k from a on: its number (-1), its price -/
def chpN (ok : Nat → Bool) (pr : Nat → Int32) (a : Nat) : Nat → Int32 × Int32
  | 0 => (-1, 0)
  | k + 1 => if ok (a + k) = true ∧ ((chpN ok pr a k).1 = -1 ∨ pr (a + k) < (chpN ok pr a k).2) then (nI (a + k), pr (a + k)) else chpN ok pr a k
theorem obs0_lv {M : Nat → Nat → Int32} {ns nb nz : Nat} {c a m : Int32} (h : obsC M ns nb nz c a m = 0) : ¬ lvC (M 1 5) (M 3 c.toNatClampNeg) a m := by
  intro q
  have h1 : obnC M ns nb c a m = 1 := by rw [obnC, obN, if_pos q]
  rw [obsC, obS, h1, if_pos (by decide)] at h
  exact absurd h (by decide)
theorem obn0_lv {M : Nat → Nat → Int32} {ns nb : Nat} {c a m : Int32} (h : obnC M ns nb c a m = 0) : ¬ lvC (M 1 5) (M 3 c.toNatClampNeg) a m := by
  intro q
  have h1 : obnC M ns nb c a m = 1 := by rw [obnC, obN, if_pos q]
  rw [h1] at h
  exact absurd h (by decide)
theorem lv_nat {M : Nat → Nat → Int32} {t : Nat} {w a m : Int32} (ht : M 1 5 = nI t) (htl : t ≤ 999) (h : ¬ lvC (M 1 5) w a m) : ∃ x, t ≤ x ∧ x ≤ 998 ∧ a = nI x := by
  have h0 : ¬ a < 0 := fun q => h (Or.inl (by rw [ht]; exact Int32.lt_of_lt_of_le q (nI_pos' (by omega))))
  obtain ⟨x, hx2, hx⟩ := nI_of h0
  exact ⟨x, le_of_nlt hx ht hx2 (by omega) (fun q => h (Or.inl q)), le_of_nlt (show (998 : Int32) = nI 998 from rfl) hx (by decide) hx2 (fun q => h (Or.inr (Or.inl q))), hx⟩
set_option maxRecDepth 100000 in
set_option maxHeartbeats 4000000 in
theorem lp_X9_cheapestArrival {G : AG} {M : Nat → Nat → Int32} {n : Nat} (hn : 72 ≤ n) {nc ns nz nb nr t : Nat} (hI : CI M nc ns nz nb nr t) {c m f l : Int32} {kc mm a b : Nat} (hk : c = nI kc) (hkc : kc < nc) (hm : m = nI mm) (hmm : mm ≤ 28) (ha : a ≤ 999) (hb9 : b ≤ 999) (hl : l = nI b) {Po : APost} (hR : ∀ (v : Int32) (r : Nat → Int32), v = (chpN (fun i => decide (obsC M ns nb nz c (nI i) m = 0)) (fun i => psum (prM M nz c) i m.toNatClampNeg) a (b + 1 - a)).1 → Po (.inl (some (.int v))) (wld G (updM (jM M c) 57 r)) n) : ∀ (j i : Nat) (x5 x6 x7 : Int32) (r : Nat → Int32), b + 1 - (a + i) < j → i ≤ b + 1 - a → x7 = nI (a + i) → (x5, x6) = (chpN (fun i => decide (obsC M ns nb nz c (nI i) m = 0)) (fun i => psum (prM M nz c) i m.toNatClampNeg) a i) → KN (frM M ns nb c) r →  AW tX9_cheapestArrival (AQm tX9_cheapestArrival (Po)) C0 46 [some (.ref 0), some (.int c), some (.int m), some (.int f), some (.int l), some (.int x5), some (.int x6), some (.int x7), none] [] (wld G (updM (jM M c) 57 r)) n 4 24 := by
  intro j
  induction j with
  | zero => intro i x5 x6 x7 r h1; omega
  | succ j ih =>
    intro i x5 x6 x7 r h1 hi h7 h56 hK
    obtain ⟨hc, hcl, hs, hsl, hz, hzl, hb, hbl, hr, hrl, ht, htl⟩ := id hI
    refine aw_iload dX9_cheapestArrival_46 rfl ?_
    refine aw_iload dX9_cheapestArrival_48 rfl ?_
    refine aw_icmp_gt 115 dX9_cheapestArrival_50 (by decide) (fun c50 => ?_) (fun c50 => ?_)
    · have n50 := Int32.not_le.mpr c50
      refine aw_iload dX9_cheapestArrival_115 rfl ?_
      refine aw_iret rfl dX9_cheapestArrival_117 (ble' rfl) (ble' rfl) ?_
      have hie : i = b + 1 - a := by have := lt_of_lt hl h7 (by omega) (by omega) c50; omega
      exact hR _ r (by rw [← hie, ← h56])
    · have n50 := Int32.not_lt.mp c50
      have hlt : a + i ≤ b := le_of_nlt hl h7 (by omega) (by omega) c50
      refine aw_aload_n dX9_cheapestArrival_53 rfl ?_
      refine aw_get fl_X9_28 dX9_cheapestArrival_54 e_0 (l_0 hn) rfl ?_
      refine aw_iload dX9_cheapestArrival_57 rfl ?_
      refine aw_iload_n dX9_cheapestArrival_59 rfl ?_
      refine ap_callJ kv_X9_145 ko_X8_obstacleToStay (cj_stay hn hI hk hkc hK _ hm (by omega)) dX9_cheapestArrival_60 e_56 (l_56 hn) rfl rfl rfl rfl (ble' rfl) (by decide) (fun r2 hK2 => ?_)
      refine aw_if_eq 69 dX9_cheapestArrival_63 (by decide) (fun c63 => ?_) (fun c63 => ?_)
      · refine aw_aload_n dX9_cheapestArrival_69 rfl ?_
        refine aw_get fl_X9_10 dX9_cheapestArrival_70 e_0 (l_0 hn) rfl ?_
        refine aw_get fl_X9_96 dX9_cheapestArrival_73 e_1 (l_1 hn) rfl ?_
        refine aw_iload_n dX9_cheapestArrival_76 rfl ?_
        refine aw_iload dX9_cheapestArrival_77 rfl ?_
        refine aw_iload dX9_cheapestArrival_79 rfl ?_
        refine aw_iload_n dX9_cheapestArrival_81 rfl ?_
        refine aw_iadd dX9_cheapestArrival_82 ?_
        refine ap_callVi kv_X9_148 ko_X5_priceOfNights (c_X5_priceOfNights (M := updM (jM M c) 57 r2) hn hz hzl c (a := a + i) (b := a + i + mm) (by omega) (by omega) h7 (by rw [h7, hm]; exact nI_add (a + i) mm)) dX9_cheapestArrival_83 e_9 (l_9 hn) rfl rfl rfl rfl (ble' rfl) (by decide) ?_
        refine aw_istore (lo' := [_, _, _, _, _, _, _, _, some (.int _)]) dX9_cheapestArrival_86 (by decide) rfl ?_
        refine aw_iload dX9_cheapestArrival_88 rfl ?_
        refine aw_iconst (v := -1) dX9_cheapestArrival_90 (by decide) ?_
        refine aw_icmp_eq 101 dX9_cheapestArrival_91 (by decide) (fun c91 => ?_) (fun c91 => ?_)
        · refine aw_iload dX9_cheapestArrival_101 rfl ?_
          refine aw_istore (lo' := [_, _, _, _, _, some (.int _), _, _, _]) dX9_cheapestArrival_103 (by decide) rfl ?_
          refine aw_iload dX9_cheapestArrival_105 rfl ?_
          refine aw_istore (lo' := [_, _, _, _, _, _, some (.int _), _, _]) dX9_cheapestArrival_107 (by decide) rfl ?_
          refine aw_iinc (lo' := [_, _, _, _, _, _, _, some (.int _), _]) dX9_cheapestArrival_109 rfl (by decide) rfl ?_
          refine aw_goto 46 dX9_cheapestArrival_112 (by decide) ?_
          refine aw_lo2 (lo' := [some (.ref 0), some (.int c), some (.int m), some (.int f), some (.int l), some (.int _), some (.int _), some (.int _), none]) ⟨rfl, rfl, rfl, rfl, rfl, rfl, rfl, rfl, trivial⟩ ?_
          have hsm : psum (prM M nz c) (a + i) (a + i + mm - (a + i)) = psum (prM M nz c) (a + i) m.toNatClampNeg := by rw [show a + i + mm - (a + i) = mm by omega, cl_of hm (by omega)]
          exact ih (i + 1) _ _ _ r2 (by omega) (by omega) (by rw [h7]; exact inc1 (a + i)) (by rw [h7, chpN, if_pos ⟨by simp [← h7, c63], Or.inl (by rw [← h56]; exact c91)⟩, ← hsm]; rfl) hK2
        · refine aw_iload dX9_cheapestArrival_94 rfl ?_
          refine aw_iload dX9_cheapestArrival_96 rfl ?_
          refine aw_icmp_ge 109 dX9_cheapestArrival_98 (by decide) (fun c98 => ?_) (fun c98 => ?_)
          · have n98 := Int32.not_lt.mpr c98
            refine aw_iinc (lo' := [_, _, _, _, _, _, _, some (.int _), _]) dX9_cheapestArrival_109 rfl (by decide) rfl ?_
            refine aw_goto 46 dX9_cheapestArrival_112 (by decide) ?_
            refine aw_lo2 (lo' := [some (.ref 0), some (.int c), some (.int m), some (.int f), some (.int l), some (.int _), some (.int _), some (.int _), none]) ⟨rfl, rfl, rfl, rfl, rfl, rfl, rfl, rfl, trivial⟩ ?_
            have hsm : psum (prM M nz c) (a + i) (a + i + mm - (a + i)) = psum (prM M nz c) (a + i) m.toNatClampNeg := by rw [show a + i + mm - (a + i) = mm by omega, cl_of hm (by omega)]
            exact ih (i + 1) _ _ _ r2 (by omega) (by omega) (by rw [h7]; exact inc1 (a + i)) (by rw [h56, chpN, if_neg (by rintro ⟨-, q | q⟩; exact c91 (by rw [← h56] at q; exact q); rw [← h56, ← hsm] at q; exact n98 q)]) hK2
          · have n98 := Int32.not_le.mp c98
            refine aw_iload dX9_cheapestArrival_101 rfl ?_
            refine aw_istore (lo' := [_, _, _, _, _, some (.int _), _, _, _]) dX9_cheapestArrival_103 (by decide) rfl ?_
            refine aw_iload dX9_cheapestArrival_105 rfl ?_
            refine aw_istore (lo' := [_, _, _, _, _, _, some (.int _), _, _]) dX9_cheapestArrival_107 (by decide) rfl ?_
            refine aw_iinc (lo' := [_, _, _, _, _, _, _, some (.int _), _]) dX9_cheapestArrival_109 rfl (by decide) rfl ?_
            refine aw_goto 46 dX9_cheapestArrival_112 (by decide) ?_
            refine aw_lo2 (lo' := [some (.ref 0), some (.int c), some (.int m), some (.int f), some (.int l), some (.int _), some (.int _), some (.int _), none]) ⟨rfl, rfl, rfl, rfl, rfl, rfl, rfl, rfl, trivial⟩ ?_
            have hsm : psum (prM M nz c) (a + i) (a + i + mm - (a + i)) = psum (prM M nz c) (a + i) m.toNatClampNeg := by rw [show a + i + mm - (a + i) = mm by omega, cl_of hm (by omega)]
            exact ih (i + 1) _ _ _ r2 (by omega) (by omega) (by rw [h7]; exact inc1 (a + i)) (by rw [h7, chpN, if_pos ⟨by simp [← h7, c63], Or.inr (by rw [← h56, ← hsm]; exact n98)⟩, ← hsm]; rfl) hK2
      · refine aw_goto 109 dX9_cheapestArrival_66 (by decide) ?_
        refine aw_iinc (lo' := [_, _, _, _, _, _, _, some (.int _), _]) dX9_cheapestArrival_109 rfl (by decide) rfl ?_
        refine aw_goto 46 dX9_cheapestArrival_112 (by decide) ?_
        refine aw_lo2 (lo' := [some (.ref 0), some (.int c), some (.int m), some (.int f), some (.int l), some (.int _), some (.int _), some (.int _), none]) ⟨rfl, rfl, rfl, rfl, rfl, rfl, rfl, rfl, trivial⟩ ?_
        exact ih (i + 1) _ _ _ r2 (by omega) (by omega) (by rw [h7]; exact inc1 (a + i)) (by rw [h56, chpN, if_neg (by simp [← h7, c63])]) hK2

def cd_cheapestArrival (M : Nat → Nat → Int32) (c m f l : Int32) : Nat := if (c < 0 ∨ M 2 3 ≤ c) then 1 else if (m < 1 ∨ 28 < m) then 2 else if (f < 0 ∨ 999 < f) then 2 else if (l < f ∨ 999 < l) then 2 else 0
set_option maxRecDepth 100000 in
set_option maxHeartbeats 4000000 in
theorem c_X9_cheapestArrival {G : AG} {M : Nat → Nat → Int32} {n : Nat} (hn : 72 ≤ n) {nc ns nz nb nr t : Nat} (hI : CI M nc ns nz nb nr t)  (c m f l : Int32) : AMet tX9_cheapestArrival yX9_cheapestArrival [Cond.code yX9_cheapestArrival cX9_cheapestArrival 9 (some .int)] [.ref 0, .int c, .int m, .int f, .int l] (wld G M) n (PO ["java/lang/IndexOutOfBoundsException", "java/lang/IllegalArgumentException"] (cd_cheapestArrival M c m f l) (some (.int (chpN (fun i => decide (obsC M ns nb nz c (nI i) m = 0)) (fun i => psum (prM M nz c) i m.toNatClampNeg) f.toNatClampNeg (l.toNatClampNeg + 1 - f.toNatClampNeg)).1)) G M M n) := by
  obtain ⟨hc, hcl, hs, hsl, hz, hzl, hb, hbl, hr, hrl, ht, htl⟩ := id hI
  refine am_of (lo := [_, _, _, _, _, _, _, _, _]) (by decide) rfl (fun q => by cases q) rfl rfl rfl ?_
  refine aw_aload_n dX9_cheapestArrival_0 rfl ?_
  refine aw_iload_n dX9_cheapestArrival_1 rfl ?_
  refine ap_chkV kw_X9_80 kv_X9_80 ko_X9_checkClass (c_X9_checkClass hn _) dX9_cheapestArrival_2 e_0 (l_0 hn) rfl rfl rfl rfl (ble' rfl) (by decide) (fun q => po_e 0 (by rw [cd_cheapestArrival, if_pos q]) rfl (seq_rf)) (fun b2 => ?_)
  refine aw_iload_n dX9_cheapestArrival_5 rfl ?_
  refine aw_iconst (v := 1) dX9_cheapestArrival_6 (by decide) ?_
  refine aw_bipush (v := 28) dX9_cheapestArrival_7 (by decide) ?_
  refine ap_chkS kw_X9_56 ks_X9_56 ko_X9_checkRange (c_X9_checkRange _ _ _) dX9_cheapestArrival_9 rfl rfl (ble' rfl) (by decide) (fun q => po_e 1 (by rw [cd_cheapestArrival, if_neg b2, if_pos q]) rfl (seq_rf)) (fun b9 => ?_)
  refine aw_iload_n dX9_cheapestArrival_12 rfl ?_
  refine aw_iconst (v := 0) dX9_cheapestArrival_13 (by decide) ?_
  refine aw_sipush (v := 999) dX9_cheapestArrival_14 (by decide) ?_
  refine ap_chkS kw_X9_56 ks_X9_56 ko_X9_checkRange (c_X9_checkRange _ _ _) dX9_cheapestArrival_17 rfl rfl (ble' rfl) (by decide) (fun q => po_e 1 (by rw [cd_cheapestArrival, if_neg b2, if_neg b9, if_pos q]) rfl (seq_rf)) (fun b17 => ?_)
  refine aw_iload dX9_cheapestArrival_20 rfl ?_
  refine aw_iload_n dX9_cheapestArrival_22 rfl ?_
  refine aw_sipush (v := 999) dX9_cheapestArrival_23 (by decide) ?_
  refine ap_chkS kw_X9_56 ks_X9_56 ko_X9_checkRange (c_X9_checkRange _ _ _) dX9_cheapestArrival_26 rfl rfl (ble' rfl) (by decide) (fun q => po_e 1 (by rw [cd_cheapestArrival, if_neg b2, if_neg b9, if_neg b17, if_pos q]) rfl (seq_rf)) (fun b26 => ?_)
  obtain ⟨kc, hkc, hk⟩ := ck_ix hc (by omega) b2
  obtain ⟨mm, hm1, hmm, hm⟩ := ck_rng (show (1 : Int32) = nI 1 from rfl) (show (28 : Int32) = nI 28 from rfl) (by decide) (by decide) b9
  obtain ⟨d, -, hd9, hd⟩ := ck_rng (show (0 : Int32) = nI 0 from rfl) (show (999 : Int32) = nI 999 from rfl) (by decide) (by decide) b17
  obtain ⟨e, hde, he9, he⟩ := ck_rng hd (show (999 : Int32) = nI 999 from rfl) (by omega) (by decide) b26
  refine aw_aload_n dX9_cheapestArrival_29 rfl ?_
  refine aw_get fl_X9_28 dX9_cheapestArrival_30 e_0 (l_0 hn) rfl ?_
  refine aw_iload_n dX9_cheapestArrival_33 rfl ?_
  refine ap_callVv kv_X9_142 ko_X8_turnTo (cj_turn hn c) dX9_cheapestArrival_34 e_56 (l_56 hn) rfl rfl rfl rfl (ble' rfl) (by decide) ?_
  refine aw_iconst (v := -1) dX9_cheapestArrival_37 (by decide) ?_
  refine aw_istore (lo' := [_, _, _, _, _, some (.int _), _, _, _]) dX9_cheapestArrival_38 (by decide) rfl ?_
  refine aw_iconst (v := 0) dX9_cheapestArrival_40 (by decide) ?_
  refine aw_istore (lo' := [_, _, _, _, _, _, some (.int _), _, _]) dX9_cheapestArrival_41 (by decide) rfl ?_
  refine aw_iload_n dX9_cheapestArrival_43 rfl ?_
  refine aw_istore (lo' := [_, _, _, _, _, _, _, some (.int _), _]) dX9_cheapestArrival_44 (by decide) rfl ?_
  exact lp_X9_cheapestArrival hn hI hk hkc hm hmm hd9 he9 he (fun v r q => po_i (by rw [cd_cheapestArrival, if_neg b2, if_neg b9, if_neg b17, if_neg b26]) (by rw [cl_of hd (by omega), cl_of he (by omega)]; exact q) (seq_57 (seq_56 seq_rf))) 1001 0 _ _ _ _ (by omega) (by omega) hd rfl (kn0 _ _)

/-- the counts as they stand in the rows -/
def nsM (M : Nat → Nat → Int32) : Nat := (M 6 2).toNatClampNeg
def nbM (M : Nat → Nat → Int32) : Nat := (M 15 6).toNatClampNeg
def nzM (M : Nat → Nat → Int32) : Nat := (M 9 5).toNatClampNeg
def nrM (M : Nat → Nat → Int32) : Nat := (M 22 5).toNatClampNeg
def tM (M : Nat → Nat → Int32) : Nat := (M 1 5).toNatClampNeg
def cd_book (M : Nat → Nat → Int32) (c a m : Int32) : Nat := if (c < 0 ∨ M 2 3 ≤ c) then 1 else if (m < 1 ∨ 28 < m) then 2 else if 60 ≤ M 15 6 then 3 else if ¬ obsC M (nsM M) (nbM M) (nzM M) c a m = 0 then 3 else 0
set_option maxRecDepth 100000 in
set_option maxHeartbeats 4000000 in
theorem c_X9_book {G : AG} {M : Nat → Nat → Int32} {n : Nat} (hn : 72 ≤ n) {nc ns nz nb nr t : Nat} (hI : CI M nc ns nz nb nr t)  (c a m : Int32) : AMet tX9_book yX9_book [Cond.code yX9_book cX9_book 4 (some .int)] [.ref 0, .int c, .int a, .int m] (wld G M) n (PO ["java/lang/IndexOutOfBoundsException", "java/lang/IllegalArgumentException", "java/lang/IllegalStateException"] (cd_book M c a m) (some (.int (nI nb))) G M (addB M nb c a (a + m) (psum (prM M nz c) a.toNatClampNeg m.toNatClampNeg)) n) := by
  obtain ⟨hc, hcl, hs, hsl, hz, hzl, hb, hbl, hr, hrl, ht, htl⟩ := id hI
  have ens : nsM M = ns := cl_of hs (by omega)
  have enb : nbM M = nb := cl_of hb (by omega)
  have enz : nzM M = nz := cl_of hz (by omega)
  have enr : nrM M = nr := cl_of hr (by omega)
  have etm : tM M = t := cl_of ht (by omega)
  refine am_of (lo := [_, _, _, _]) (by decide) rfl (fun q => by cases q) rfl rfl rfl ?_
  refine aw_aload_n dX9_book_0 rfl ?_
  refine aw_iload_n dX9_book_1 rfl ?_
  refine ap_chkV kw_X9_80 kv_X9_80 ko_X9_checkClass (c_X9_checkClass hn _) dX9_book_2 e_0 (l_0 hn) rfl rfl rfl rfl (ble' rfl) (by decide) (fun q => po_e 0 (by rw [cd_book, if_pos q]) rfl (seq_rf)) (fun b2 => ?_)
  refine aw_iload_n dX9_book_5 rfl ?_
  refine aw_iconst (v := 1) dX9_book_6 (by decide) ?_
  refine aw_bipush (v := 28) dX9_book_7 (by decide) ?_
  refine ap_chkS kw_X9_56 ks_X9_56 ko_X9_checkRange (c_X9_checkRange _ _ _) dX9_book_9 rfl rfl (ble' rfl) (by decide) (fun q => po_e 1 (by rw [cd_book, if_neg b2, if_pos q]) rfl (seq_rf)) (fun b9 => ?_)
  obtain ⟨kc, hkc, hk⟩ := ck_ix hc (by omega) b2
  obtain ⟨mm, hm1, hmm, hm⟩ := ck_rng (show (1 : Int32) = nI 1 from rfl) (show (28 : Int32) = nI 28 from rfl) (by decide) (by decide) b9
  refine aw_aload_n dX9_book_12 rfl ?_
  refine aw_get fl_X9_28 dX9_book_13 e_0 (l_0 hn) rfl ?_
  refine aw_iload_n dX9_book_16 rfl ?_
  refine ap_callVv kv_X9_142 ko_X8_turnTo (cj_turn hn c) dX9_book_17 e_56 (l_56 hn) rfl rfl rfl rfl (ble' rfl) (by decide) ?_
  refine aw_aload_n dX9_book_20 rfl ?_
  refine aw_get fl_X9_10 dX9_book_21 e_0 (l_0 hn) rfl ?_
  refine aw_get fl_X9_128 dX9_book_24 e_1 (l_1 hn) rfl ?_
  refine ap_callVi kv_X9_155 ko_X0_isFull (c_X0_isFull (M := updM (jM M c) 57 _) hn) dX9_book_27 e_15 (l_15 hn) rfl rfl rfl rfl (ble' rfl) (by decide) ?_
  refine aw_if_ne 45 dX9_book_30 (by decide) (fun c30 => ?_) (fun c30 => ?_)
  · have n30 := bI_nz.mp c30
    refine aw_throwS tx_159 dX9_book_45 dX9_book_48 dX9_book_49 dX9_book_51 dX9_book_54 ⟨by decide, ble' rfl, by decide, by decide⟩ ?_
    exact po_e 2 (by rw [cd_book, if_neg b2, if_neg b9, if_pos (show 60 ≤ M 15 6 from n30)]) rfl (seq_57 (seq_56 seq_rf))
  · have n30 := bI_z.mp c30
    refine aw_aload_n dX9_book_33 rfl ?_
    refine aw_get fl_X9_28 dX9_book_34 e_0 (l_0 hn) rfl ?_
    refine aw_iload_n dX9_book_37 rfl ?_
    refine aw_iload_n dX9_book_38 rfl ?_
    refine ap_callJ kv_X9_145 ko_X8_obstacleToStay (cj_stay hn hI hk hkc (kn0 _ _) a hm hmm) dX9_book_39 e_56 (l_56 hn) rfl rfl rfl rfl (ble' rfl) (by decide) (fun r2 hK2 => ?_)
    refine aw_if_eq 55 dX9_book_42 (by decide) (fun c42 => ?_) (fun c42 => ?_)
    · obtain ⟨x, htx, hx9, hx⟩ := lv_nat ht htl (obs0_lv c42)
      have hbl2 : nb < 60 := lt_of_nle (show (60 : Int32) = nI 60 from rfl) hb (by decide) (by omega) n30
      refine aw_aload_n dX9_book_55 rfl ?_
      refine aw_get fl_X9_10 dX9_book_56 e_0 (l_0 hn) rfl ?_
      refine aw_iload_n dX9_book_59 rfl ?_
      refine aw_iload_n dX9_book_60 rfl ?_
      refine aw_iload_n dX9_book_61 rfl ?_
      refine ap_callVi kv_X9_161 ko_X1_addBooking (c_X1_addBooking (M := updM (jM M c) 57 r2) hn hb hbl2 hz hzl c (by omega) (by omega) hx hm) dX9_book_62 e_1 (l_1 hn) rfl rfl rfl rfl (ble' rfl) (by decide) ?_
      refine aw_iret rfl dX9_book_65 (ble' rfl) (ble' rfl) ?_
      exact po_i (by rw [cd_book, if_neg b2, if_neg b9, if_neg (show ¬ 60 ≤ M 15 6 from n30), if_neg (fun q => q (by rw [ens, enb, enz]; exact c42))]) rfl (by rw [hx, hm, nI_add, cl_of (x := nI x) rfl (by omega), cl_of (x := nI mm) rfl (by omega)]; exact (fun i hi => by simp only [scr, not_or] at hi; simp [addB, jM, updM, hi] <;> rfl))
    · refine aw_throwS tx_159 dX9_book_45 dX9_book_48 dX9_book_49 dX9_book_51 dX9_book_54 ⟨by decide, ble' rfl, by decide, by decide⟩ ?_
      exact po_e 2 (by rw [cd_book, if_neg b2, if_neg b9, if_neg (show ¬ 60 ≤ M 15 6 from n30), if_pos (by rw [ens, enb, enz]; exact c42)]) rfl (seq_57 (seq_56 seq_rf))
