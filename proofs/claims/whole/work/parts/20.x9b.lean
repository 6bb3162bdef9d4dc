/-- the rows after the judge has turned to the class c -/
def jM (M : Nat → Nat → Int32) (c : Int32) : Nat → Nat → Int32 := updM M 56 (upd (M 56) 2 c)
def frM (M : Nat → Nat → Int32) (ns nb : Nat) (c : Int32) : Int32 → Bool := frC M c.toNatClampNeg ns nb c
def mnM (M : Nat → Nat → Int32) (nz : Nat) (c d : Int32) : Int32 := sval (seasN (M 10) (M 11) (M 12) c d nz) (M 13) 1
def prM (M : Nat → Nat → Int32) (nz : Nat) (c d : Int32) : Int32 := sval (seasN (M 10) (M 11) (M 12) c d nz) (M 14) 20
/-- the obstacle of the nights alone, and of a stay -/
def obnC (M : Nat → Nat → Int32) (ns nb : Nat) (c a m : Int32) : Int32 := obN (lvC (M 1 5) (M 3 c.toNatClampNeg) a m) (frM M ns nb c) a m.toNatClampNeg
def obsC (M : Nat → Nat → Int32) (ns nb nz : Nat) (c a m : Int32) : Int32 := obS (obnC M ns nb c a m) (mnM M nz c a) m (frM M ns nb c (a - 1)) (frM M ns nb c (a + m))
theorem kn0 (fr : Int32 → Bool) (g : Nat → Int32) : KN fr (mapK (fun _ => 0) g 999) := fun k hk => Or.inl (by simp [mapK, hk])

theorem frM_e {M : Nat → Nat → Int32} {ns nb kc : Nat} {c : Int32} (hk : c = nI kc) (h : kc < 2 ^ 31) : frM M ns nb c = frC (jM M c) kc ns nb c := by
  rw [frM, cl_of hk h]; rfl
theorem cj_free {G : AG} {M : Nat → Nat → Int32} {n : Nat} (hn : 72 ≤ n) {r : Nat → Int32} {nc ns nz nb nr t : Nat} (hI : CI M nc ns nz nb nr t) {c : Int32} {kc : Nat} (hk : c = nI kc) (hkc : kc < nc) (hK : KN (frM M ns nb c) r) (d : Int32) : AMet tX8_isFree yX8_isFree [Cond.code yX8_isFree cX8_isFree 4 (some .boolean)] [.ref 56, .int d] (wld G (updM (jM M c) 57 r)) n (PJ (bI (frM M ns nb c d = true)) G (jM M c) n (KN (frM M ns nb c))) := by
  obtain ⟨hc, hcl, hs, hsl, hz, hzl, hb, hbl, hr, hrl, ht, htl⟩ := id hI
  have hkb : kc < 2 ^ 31 := by omega
  rw [frM_e hk hkb] at hK ⊢
  exact c_X8_isFree (M := jM M c) hn r hc hcl hk hkc hs hsl hb hbl hz hzl rfl ht htl hK d
theorem cj_nights {G : AG} {M : Nat → Nat → Int32} {n : Nat} (hn : 72 ≤ n) {r : Nat → Int32} {nc ns nz nb nr t : Nat} (hI : CI M nc ns nz nb nr t) {c : Int32} {kc : Nat} (hk : c = nI kc) (hkc : kc < nc) (hK : KN (frM M ns nb c) r) (a : Int32) {m : Int32} {mm : Nat} (hm : m = nI mm) (hmm : mm ≤ 28) : AMet tX8_obstacleToNights yX8_obstacleToNights [Cond.code yX8_obstacleToNights cX8_obstacleToNights 4 (some .int)] [.ref 56, .int a, .int m] (wld G (updM (jM M c) 57 r)) n (PJ (obnC M ns nb c a m) G (jM M c) n (KN (frM M ns nb c))) := by
  obtain ⟨hc, hcl, hs, hsl, hz, hzl, hb, hbl, hr, hrl, ht, htl⟩ := id hI
  have hkb : kc < 2 ^ 31 := by omega
  rw [obnC, cl_of hk hkb, cl_of hm (by omega)]
  rw [frM_e hk hkb] at hK ⊢
  exact c_X8_obstacleToNights (M := jM M c) hn r hc hcl hk hkc hs hsl hb hbl hz hzl rfl ht htl hK a hm hmm
theorem cj_stay {G : AG} {M : Nat → Nat → Int32} {n : Nat} (hn : 72 ≤ n) {r : Nat → Int32} {nc ns nz nb nr t : Nat} (hI : CI M nc ns nz nb nr t) {c : Int32} {kc : Nat} (hk : c = nI kc) (hkc : kc < nc) (hK : KN (frM M ns nb c) r) (a : Int32) {m : Int32} {mm : Nat} (hm : m = nI mm) (hmm : mm ≤ 28) : AMet tX8_obstacleToStay yX8_obstacleToStay [Cond.code yX8_obstacleToStay cX8_obstacleToStay 5 (some .int)] [.ref 56, .int a, .int m] (wld G (updM (jM M c) 57 r)) n (PJ (obsC M ns nb nz c a m) G (jM M c) n (KN (frM M ns nb c))) := by
  obtain ⟨hc, hcl, hs, hsl, hz, hzl, hb, hbl, hr, hrl, ht, htl⟩ := id hI
  have hkb : kc < 2 ^ 31 := by omega
  rw [obsC, obnC, cl_of hk hkb, cl_of hm (by omega)]
  rw [frM_e hk hkb] at hK ⊢
  exact c_X8_obstacleToStay (M := jM M c) hn r hc hcl hk hkc hs hsl hb hbl hz hzl rfl ht htl hK a hm hmm
theorem cj_turn {G : AG} {M : Nat → Nat → Int32} {n : Nat} (hn : 72 ≤ n) (c : Int32) : AMet tX8_turnTo yX8_turnTo [Cond.code yX8_turnTo cX8_turnTo 2 none] [.ref 56, .int c] (wld G M) n (PD (.inl none) (wld G (updM (jM M c) 57 (mapK (fun _ => 0) (M 57) 999))) n) := c_X8_turnTo hn c
def cd_obstacle (M : Nat → Nat → Int32) (c a m : Int32) : Nat := if (c < 0 ∨ M 2 3 ≤ c) then 1 else if (m < 1 ∨ 28 < m) then 2 else 0
set_option maxRecDepth 100000 in
set_option maxHeartbeats 4000000 in
theorem c_X9_obstacle {G : AG} {M : Nat → Nat → Int32} {n : Nat} (hn : 72 ≤ n) {nc ns nz nb nr t : Nat} (hI : CI M nc ns nz nb nr t)  (c a m : Int32) : AMet tX9_obstacle yX9_obstacle [Cond.code yX9_obstacle cX9_obstacle 4 (some .int)] [.ref 0, .int c, .int a, .int m] (wld G M) n (PO ["java/lang/IndexOutOfBoundsException", "java/lang/IllegalArgumentException"] (cd_obstacle M c a m) (some (.int (obsC M ns nb nz c a m))) G M M n) := by
  obtain ⟨hc, hcl, hs, hsl, hz, hzl, hb, hbl, hr, hrl, ht, htl⟩ := id hI
  refine am_of (lo := [_, _, _, _]) (by decide) rfl (fun q => by cases q) rfl rfl rfl ?_
  refine aw_aload_n dX9_obstacle_0 rfl ?_
  refine aw_iload_n dX9_obstacle_1 rfl ?_
  refine ap_chkV kw_X9_80 kv_X9_80 ko_X9_checkClass (c_X9_checkClass hn _) dX9_obstacle_2 e_0 (l_0 hn) rfl rfl rfl rfl (ble' rfl) (by decide) (fun q => po_e 0 (by rw [cd_obstacle, if_pos q]) rfl (seq_rf)) (fun b2 => ?_)
  refine aw_iload_n dX9_obstacle_5 rfl ?_
  refine aw_iconst (v := 1) dX9_obstacle_6 (by decide) ?_
  refine aw_bipush (v := 28) dX9_obstacle_7 (by decide) ?_
  refine ap_chkS kw_X9_56 ks_X9_56 ko_X9_checkRange (c_X9_checkRange _ _ _) dX9_obstacle_9 rfl rfl (ble' rfl) (by decide) (fun q => po_e 1 (by rw [cd_obstacle, if_neg b2, if_pos q]) rfl (seq_rf)) (fun b9 => ?_)
  obtain ⟨kc, hkc, hk⟩ := ck_ix hc (by omega) b2
  obtain ⟨mm, hm1, hmm, hm⟩ := ck_rng (show (1 : Int32) = nI 1 from rfl) (show (28 : Int32) = nI 28 from rfl) (by decide) (by decide) b9
  refine aw_aload_n dX9_obstacle_12 rfl ?_
  refine aw_get fl_X9_28 dX9_obstacle_13 e_0 (l_0 hn) rfl ?_
  refine aw_iload_n dX9_obstacle_16 rfl ?_
  refine ap_callVv kv_X9_142 ko_X8_turnTo (cj_turn hn c) dX9_obstacle_17 e_56 (l_56 hn) rfl rfl rfl rfl (ble' rfl) (by decide) ?_
  refine aw_aload_n dX9_obstacle_20 rfl ?_
  refine aw_get fl_X9_28 dX9_obstacle_21 e_0 (l_0 hn) rfl ?_
  refine aw_iload_n dX9_obstacle_24 rfl ?_
  refine aw_iload_n dX9_obstacle_25 rfl ?_
  refine ap_callJ kv_X9_145 ko_X8_obstacleToStay (cj_stay hn hI hk hkc (kn0 _ _) a hm hmm) dX9_obstacle_26 e_56 (l_56 hn) rfl rfl rfl rfl (ble' rfl) (by decide) (fun r2 hK2 => ?_)
  refine aw_iret rfl dX9_obstacle_29 (ble' rfl) (ble' rfl) ?_
  exact po_i (by rw [cd_obstacle, if_neg b2, if_neg b9]) (rfl) (seq_57 (seq_56 seq_rf))

/-- the greatest number of nights up to k without an obstacle; 0 -/
def lngN (ob : Int32 → Int32) : Nat → Int32
  | 0 => 0
  | k + 1 => if ob (nI (k + 1)) = 0 then nI (k + 1) else lngN ob k
set_option maxRecDepth 100000 in
set_option maxHeartbeats 4000000 in
theorem lp_X9_longestStay {G : AG} {M : Nat → Nat → Int32} {n : Nat} (hn : 72 ≤ n) {nc ns nz nb nr t : Nat} (hI : CI M nc ns nz nb nr t) {c a : Int32} {kc : Nat} (hk : c = nI kc) (hkc : kc < nc) {Po : APost} (hR : ∀ (v : Int32) (r : Nat → Int32), v = (lngN (fun m => obsC M ns nb nz c a m) 28) → Po (.inl (some (.int v))) (wld G (updM (jM M c) 57 r)) n) : ∀ (j i : Nat) (x3 : Int32) (r : Nat → Int32), i < j → i ≤ 28 → x3 = nI i → (lngN (fun m => obsC M ns nb nz c a m) 28) = lngN (fun m => obsC M ns nb nz c a m) i → KN (frM M ns nb c) r →  AW tX9_longestStay (AQm tX9_longestStay (Po)) C0 16 [some (.ref 0), some (.int c), some (.int a), some (.int x3)] [] (wld G (updM (jM M c) 57 r)) n 1 6 := by
  intro j
  induction j with
  | zero => intro i x3 r h1; omega
  | succ j ih =>
    intro i x3 r h1 hi h3 h4 hK
    refine aw_iload_n dX9_longestStay_16 rfl ?_
    refine aw_iconst (v := 1) dX9_longestStay_17 (by decide) ?_
    refine aw_icmp_lt 41 dX9_longestStay_18 (by decide) (fun c18 => ?_) (fun c18 => ?_)
    · have n18 := Int32.not_le.mpr c18
      refine aw_iconst (v := 0) dX9_longestStay_41 (by decide) ?_
      refine aw_iret rfl dX9_longestStay_42 (ble' rfl) (ble' rfl) ?_
      have h0 : i = 0 := by have := lt_of_lt h3 (show (1 : Int32) = nI 1 from rfl) (by omega) (by decide) c18; omega
      subst h0
      exact hR _ r (by rw [h4]; rfl)
    · have n18 := Int32.not_lt.mp c18
      cases i with
      | zero => exact absurd (by rw [h3]; decide) c18
      | succ k =>
        refine aw_aload_n dX9_longestStay_21 rfl ?_
        refine aw_get fl_X9_28 dX9_longestStay_22 e_0 (l_0 hn) rfl ?_
        refine aw_iload_n dX9_longestStay_25 rfl ?_
        refine aw_iload_n dX9_longestStay_26 rfl ?_
        refine ap_callJ kv_X9_145 ko_X8_obstacleToStay (cj_stay hn hI hk hkc hK a h3 (by omega)) dX9_longestStay_27 e_56 (l_56 hn) rfl rfl rfl rfl (ble' rfl) (by decide) (fun r2 hK2 => ?_)
        refine aw_if_ne 35 dX9_longestStay_30 (by decide) (fun c30 => ?_) (fun c30 => ?_)
        · refine aw_iinc (lo' := [_, _, _, some (.int _)]) dX9_longestStay_35 rfl (by decide) rfl ?_
          refine aw_goto 16 dX9_longestStay_38 (by decide) ?_
          exact ih k _ r2 (by omega) (by omega) (by rw [h3]; exact dec1 k) (by rw [h4]; simp [lngN, ← h3, c30]) hK2
        · refine aw_iload_n dX9_longestStay_33 rfl ?_
          refine aw_iret rfl dX9_longestStay_34 (ble' rfl) (ble' rfl) ?_
          exact hR _ r2 (by rw [h4, h3]; simp [lngN, ← h3, c30])

def cd_longestStay (M : Nat → Nat → Int32) (c a : Int32) : Nat := if (c < 0 ∨ M 2 3 ≤ c) then 1 else 0
set_option maxRecDepth 100000 in
set_option maxHeartbeats 4000000 in
theorem c_X9_longestStay {G : AG} {M : Nat → Nat → Int32} {n : Nat} (hn : 72 ≤ n) {nc ns nz nb nr t : Nat} (hI : CI M nc ns nz nb nr t)  (c a : Int32) : AMet tX9_longestStay yX9_longestStay [Cond.code yX9_longestStay cX9_longestStay 4 (some .int)] [.ref 0, .int c, .int a] (wld G M) n (PO ["java/lang/IndexOutOfBoundsException"] (cd_longestStay M c a) (some (.int (lngN (fun m => obsC M ns nb nz c a m) 28))) G M M n) := by
  obtain ⟨hc, hcl, hs, hsl, hz, hzl, hb, hbl, hr, hrl, ht, htl⟩ := id hI
  refine am_of (lo := [_, _, _, _]) (by decide) rfl (fun q => by cases q) rfl rfl rfl ?_
  refine aw_aload_n dX9_longestStay_0 rfl ?_
  refine aw_iload_n dX9_longestStay_1 rfl ?_
  refine ap_chkV kw_X9_80 kv_X9_80 ko_X9_checkClass (c_X9_checkClass hn _) dX9_longestStay_2 e_0 (l_0 hn) rfl rfl rfl rfl (ble' rfl) (by decide) (fun q => po_e 0 (by rw [cd_longestStay, if_pos q]) rfl (seq_rf)) (fun b2 => ?_)
  obtain ⟨kc, hkc, hk⟩ := ck_ix hc (by omega) b2
  refine aw_aload_n dX9_longestStay_5 rfl ?_
  refine aw_get fl_X9_28 dX9_longestStay_6 e_0 (l_0 hn) rfl ?_
  refine aw_iload_n dX9_longestStay_9 rfl ?_
  refine ap_callVv kv_X9_142 ko_X8_turnTo (cj_turn hn c) dX9_longestStay_10 e_56 (l_56 hn) rfl rfl rfl rfl (ble' rfl) (by decide) ?_
  refine aw_bipush (v := 28) dX9_longestStay_13 (by decide) ?_
  refine aw_istore_n (lo' := [_, _, _, some (.int _)]) dX9_longestStay_15 (by decide) rfl ?_
  exact lp_X9_longestStay hn hI hk hkc (fun v r q => po_i (by rw [cd_longestStay, if_neg b2]) q (seq_57 (seq_56 seq_rf))) 29 28 _ _ (by omega) (by omega) rfl rfl (kn0 _ _)

/-- the first of k from a on with p; -1 -/
def gapN (p : Nat → Bool) (a : Nat) : Nat → Int32
  | 0 => -1
  | k + 1 => if gapN p a k = -1 then (if p (a + k) then nI (a + k) else -1) else gapN p a k
theorem gap_no {p : Nat → Bool} {a k : Nat} (h : gapN p a k = -1) (h2 : p (a + k) = false) : gapN p a (k + 1) = -1 := by unfold gapN; rw [if_pos h, h2]; rfl
theorem gap_keep {p : Nat → Bool} {a k m : Nat} (hm : m < 2 ^ 31) (h : gapN p a k = nI m) : ∀ n, k ≤ n → gapN p a n = nI m
  | 0, q => by have : k = 0 := by omega
               subst this; exact h
  | n + 1, q => by
    rcases Nat.lt_or_ge n k with r | r
    · have : k = n + 1 := by omega
      subst this; exact h
    · have := gap_keep hm h n r
      unfold gapN
      rw [this, if_neg (nI_neg1 hm)]
theorem gap_hit {p : Nat → Bool} {a k n : Nat} (h : gapN p a k = -1) (h2 : p (a + k) = true) (hk : k < n) (hk2 : a + k < 2 ^ 31) : gapN p a n = nI (a + k) :=
  gap_keep (k := k + 1) hk2 (by unfold gapN; rw [if_pos h, h2]; rfl) n hk
set_option maxRecDepth 100000 in
set_option maxHeartbeats 4000000 in
theorem lp_X9_nextGap {G : AG} {M : Nat → Nat → Int32} {n : Nat} (hn : 72 ≤ n) {nc ns nz nb nr t : Nat} (hI : CI M nc ns nz nb nr t) {c f : Int32} {kc a : Nat} (hk : c = nI kc) (hkc : kc < nc) (ha : a ≤ 999) {Po : APost} (hR : ∀ (v : Int32) (r : Nat → Int32), v = gapN (fun i => frM M ns nb c (nI i) && !frM M ns nb c (nI i - 1)) a (999 - a) → Po (.inl (some (.int v))) (wld G (updM (jM M c) 57 r)) n) : ∀ (j i : Nat) (x3 : Int32) (r : Nat → Int32), 999 - (a + i) < j → i ≤ 999 - a → x3 = nI (a + i) → gapN (fun i => frM M ns nb c (nI i) && !frM M ns nb c (nI i - 1)) a i = -1 → KN (frM M ns nb c) r →  AW tX9_nextGap (AQm tX9_nextGap (Po)) C0 23 [some (.ref 0), some (.int c), some (.int f), some (.int x3)] [] (wld G (updM (jM M c) 57 r)) n 2 12 := by
  intro j
  induction j with
  | zero => intro i x3 r h1; omega
  | succ j ih =>
    intro i x3 r h1 hi h3 h4 hK
    refine aw_iload_n dX9_nextGap_23 rfl ?_
    refine aw_sipush (v := 998) dX9_nextGap_24 (by decide) ?_
    refine aw_icmp_gt 62 dX9_nextGap_27 (by decide) (fun c27 => ?_) (fun c27 => ?_)
    · have n27 := Int32.not_le.mpr c27
      refine aw_iconst (v := -1) dX9_nextGap_62 (by decide) ?_
      refine aw_iret rfl dX9_nextGap_63 (ble' rfl) (ble' rfl) ?_
      have hie : i = 999 - a := by have := lt_of_lt (show (998 : Int32) = nI 998 from rfl) h3 (by decide) (by omega) c27; omega
      subst hie
      exact hR _ r h4.symm
    · have n27 := Int32.not_lt.mp c27
      have hlt : a + i ≤ 998 := le_of_nlt (show (998 : Int32) = nI 998 from rfl) h3 (by decide) (by omega) c27
      refine aw_aload_n dX9_nextGap_30 rfl ?_
      refine aw_get fl_X9_28 dX9_nextGap_31 e_0 (l_0 hn) rfl ?_
      refine aw_iload_n dX9_nextGap_34 rfl ?_
      refine ap_callJ kv_X9_151 ko_X8_isFree (cj_free hn hI hk hkc hK _) dX9_nextGap_35 e_56 (l_56 hn) rfl rfl rfl rfl (ble' rfl) (by decide) (fun r2 hK2 => ?_)
      refine aw_if_eq 56 dX9_nextGap_38 (by decide) (fun c38 => ?_) (fun c38 => ?_)
      · have n38 := bI_z.mp c38
        refine aw_iinc (lo' := [_, _, _, some (.int _)]) dX9_nextGap_56 rfl (by decide) rfl ?_
        refine aw_goto 23 dX9_nextGap_59 (by decide) ?_
        exact ih (i + 1) _ r2 (by omega) (by omega) (by rw [h3]; exact inc1 (a + i)) (gap_no h4 (by rw [h3] at n38; simp [n38])) hK2
      · have n38 := bI_nz.mp c38
        refine aw_aload_n dX9_nextGap_41 rfl ?_
        refine aw_get fl_X9_28 dX9_nextGap_42 e_0 (l_0 hn) rfl ?_
        refine aw_iload_n dX9_nextGap_45 rfl ?_
        refine aw_iconst (v := 1) dX9_nextGap_46 (by decide) ?_
        refine aw_isub dX9_nextGap_47 ?_
        refine ap_callJ kv_X9_151 ko_X8_isFree (cj_free hn hI hk hkc hK2 _) dX9_nextGap_48 e_56 (l_56 hn) rfl rfl rfl rfl (ble' rfl) (by decide) (fun r3 hK3 => ?_)
        refine aw_if_ne 56 dX9_nextGap_51 (by decide) (fun c51 => ?_) (fun c51 => ?_)
        · have n51 := bI_nz.mp c51
          refine aw_iinc (lo' := [_, _, _, some (.int _)]) dX9_nextGap_56 rfl (by decide) rfl ?_
          refine aw_goto 23 dX9_nextGap_59 (by decide) ?_
          exact ih (i + 1) _ r3 (by omega) (by omega) (by rw [h3]; exact inc1 (a + i)) (gap_no h4 (by simp [← h3, n51])) hK3
        · have n51 := bI_z.mp c51
          refine aw_iload_n dX9_nextGap_54 rfl ?_
          refine aw_iret rfl dX9_nextGap_55 (ble' rfl) (ble' rfl) ?_
          exact hR _ r3 (by rw [h3]; exact (gap_hit h4 (by simp [← h3, n38]; simpa using n51) (by omega) (by omega)).symm)

def cd_nextGap (M : Nat → Nat → Int32) (c f : Int32) : Nat := if (c < 0 ∨ M 2 3 ≤ c) then 1 else if (f < 0 ∨ 999 < f) then 2 else 0
set_option maxRecDepth 100000 in
set_option maxHeartbeats 4000000 in
theorem c_X9_nextGap {G : AG} {M : Nat → Nat → Int32} {n : Nat} (hn : 72 ≤ n) {nc ns nz nb nr t : Nat} (hI : CI M nc ns nz nb nr t)  (c f : Int32) : AMet tX9_nextGap yX9_nextGap [Cond.code yX9_nextGap cX9_nextGap 4 (some .int)] [.ref 0, .int c, .int f] (wld G M) n (PO ["java/lang/IndexOutOfBoundsException", "java/lang/IllegalArgumentException"] (cd_nextGap M c f) (some (.int (gapN (fun i => frM M ns nb c (nI i) && !frM M ns nb c (nI i - 1)) f.toNatClampNeg (999 - f.toNatClampNeg)))) G M M n) := by
  obtain ⟨hc, hcl, hs, hsl, hz, hzl, hb, hbl, hr, hrl, ht, htl⟩ := id hI
  refine am_of (lo := [_, _, _, _]) (by decide) rfl (fun q => by cases q) rfl rfl rfl ?_
  refine aw_aload_n dX9_nextGap_0 rfl ?_
  refine aw_iload_n dX9_nextGap_1 rfl ?_
  refine ap_chkV kw_X9_80 kv_X9_80 ko_X9_checkClass (c_X9_checkClass hn _) dX9_nextGap_2 e_0 (l_0 hn) rfl rfl rfl rfl (ble' rfl) (by decide) (fun q => po_e 0 (by rw [cd_nextGap, if_pos q]) rfl (seq_rf)) (fun b2 => ?_)
  refine aw_iload_n dX9_nextGap_5 rfl ?_
  refine aw_iconst (v := 0) dX9_nextGap_6 (by decide) ?_
  refine aw_sipush (v := 999) dX9_nextGap_7 (by decide) ?_
  refine ap_chkS kw_X9_56 ks_X9_56 ko_X9_checkRange (c_X9_checkRange _ _ _) dX9_nextGap_10 rfl rfl (ble' rfl) (by decide) (fun q => po_e 1 (by rw [cd_nextGap, if_neg b2, if_pos q]) rfl (seq_rf)) (fun b10 => ?_)
  obtain ⟨kc, hkc, hk⟩ := ck_ix hc (by omega) b2
  obtain ⟨d, -, hd9, hd⟩ := ck_rng (show (0 : Int32) = nI 0 from rfl) (show (999 : Int32) = nI 999 from rfl) (by decide) (by decide) b10
  refine aw_aload_n dX9_nextGap_13 rfl ?_
  refine aw_get fl_X9_28 dX9_nextGap_14 e_0 (l_0 hn) rfl ?_
  refine aw_iload_n dX9_nextGap_17 rfl ?_
  refine ap_callVv kv_X9_142 ko_X8_turnTo (cj_turn hn c) dX9_nextGap_18 e_56 (l_56 hn) rfl rfl rfl rfl (ble' rfl) (by decide) ?_
  refine aw_iload_n dX9_nextGap_21 rfl ?_
  refine aw_istore_n (lo' := [_, _, _, some (.int _)]) dX9_nextGap_22 (by decide) rfl ?_
  exact lp_X9_nextGap hn hI hk hkc hd9 (fun v r q => po_i (by rw [cd_nextGap, if_neg b2, if_neg b10]) (by rw [cl_of hd (by omega)]; exact q) (seq_57 (seq_56 seq_rf))) 1001 0 _ _ (by omega) (by omega) hd rfl (kn0 _ _)
