theorem lg_gt {x y : Int64} : 0 < lg_cmp x y ↔ y < x := by
  unfold lg_cmp
  by_cases h : y < x
  · have h1 : x > y := h
    rw [if_pos h1]; exact ⟨fun _ => h, fun _ => by decide⟩
  · have h1 : ¬ x > y := h
    rw [if_neg h1]
    refine ⟨fun q => ?_, fun q => absurd q h⟩
    by_cases h2 : x = y
    · rw [if_pos h2] at q; exact absurd q (by decide)
    · rw [if_neg h2] at q; exact absurd q (by decide)
/-- the stay leaves the window (in the reference's own arithmetic) -/
abbrev lvR (t w a m : Int32) : Prop := a < t ∨ (998 : Int64) < a.toInt64 + m.toInt64 - 1 ∨ w.toInt64 < a.toInt64 + m.toInt64 - 1 - t.toInt64
theorem lv_natR {t a m : Int32} {tt mm : Nat} (ht : t = nI tt) (htl : tt ≤ 999) (hm : m = nI mm) (hm1 : 1 ≤ mm) (hm9 : mm ≤ 28) (h1 : ¬ a < t) (h2 : ¬ (998 : Int64) < a.toInt64 + m.toInt64 - 1) : ∃ x, a = nI x ∧ tt ≤ x ∧ x + mm ≤ 999 := by
  have h0 : ¬ a < 0 := by
    intro q
    apply h1
    rw [ht]
    rw [Int32.lt_iff_toInt_lt] at q ⊢
    rw [nI_toInt (by omega)]
    have : (0 : Int32).toInt = 0 := by decide
    omega
  obtain ⟨x, hx9, rfl⟩ := nI_of h0
  rw [hm, nI_l hx9, nI_l (by omega), lN_add, show (1 : Int64) = lN 1 from rfl, lN_sub (by omega), Int64.lt_iff_toInt_lt, show (lN (x + mm - 1)).toInt = ((x + mm - 1 : Nat) : Int) from lg_ofNat_toInt (by omega)] at h2
  have h9 : (998 : Int64).toInt = 998 := by decide
  rw [h9] at h2
  refine ⟨x, rfl, ?_, by omega⟩
  exact le_of_nlt rfl ht (by omega) (by omega) h1
def frR (M : Nat → Nat → Int32) (ns nb k : Nat) (c d : Int32) : Bool := decide (¬ avV M ns nb k c d = 0)
def onV (M : Nat → Nat → Int32) (ns nb k : Nat) (c a m : Int32) : Int32 := obN (lvR (M 64 0) (V M 3 k) a m) (frR M ns nb k c) a m.toNatClampNeg
def mnV (M : Nat → Nat → Int32) (nz : Nat) (c d : Int32) : Int32 := sval (seasN (V M 10) (V M 11) (V M 12) c d nz) (V M 13) 1
def osV (M : Nat → Nat → Int32) (ns nb nz k : Nat) (c a m : Int32) : Int32 := obS (onV M ns nb k c a m) (mnV M nz c a) m (frR M ns nb k c (a - 1)) (frR M ns nb k c (a + m))
set_option maxRecDepth 100000 in
set_option maxHeartbeats 4000000 in
theorem lp_X10_nightsObstacle {G : AG} {M : Nat → Nat → Int32} {n : Nat} (hn : 72 ≤ n) {ns : Nat} (hs : M 64 2 = nI ns) (hsl : ns ≤ 16) {nb : Nat} (hb : M 64 4 = nI nb) (hbl : nb ≤ 60) {c : Int32} {kc : Nat} (hk : c = nI kc) (hkc : kc < 4) {a m : Int32} {x mm : Nat} (ha : a = nI x) (hm : m = nI mm) (hx : x + mm ≤ 999) {x4 : Int64} : ∀ (j : Nat) (i : Nat) (x6 : Int32), mm - i < j → i ≤ mm → x6 = nI (x + i) → allN (fun i => frR M ns nb kc c (nI i)) x i = true →  AW tX10_nightsObstacle (AQm tX10_nightsObstacle (PD (.inl (some (.int (if allN (fun i => frR M ns nb kc c (nI i)) x mm = true then 0 else 2)))) (wld G M) n)) C0 54 [some (.ref 63), some (.int c), some (.int a), some (.int m), some (.long x4), none, some (.int x6)] [] (wld G M) n 0 0 := by
  intro j
  induction j with
  | zero => intro i x6 h0 hi h6 hq; omega
  | succ j ih =>
    intro i x6 h0 hi h6 hq
    refine aw_iload dX10_nightsObstacle_54 rfl ?_
    refine aw_iload_n dX10_nightsObstacle_56 rfl ?_
    refine aw_iload_n dX10_nightsObstacle_57 rfl ?_
    refine aw_iadd dX10_nightsObstacle_58 ?_
    refine aw_icmp_ge 80 dX10_nightsObstacle_59 (by decide) (fun c59 => ?_) (fun c59 => ?_)
    · have n59 := Int32.not_lt.mpr c59
      refine aw_iconst (v := 0) dX10_nightsObstacle_80 (by decide) ?_
      refine aw_iret rfl dX10_nightsObstacle_81 (ble' rfl) (ble' rfl) ?_
      have hie : i = mm := by have := le_of_le (show a + m = nI (x + mm) by rw [ha, hm, nI_add]) h6 (by omega) (by omega) c59; omega
      exact pd_i (by rw [← hie, hq, if_pos rfl])
    · have n59 := Int32.not_le.mp c59
      have hlt : x + i < x + mm := lt_of_nle (show a + m = nI (x + mm) by rw [ha, hm, nI_add]) h6 (by omega) (by omega) c59
      refine aw_aload_n dX10_nightsObstacle_62 rfl ?_
      refine aw_iload_n dX10_nightsObstacle_63 rfl ?_
      refine aw_iload dX10_nightsObstacle_64 rfl ?_
      refine ap_callVi kv_X10_117 ko_X10_availableOf (c_X10_availableOf hn hs hsl hb hbl hk hkc _) dX10_nightsObstacle_66 e_63 (l_63 hn) rfl rfl rfl rfl (ble' rfl) (by decide) ?_
      refine aw_if_ne 74 dX10_nightsObstacle_69 (by decide) (fun c69 => ?_) (fun c69 => ?_)
      · refine aw_iinc (lo' := [_, _, _, _, _, _, some (.int _)]) dX10_nightsObstacle_74 rfl (by decide) rfl ?_
        refine aw_goto 54 dX10_nightsObstacle_77 (by decide) ?_
        exact ih (i + 1) _ (by omega) (by omega) (by rw [h6]; exact inc1 _) (all_go hq (by simp only [frR, decide_eq_true_eq]; rw [← h6]; exact c69))
      · refine aw_iconst (v := 2) dX10_nightsObstacle_72 (by decide) ?_
        refine aw_iret rfl dX10_nightsObstacle_73 (ble' rfl) (ble' rfl) ?_
        exact pd_i (by rw [all_bad (i := i) (by simp only [frR, decide_eq_false_iff_not, Classical.not_not]; rw [← h6]; exact c69) (by omega)]; rfl)

set_option maxRecDepth 100000 in
set_option maxHeartbeats 4000000 in
theorem c_X10_nightsObstacle {G : AG} {M : Nat → Nat → Int32} {n : Nat} (hn : 72 ≤ n) {ns : Nat} (hs : M 64 2 = nI ns) (hsl : ns ≤ 16) {nb : Nat} (hb : M 64 4 = nI nb) (hbl : nb ≤ 60) {c : Int32} {kc : Nat} (hk : c = nI kc) (hkc : kc < 4) {tt : Nat} (ht : M 64 0 = nI tt) (htl : tt ≤ 999) {a m : Int32} {mm : Nat} (hm : m = nI mm) (hm1 : 1 ≤ mm) (hm9 : mm ≤ 28) : AMet tX10_nightsObstacle yX10_nightsObstacle [Cond.code yX10_nightsObstacle cX10_nightsObstacle 7 (some .int)] [.ref 63, .int c, .int a, .int m] (wld G M) n (PD (.inl (some (.int (onV M ns nb kc c a m)))) (wld G M) n) := by
  refine am_of (lo := [_, _, _, _, _, _, _]) (by decide) rfl (fun q => by cases q) rfl rfl rfl ?_
  refine aw_iload_n dX10_nightsObstacle_0 rfl ?_
  refine aw_i2l dX10_nightsObstacle_1 ?_
  refine aw_iload_n dX10_nightsObstacle_2 rfl ?_
  refine aw_i2l dX10_nightsObstacle_3 ?_
  refine aw_ladd dX10_nightsObstacle_4 ?_
  refine aw_lconst (v := 1) dX10_nightsObstacle_5 (by decide) ?_
  refine aw_lsub dX10_nightsObstacle_6 ?_
  refine aw_lstore (lo' := [_, _, _, _, some (.long _), _, _]) dX10_nightsObstacle_7 (by decide) rfl ?_
  refine aw_iload_n dX10_nightsObstacle_9 rfl ?_
  refine aw_aload_n dX10_nightsObstacle_10 rfl ?_
  refine aw_get fl_X10_7 dX10_nightsObstacle_11 e_63 (l_63 hn) rfl ?_
  refine aw_iconst (v := 0) dX10_nightsObstacle_14 (by decide) ?_
  refine aw_ialdk dX10_nightsObstacle_15 e_64 (l_64 hn) (show (0 : Int32) = nI 0 from rfl) (by decide) rfl ?_
  refine aw_icmp_lt 49 dX10_nightsObstacle_16 (by decide) (fun c16 => ?_) (fun c16 => ?_)
  · have n16 := Int32.not_le.mpr c16
    refine aw_iconst (v := 1) dX10_nightsObstacle_49 (by decide) ?_
    refine aw_iret rfl dX10_nightsObstacle_50 (ble' rfl) (ble' rfl) ?_
    exact pd_i (by rw [onV, obN, if_pos (Or.inl c16)])
  · have n16 := Int32.not_lt.mp c16
    refine aw_lload dX10_nightsObstacle_19 rfl ?_
    refine aw_ldc2 (v := 998) (gw_at 1550 (by decide +kernel) rfl) dX10_nightsObstacle_21 ?_
    refine aw_lcmp dX10_nightsObstacle_24 ?_
    refine aw_if_gt 49 dX10_nightsObstacle_25 (by decide) (fun c25 => ?_) (fun c25 => ?_)
    · have n25 := Int32.not_le.mpr c25
      refine aw_iconst (v := 1) dX10_nightsObstacle_49 (by decide) ?_
      refine aw_iret rfl dX10_nightsObstacle_50 (ble' rfl) (ble' rfl) ?_
      exact pd_i (by rw [onV, obN, if_pos (Or.inr (Or.inl (lg_gt.mp c25)))])
    · have n25 := Int32.not_lt.mp c25
      refine aw_lload dX10_nightsObstacle_28 rfl ?_
      refine aw_aload_n dX10_nightsObstacle_30 rfl ?_
      refine aw_get fl_X10_7 dX10_nightsObstacle_31 e_63 (l_63 hn) rfl ?_
      refine aw_iconst (v := 0) dX10_nightsObstacle_34 (by decide) ?_
      refine aw_ialdk dX10_nightsObstacle_35 e_64 (l_64 hn) (show (0 : Int32) = nI 0 from rfl) (by decide) rfl ?_
      refine aw_i2l dX10_nightsObstacle_36 ?_
      refine aw_lsub dX10_nightsObstacle_37 ?_
      refine aw_aload_n dX10_nightsObstacle_38 rfl ?_
      refine aw_iload_n dX10_nightsObstacle_39 rfl ?_
      refine aw_iconst (v := 0) dX10_nightsObstacle_40 (by decide) ?_
      refine ap_callVi kv_X10_91 ko_X10_siteClass (c_X10_siteClass_0 hn hk hkc) dX10_nightsObstacle_41 e_63 (l_63 hn) rfl rfl rfl rfl (ble' rfl) (by decide) ?_
      refine aw_i2l dX10_nightsObstacle_44 ?_
      refine aw_lcmp dX10_nightsObstacle_45 ?_
      refine aw_if_le 51 dX10_nightsObstacle_46 (by decide) (fun c46 => ?_) (fun c46 => ?_)
      · have n46 := Int32.not_lt.mpr c46
        refine aw_iload_n dX10_nightsObstacle_51 rfl ?_
        refine aw_istore (lo' := [_, _, _, _, _, _, some (.int _)]) dX10_nightsObstacle_52 (by decide) rfl ?_
        obtain ⟨x, hx, hx1, hx2⟩ := lv_natR ht htl hm hm1 hm9 c16 (fun q => c25 (lg_gt.mpr q))
        have hno : ¬ lvR (M 64 0) (V M 3 kc) a m := fun q => q.elim c16 (fun q => q.elim (fun q => c25 (lg_gt.mpr q)) (lg_le.mp c46))
        have e : onV M ns nb kc c a m = if allN (fun i => frR M ns nb kc c (nI i)) x mm = true then 0 else 2 := by rw [onV, obN, if_neg hno, cl_of hx (by omega), cl_of hm (by omega)]
        rw [e]
        exact lp_X10_nightsObstacle hn hs hsl hb hbl hk hkc hx hm hx2 (mm + 1) 0 _ (by omega) (by omega) hx rfl
      · have n46 := Int32.not_le.mp c46
        refine aw_iconst (v := 1) dX10_nightsObstacle_49 (by decide) ?_
        refine aw_iret rfl dX10_nightsObstacle_50 (ble' rfl) (ble' rfl) ?_
        exact pd_i (by rw [onV, obN, if_pos (Or.inr (Or.inr (Classical.byContradiction (fun q => c46 (lg_le.mpr q)))))])

set_option maxRecDepth 100000 in
set_option maxHeartbeats 4000000 in
theorem c_X10_obstacleOf {G : AG} {M : Nat → Nat → Int32} {n : Nat} (hn : 72 ≤ n) {ns : Nat} (hs : M 64 2 = nI ns) (hsl : ns ≤ 16) {nb : Nat} (hb : M 64 4 = nI nb) (hbl : nb ≤ 60) {c : Int32} {kc : Nat} (hk : c = nI kc) (hkc : kc < 4) {nz : Nat} (hz : M 64 3 = nI nz) (hzl : nz ≤ 12) {tt : Nat} (ht : M 64 0 = nI tt) (htl : tt ≤ 999) {a m : Int32} {mm : Nat} (hm : m = nI mm) (hm1 : 1 ≤ mm) (hm9 : mm ≤ 28) : AMet tX10_obstacleOf yX10_obstacleOf [Cond.code yX10_obstacleOf cX10_obstacleOf 6 (some .int)] [.ref 63, .int c, .int a, .int m] (wld G M) n (PD (.inl (some (.int (osV M ns nb nz kc c a m)))) (wld G M) n) := by
  refine am_of (lo := [_, _, _, _, _, _]) (by decide) rfl (fun q => by cases q) rfl rfl rfl ?_
  refine aw_aload_n dX10_obstacleOf_0 rfl ?_
  refine aw_iload_n dX10_obstacleOf_1 rfl ?_
  refine aw_iload_n dX10_obstacleOf_2 rfl ?_
  refine aw_iload_n dX10_obstacleOf_3 rfl ?_
  refine ap_callVi kv_X10_122 ko_X10_nightsObstacle (c_X10_nightsObstacle hn hs hsl hb hbl hk hkc ht htl hm hm1 hm9) dX10_obstacleOf_4 e_63 (l_63 hn) rfl rfl rfl rfl (ble' rfl) (by decide) ?_
  refine aw_istore (lo' := [_, _, _, _, some (.int _), _]) dX10_obstacleOf_7 (by decide) rfl ?_
  refine aw_iload dX10_obstacleOf_9 rfl ?_
  refine aw_if_ne 24 dX10_obstacleOf_11 (by decide) (fun c11 => ?_) (fun c11 => ?_)
  · refine aw_iload dX10_obstacleOf_24 rfl ?_
    refine aw_iret rfl dX10_obstacleOf_26 (ble' rfl) (ble' rfl) ?_
    exact pd_i (by rw [osV, obS, if_pos c11])
  · refine aw_iload_n dX10_obstacleOf_14 rfl ?_
    refine aw_aload_n dX10_obstacleOf_15 rfl ?_
    refine aw_iload_n dX10_obstacleOf_16 rfl ?_
    refine aw_iload_n dX10_obstacleOf_17 rfl ?_
    refine ap_callVi kv_X10_81 ko_X10_minimumOf (c_X10_minimumOf hn hz hzl c a) dX10_obstacleOf_18 e_63 (l_63 hn) rfl rfl rfl rfl (ble' rfl) (by decide) ?_
    refine aw_icmp_lt 27 dX10_obstacleOf_21 (by decide) (fun c21 => ?_) (fun c21 => ?_)
    · have n21 := Int32.not_le.mpr c21
      refine aw_aload_n dX10_obstacleOf_27 rfl ?_
      refine aw_iload_n dX10_obstacleOf_28 rfl ?_
      refine aw_iload_n dX10_obstacleOf_29 rfl ?_
      refine aw_iconst (v := 1) dX10_obstacleOf_30 (by decide) ?_
      refine aw_isub dX10_obstacleOf_31 ?_
      refine ap_callVi kv_X10_117 ko_X10_availableOf (c_X10_availableOf hn hs hsl hb hbl hk hkc _) dX10_obstacleOf_32 e_63 (l_63 hn) rfl rfl rfl rfl (ble' rfl) (by decide) ?_
      refine aw_if_ne 53 dX10_obstacleOf_35 (by decide) (fun c35 => ?_) (fun c35 => ?_)
      · refine aw_iconst (v := 0) dX10_obstacleOf_53 (by decide) ?_
        refine aw_istore (lo' := [_, _, _, _, _, some (.int _)]) dX10_obstacleOf_54 (by decide) rfl ?_
        refine aw_iload dX10_obstacleOf_56 rfl ?_
        refine aw_if_eq 65 dX10_obstacleOf_58 (by decide) (fun _ => ?_) (fun q => absurd q (by decide))
        refine aw_iconst (v := 3) dX10_obstacleOf_65 (by decide) ?_
        refine aw_iret rfl dX10_obstacleOf_66 (ble' rfl) (ble' rfl) ?_
        exact pd_i (by rw [osV, obS, if_neg (fun q => q c11), if_pos (show m < mnV M nz c a from c21), if_neg (fun q => absurd q.1 (by simp only [frR, decide_eq_false_iff_not, Classical.not_not]; exact c35))])
      · refine aw_aload_n dX10_obstacleOf_38 rfl ?_
        refine aw_iload_n dX10_obstacleOf_39 rfl ?_
        refine aw_iload_n dX10_obstacleOf_40 rfl ?_
        refine aw_iload_n dX10_obstacleOf_41 rfl ?_
        refine aw_iadd dX10_obstacleOf_42 ?_
        refine ap_callVi kv_X10_117 ko_X10_availableOf (c_X10_availableOf hn hs hsl hb hbl hk hkc _) dX10_obstacleOf_43 e_63 (l_63 hn) rfl rfl rfl rfl (ble' rfl) (by decide) ?_
        refine aw_if_ne 53 dX10_obstacleOf_46 (by decide) (fun c46 => ?_) (fun c46 => ?_)
        · refine aw_iconst (v := 0) dX10_obstacleOf_53 (by decide) ?_
          refine aw_istore (lo' := [_, _, _, _, _, some (.int _)]) dX10_obstacleOf_54 (by decide) rfl ?_
          refine aw_iload dX10_obstacleOf_56 rfl ?_
          refine aw_if_eq 65 dX10_obstacleOf_58 (by decide) (fun _ => ?_) (fun q => absurd q (by decide))
          refine aw_iconst (v := 3) dX10_obstacleOf_65 (by decide) ?_
          refine aw_iret rfl dX10_obstacleOf_66 (ble' rfl) (ble' rfl) ?_
          exact pd_i (by rw [osV, obS, if_neg (fun q => q c11), if_pos (show m < mnV M nz c a from c21), if_neg (fun q => absurd q.2 (by simp only [frR, decide_eq_false_iff_not, Classical.not_not]; exact c46))])
        · refine aw_iconst (v := 1) dX10_obstacleOf_49 (by decide) ?_
          refine aw_goto 54 dX10_obstacleOf_50 (by decide) ?_
          refine aw_istore (lo' := [_, _, _, _, _, some (.int _)]) dX10_obstacleOf_54 (by decide) rfl ?_
          refine aw_iload dX10_obstacleOf_56 rfl ?_
          refine aw_if_eq 65 dX10_obstacleOf_58 (by decide) (fun q => absurd q (by decide)) (fun _ => ?_)
          refine aw_iconst (v := 0) dX10_obstacleOf_61 (by decide) ?_
          refine aw_goto 66 dX10_obstacleOf_62 (by decide) ?_
          refine aw_iret rfl dX10_obstacleOf_66 (ble' rfl) (ble' rfl) ?_
          exact pd_i (by rw [osV, obS, if_neg (fun q => q c11), if_pos (show m < mnV M nz c a from c21), if_pos ⟨(show frR M ns nb kc c (a - 1) = false by simp only [frR, decide_eq_false_iff_not, Classical.not_not]; exact c35), (show frR M ns nb kc c (a + m) = false by simp only [frR, decide_eq_false_iff_not, Classical.not_not]; exact c46)⟩])
    · have n21 := Int32.not_lt.mp c21
      refine aw_iload dX10_obstacleOf_24 rfl ?_
      refine aw_iret rfl dX10_obstacleOf_26 (ble' rfl) (ble' rfl) ?_
      exact pd_i (by rw [osV, obS, if_neg (fun q => q c11), if_neg (show ¬ m < mnV M nz c a from c21)])

set_option maxRecDepth 100000 in
set_option maxHeartbeats 4000000 in
theorem lp_X10_isOccupied {G : AG} {M : Nat → Nat → Int32} {n : Nat} (hn : 72 ≤ n) {nb : Nat} (hb : M 64 4 = nI nb) (hbl : nb ≤ 60) (s : Int32) : ∀ (j : Nat) (k : Nat) (x2 x3 : Int32), nb - k < j → k ≤ nb → x3 = nI k → x2 = bI ((anyB (sbB (V M 20) (V M 21) s) k) = true) →  AW tX10_isOccupied (AQm tX10_isOccupied (PD (.inl (some (.int (bI ((anyB (sbB (V M 20) (V M 21) s) nb) = true))))) (wld G M) n)) C0 4 [some (.ref 63), some (.int s), some (.int x2), some (.int x3)] [] (wld G M) n 0 0 := by
  intro j
  induction j with
  | zero => intro k x2 x3 h0 hk9 h3 h2; omega
  | succ j ih =>
    intro k x2 x3 h0 hk9 h3 h2
    refine aw_iload_n dX10_isOccupied_4 rfl ?_
    refine aw_aload_n dX10_isOccupied_5 rfl ?_
    refine aw_get fl_X10_7 dX10_isOccupied_6 e_63 (l_63 hn) rfl ?_
    refine aw_iconst (v := 4) dX10_isOccupied_9 (by decide) ?_
    refine aw_ialdk dX10_isOccupied_10 e_64 (l_64 hn) (show (4 : Int32) = nI 4 from rfl) (by decide) rfl ?_
    refine aw_icmp_ge 50 dX10_isOccupied_11 (by decide) (fun c11 => ?_) (fun c11 => ?_)
    · have n11 := Int32.not_lt.mpr c11
      refine aw_iload_n dX10_isOccupied_50 rfl ?_
      refine aw_zret rfl dX10_isOccupied_51 (by rw [h2]; exact bI_narrow _) (ble' rfl) (ble' rfl) ?_
      have hke : k = nb := Nat.le_antisymm hk9 (le_of_le hb h3 (by omega) (by omega) c11)
      exact pd_i (by rw [h2, hke])
    · have n11 := Int32.not_le.mp c11
      have hlt : k < nb := lt_of_nle hb h3 (by omega) (by omega) c11
      refine aw_iload_n dX10_isOccupied_14 rfl ?_
      refine aw_if_ne 38 dX10_isOccupied_15 (by decide) (fun c15 => ?_) (fun c15 => ?_)
      · refine aw_iconst (v := 1) dX10_isOccupied_38 (by decide) ?_
        refine aw_goto 43 dX10_isOccupied_39 (by decide) ?_
        refine aw_istore_n (lo' := [_, _, some (.int _), _]) dX10_isOccupied_43 (by decide) rfl ?_
        refine aw_iinc (lo' := [_, _, _, some (.int _)]) dX10_isOccupied_44 rfl (by decide) rfl ?_
        refine aw_goto 4 dX10_isOccupied_47 (by decide) ?_
        have q9 : (anyB (sbB (V M 20) (V M 21) s) k) = true := bI_nz.mp (by rw [← h2]; exact c15)
        exact ih (k + 1) _ _ (by omega) (by omega) (by rw [h3]; exact inc1 k) (bI_t (by unfold anyB; rw [q9]; rfl)).symm
      · refine aw_aload_n dX10_isOccupied_18 rfl ?_
        refine aw_iload_n dX10_isOccupied_19 rfl ?_
        refine aw_iconst (v := 4) dX10_isOccupied_20 (by decide) ?_
        refine ap_callVi kv_X10_102 ko_X10_booking (c_X10_booking_4 hn h3 (by omega)) dX10_isOccupied_21 e_63 (l_63 hn) rfl rfl rfl rfl (ble' rfl) (by decide) ?_
        refine aw_iconst (v := 1) dX10_isOccupied_24 (by decide) ?_
        refine aw_icmp_ne 42 dX10_isOccupied_25 (by decide) (fun c25 => ?_) (fun c25 => ?_)
        · refine aw_iconst (v := 0) dX10_isOccupied_42 (by decide) ?_
          refine aw_istore_n (lo' := [_, _, some (.int _), _]) dX10_isOccupied_43 (by decide) rfl ?_
          refine aw_iinc (lo' := [_, _, _, some (.int _)]) dX10_isOccupied_44 rfl (by decide) rfl ?_
          refine aw_goto 4 dX10_isOccupied_47 (by decide) ?_
          exact ih (k + 1) _ _ (by omega) (by omega) (by rw [h3]; exact inc1 k) (bI_f (by unfold anyB; have := bI_z.mp (by rw [← h2]; exact c15); simp only [Bool.not_eq_true] at this; rw [this]; simp [sbB, c25])).symm
        · refine aw_aload_n dX10_isOccupied_28 rfl ?_
          refine aw_iload_n dX10_isOccupied_29 rfl ?_
          refine aw_iconst (v := 5) dX10_isOccupied_30 (by decide) ?_
          refine ap_callVi kv_X10_102 ko_X10_booking (c_X10_booking_5 hn h3 (by omega)) dX10_isOccupied_31 e_63 (l_63 hn) rfl rfl rfl rfl (ble' rfl) (by decide) ?_
          refine aw_iload_n dX10_isOccupied_34 rfl ?_
          refine aw_icmp_ne 42 dX10_isOccupied_35 (by decide) (fun c35 => ?_) (fun c35 => ?_)
          · refine aw_iconst (v := 0) dX10_isOccupied_42 (by decide) ?_
            refine aw_istore_n (lo' := [_, _, some (.int _), _]) dX10_isOccupied_43 (by decide) rfl ?_
            refine aw_iinc (lo' := [_, _, _, some (.int _)]) dX10_isOccupied_44 rfl (by decide) rfl ?_
            refine aw_goto 4 dX10_isOccupied_47 (by decide) ?_
            exact ih (k + 1) _ _ (by omega) (by omega) (by rw [h3]; exact inc1 k) (bI_f (by unfold anyB; have := bI_z.mp (by rw [← h2]; exact c15); simp only [Bool.not_eq_true] at this; rw [this]; simp [sbB, c35])).symm
          · refine aw_iconst (v := 1) dX10_isOccupied_38 (by decide) ?_
            refine aw_goto 43 dX10_isOccupied_39 (by decide) ?_
            refine aw_istore_n (lo' := [_, _, some (.int _), _]) dX10_isOccupied_43 (by decide) rfl ?_
            refine aw_iinc (lo' := [_, _, _, some (.int _)]) dX10_isOccupied_44 rfl (by decide) rfl ?_
            refine aw_goto 4 dX10_isOccupied_47 (by decide) ?_
            exact ih (k + 1) _ _ (by omega) (by omega) (by rw [h3]; exact inc1 k) (bI_t (by unfold anyB; simp [sbB, c25, c35])).symm

set_option maxRecDepth 100000 in
set_option maxHeartbeats 4000000 in
theorem c_X10_isOccupied {G : AG} {M : Nat → Nat → Int32} {n : Nat} (hn : 72 ≤ n) {nb : Nat} (hb : M 64 4 = nI nb) (hbl : nb ≤ 60) (s : Int32) : AMet tX10_isOccupied yX10_isOccupied [Cond.code yX10_isOccupied cX10_isOccupied 4 (some .boolean)] [.ref 63, .int s] (wld G M) n (PD (.inl (some (.int (bI ((anyB (sbB (V M 20) (V M 21) s) nb) = true))))) (wld G M) n) := by
  refine am_of (lo := [_, _, _, _]) (by decide) rfl (fun q => by cases q) rfl rfl rfl ?_
  refine aw_iconst (v := 0) dX10_isOccupied_0 (by decide) ?_
  refine aw_istore_n (lo' := [_, _, some (.int _), _]) dX10_isOccupied_1 (by decide) rfl ?_
  refine aw_iconst (v := 0) dX10_isOccupied_2 (by decide) ?_
  refine aw_istore_n (lo' := [_, _, _, some (.int _)]) dX10_isOccupied_3 (by decide) rfl ?_
  exact lp_X10_isOccupied hn hb hbl s (nb + 1) 0 _ _ (by omega) (by omega) rfl rfl

def vaV (M : Nat → Nat → Int32) (nb : Nat) (s : Int32) (k : Nat) : Bool := decide (V M 8 k ≤ M 64 0) && !anyB (sbB (V M 20) (V M 21) s) nb
set_option maxRecDepth 100000 in
set_option maxHeartbeats 4000000 in
theorem c_X10_isVacant {G : AG} {M : Nat → Nat → Int32} {n : Nat} (hn : 72 ≤ n) {nb : Nat} (hb : M 64 4 = nI nb) (hbl : nb ≤ 60) {s : Int32} {k : Nat} (hk : s = nI k) (hk6 : k < 16) : AMet tX10_isVacant yX10_isVacant [Cond.code yX10_isVacant cX10_isVacant 2 (some .boolean)] [.ref 63, .int s] (wld G M) n (PD (.inl (some (.int (bI (vaV M nb s k = true))))) (wld G M) n) := by
  refine am_of (lo := [_, _]) (by decide) rfl (fun q => by cases q) rfl rfl rfl ?_
  refine aw_aload_n dX10_isVacant_0 rfl ?_
  refine aw_iload_n dX10_isVacant_1 rfl ?_
  refine aw_aload_n dX10_isVacant_2 rfl ?_
  refine aw_get fl_X10_7 dX10_isVacant_3 e_63 (l_63 hn) rfl ?_
  refine aw_iconst (v := 0) dX10_isVacant_6 (by decide) ?_
  refine aw_ialdk dX10_isVacant_7 e_64 (l_64 hn) (show (0 : Int32) = nI 0 from rfl) (by decide) rfl ?_
  refine ap_callVi kv_X10_84 ko_X10_isOpenOn (c_X10_isOpenOn hn hk hk6) dX10_isVacant_8 e_63 (l_63 hn) rfl rfl rfl rfl (ble' rfl) (by decide) ?_
  refine aw_if_eq 26 dX10_isVacant_11 (by decide) (fun c11 => ?_) (fun c11 => ?_)
  · have n11 := bI_z.mp c11
    refine aw_iconst (v := 0) dX10_isVacant_26 (by decide) ?_
    refine aw_zret rfl dX10_isVacant_27 rfl (ble' rfl) (ble' rfl) ?_
    exact pd_i (bI_f (by unfold vaV; simp [n11])).symm
  · have n11 := bI_nz.mp c11
    refine aw_aload_n dX10_isVacant_14 rfl ?_
    refine aw_iload_n dX10_isVacant_15 rfl ?_
    refine ap_callVi kv_X10_147 ko_X10_isOccupied (c_X10_isOccupied hn hb hbl s) dX10_isVacant_16 e_63 (l_63 hn) rfl rfl rfl rfl (ble' rfl) (by decide) ?_
    refine aw_if_ne 26 dX10_isVacant_19 (by decide) (fun c19 => ?_) (fun c19 => ?_)
    · have n19 := bI_nz.mp c19
      refine aw_iconst (v := 0) dX10_isVacant_26 (by decide) ?_
      refine aw_zret rfl dX10_isVacant_27 rfl (ble' rfl) (ble' rfl) ?_
      exact pd_i (bI_f (by unfold vaV; simp [n19])).symm
    · have n19 := bI_z.mp c19
      refine aw_iconst (v := 1) dX10_isVacant_22 (by decide) ?_
      refine aw_goto 27 dX10_isVacant_23 (by decide) ?_
      refine aw_zret rfl dX10_isVacant_27 rfl (ble' rfl) (ble' rfl) ?_
      exact pd_i (bI_t (by unfold vaV; simp only [Bool.not_eq_true] at n19; simp [n11, n19])).symm

set_option maxRecDepth 100000 in
set_option maxHeartbeats 4000000 in
theorem lp_X10_vacantSiteOf {G : AG} {M : Nat → Nat → Int32} {n : Nat} (hn : 72 ≤ n) {ns : Nat} (hs : M 64 2 = nI ns) (hsl : ns ≤ 16) {nb : Nat} (hb : M 64 4 = nI nb) (hbl : nb ≤ 60) (c : Int32) : ∀ (j : Nat) (k : Nat) (x2 : Int32), ns - k < j → k ≤ ns → x2 = nI k → fstN (fun k => decide (V M 7 k = c) && vaV M nb (nI k) k) k = -1 →  AW tX10_vacantSiteOf (AQm tX10_vacantSiteOf (PD (.inl (some (.int (fstN (fun k => decide (V M 7 k = c) && vaV M nb (nI k) k) ns)))) (wld G M) n)) C0 2 [some (.ref 63), some (.int c), some (.int x2)] [] (wld G M) n 0 0 := by
  intro j
  induction j with
  | zero => intro k x2 h0 hk9 h2 hf; omega
  | succ j ih =>
    intro k x2 h0 hk9 h2 hf
    refine aw_iload_n dX10_vacantSiteOf_2 rfl ?_
    refine aw_aload_n dX10_vacantSiteOf_3 rfl ?_
    refine aw_get fl_X10_7 dX10_vacantSiteOf_4 e_63 (l_63 hn) rfl ?_
    refine aw_iconst (v := 2) dX10_vacantSiteOf_7 (by decide) ?_
    refine aw_ialdk dX10_vacantSiteOf_8 e_64 (l_64 hn) (show (2 : Int32) = nI 2 from rfl) (by decide) rfl ?_
    refine aw_icmp_ge 38 dX10_vacantSiteOf_9 (by decide) (fun c9 => ?_) (fun c9 => ?_)
    · have n9 := Int32.not_lt.mpr c9
      refine aw_iconst (v := -1) dX10_vacantSiteOf_38 (by decide) ?_
      refine aw_iret rfl dX10_vacantSiteOf_39 (ble' rfl) (ble' rfl) ?_
      have hke : k = ns := Nat.le_antisymm hk9 (le_of_le hs h2 (by omega) (by omega) c9)
      exact pd_i (by rw [← hke, hf])
    · have n9 := Int32.not_le.mp c9
      have hlt : k < ns := lt_of_nle hs h2 (by omega) (by omega) c9
      refine aw_aload_n dX10_vacantSiteOf_12 rfl ?_
      refine aw_iload_n dX10_vacantSiteOf_13 rfl ?_
      refine aw_iconst (v := 0) dX10_vacantSiteOf_14 (by decide) ?_
      refine ap_callVi kv_X10_68 ko_X10_site (c_X10_site_0 hn h2 (by omega)) dX10_vacantSiteOf_15 e_63 (l_63 hn) rfl rfl rfl rfl (ble' rfl) (by decide) ?_
      refine aw_iload_n dX10_vacantSiteOf_18 rfl ?_
      refine aw_icmp_ne 32 dX10_vacantSiteOf_19 (by decide) (fun c19 => ?_) (fun c19 => ?_)
      · refine aw_iinc (lo' := [_, _, some (.int _)]) dX10_vacantSiteOf_32 rfl (by decide) rfl ?_
        refine aw_goto 2 dX10_vacantSiteOf_35 (by decide) ?_
        exact ih (k + 1) _ (by omega) (by omega) (by rw [h2]; exact inc1 k) (fst_no hf (by simp [c19]))
      · refine aw_aload_n dX10_vacantSiteOf_22 rfl ?_
        refine aw_iload_n dX10_vacantSiteOf_23 rfl ?_
        refine ap_callVi kv_X10_150 ko_X10_isVacant (c_X10_isVacant hn hb hbl h2 (by omega)) dX10_vacantSiteOf_24 e_63 (l_63 hn) rfl rfl rfl rfl (ble' rfl) (by decide) ?_
        refine aw_if_eq 32 dX10_vacantSiteOf_27 (by decide) (fun c27 => ?_) (fun c27 => ?_)
        · have n27 := bI_z.mp c27
          refine aw_iinc (lo' := [_, _, some (.int _)]) dX10_vacantSiteOf_32 rfl (by decide) rfl ?_
          refine aw_goto 2 dX10_vacantSiteOf_35 (by decide) ?_
          exact ih (k + 1) _ (by omega) (by omega) (by rw [h2]; exact inc1 k) (fst_no hf (by rw [h2] at n27; simp only [Bool.not_eq_true] at n27; simp [n27]))
        · have n27 := bI_nz.mp c27
          refine aw_iload_n dX10_vacantSiteOf_30 rfl ?_
          refine aw_iret rfl dX10_vacantSiteOf_31 (ble' rfl) (ble' rfl) ?_
          exact pd_i (by rw [fst_hit hf (by rw [h2] at n27; simp [c19, n27]) hlt (by omega)]; exact h2)

set_option maxRecDepth 100000 in
set_option maxHeartbeats 4000000 in
theorem c_X10_vacantSiteOf {G : AG} {M : Nat → Nat → Int32} {n : Nat} (hn : 72 ≤ n) {ns : Nat} (hs : M 64 2 = nI ns) (hsl : ns ≤ 16) {nb : Nat} (hb : M 64 4 = nI nb) (hbl : nb ≤ 60) (c : Int32) : AMet tX10_vacantSiteOf yX10_vacantSiteOf [Cond.code yX10_vacantSiteOf cX10_vacantSiteOf 3 (some .int)] [.ref 63, .int c] (wld G M) n (PD (.inl (some (.int (fstN (fun k => decide (V M 7 k = c) && vaV M nb (nI k) k) ns)))) (wld G M) n) := by
  refine am_of (lo := [_, _, _]) (by decide) rfl (fun q => by cases q) rfl rfl rfl ?_
  refine aw_iconst (v := 0) dX10_vacantSiteOf_0 (by decide) ?_
  refine aw_istore_n (lo' := [_, _, some (.int _)]) dX10_vacantSiteOf_1 (by decide) rfl ?_
  exact lp_X10_vacantSiteOf hn hs hsl hb hbl c (ns + 1) 0 _ (by omega) (by omega) rfl rfl
