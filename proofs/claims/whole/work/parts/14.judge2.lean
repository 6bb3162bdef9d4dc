set_option maxRecDepth 100000 in
set_option maxHeartbeats 4000000 in
theorem lp_X8_obstacleToNights {G : AG} {M : Nat → Nat → Int32} {n : Nat} (hn : 72 ≤ n) {nc : Nat} (hc : M 2 3 = nI nc) (hcl : nc ≤ 4) {c : Int32} {kc : Nat} (hk : c = nI kc) (hkc : kc < nc) {ns : Nat} (hs : M 6 2 = nI ns) (hsl : ns ≤ 16) {nb : Nat} (hb : M 15 6 = nI nb) (hbl : nb ≤ 60) {nz : Nat} (hz : M 9 5 = nI nz) (hzl : nz ≤ 12) (hjc : M 56 2 = c) {t : Nat} (ht : M 1 5 = nI t) (htl : t ≤ 999) {a m : Int32} {x mm : Nat} (hx : x ≤ 998) (hm : mm ≤ 28) (he : a + m = nI (x + mm)) : ∀ (j : Nat) (i : Nat) (x3 : Int32) (r : Nat → Int32), mm - i < j → i ≤ mm → x3 = nI (x + i) → allN (fun i => (frC M kc ns nb c) (nI i)) x i = true → KN (frC M kc ns nb c) r →  AW tX8_obstacleToNights (AQm tX8_obstacleToNights (PJ (if (allN (fun i => (frC M kc ns nb c) (nI i)) x mm) = true then 0 else 2) G M n (KN (frC M kc ns nb c)))) C0 13 [some (.ref 56), some (.int a), some (.int m), some (.int x3)] [] (wld G (updM M 57 r)) n 0 0 := by
  intro j
  induction j with
  | zero => intro i x3 r h1; omega
  | succ j ih =>
    intro i x3 r h1 hki h3 h4 hK
    refine aw_iload_n dX8_obstacleToNights_13 rfl ?_
    refine aw_iload_n dX8_obstacleToNights_14 rfl ?_
    refine aw_iload_n dX8_obstacleToNights_15 rfl ?_
    refine aw_iadd dX8_obstacleToNights_16 ?_
    refine aw_icmp_ge 36 dX8_obstacleToNights_17 (by decide) (fun c17 => ?_) (fun c17 => ?_)
    · have n17 := Int32.not_lt.mpr c17
      refine aw_iconst (v := 0) dX8_obstacleToNights_36 (by decide) ?_
      refine aw_iret rfl dX8_obstacleToNights_37 (ble' rfl) (ble' rfl) ?_
      have hei : i = mm := by have := le_of_le he h3 (by omega) (by omega) c17; omega
      exact pj_i (by rw [if_pos (by rw [← hei]; exact h4)]) hK
    · have n17 := Int32.not_le.mp c17
      have hlt : i < mm := by have := lt_of_nle he h3 (by omega) (by omega) c17; omega
      refine aw_aload_n dX8_obstacleToNights_20 rfl ?_
      refine aw_iload_n dX8_obstacleToNights_21 rfl ?_
      refine ap_callJ kv_X8_61 ko_X8_isFree (c_X8_isFree hn r hc hcl hk hkc hs hsl hb hbl hz hzl hjc ht htl hK _) dX8_obstacleToNights_22 e_56 (l_56 hn) rfl rfl rfl rfl (ble' rfl) (by decide) (fun r2 hK2 => ?_)
      refine aw_if_ne 30 dX8_obstacleToNights_25 (by decide) (fun c25 => ?_) (fun c25 => ?_)
      · have n25 := bI_nz.mp c25
        refine aw_iinc (lo' := [_, _, _, some (.int _)]) dX8_obstacleToNights_30 rfl (by decide) rfl ?_
        refine aw_goto 13 dX8_obstacleToNights_33 (by decide) ?_
        exact ih (i + 1) _ r2 (by omega) (by omega) (by rw [h3]; exact inc1 (x + i)) (all_go h4 (by rw [← h3]; exact n25)) hK2
      · have n25 := bI_z.mp c25
        refine aw_iconst (v := 2) dX8_obstacleToNights_28 (by decide) ?_
        refine aw_iret rfl dX8_obstacleToNights_29 (ble' rfl) (ble' rfl) ?_
        exact pj_i (by rw [if_neg (by rw [all_bad (i := i) (by rw [← h3]; simpa using n25) hlt]; decide)]) hK2

set_option maxRecDepth 100000 in
set_option maxHeartbeats 4000000 in
theorem c_X8_obstacleToNights {G : AG} {M : Nat → Nat → Int32} {n : Nat} (hn : 72 ≤ n) (r : Nat → Int32) {nc : Nat} (hc : M 2 3 = nI nc) (hcl : nc ≤ 4) {c : Int32} {kc : Nat} (hk : c = nI kc) (hkc : kc < nc) {ns : Nat} (hs : M 6 2 = nI ns) (hsl : ns ≤ 16) {nb : Nat} (hb : M 15 6 = nI nb) (hbl : nb ≤ 60) {nz : Nat} (hz : M 9 5 = nI nz) (hzl : nz ≤ 12) (hjc : M 56 2 = c) {t : Nat} (ht : M 1 5 = nI t) (htl : t ≤ 999) (hK : KN (frC M kc ns nb c) r) (a : Int32) {m : Int32} {mm : Nat} (hm : m = nI mm) (hmm : mm ≤ 28) : AMet tX8_obstacleToNights yX8_obstacleToNights [Cond.code yX8_obstacleToNights cX8_obstacleToNights 4 (some .int)] [.ref 56, .int a, .int m] (wld G (updM M 57 r)) n (PJ (obN (lvC (M 1 5) (M 3 kc) a m) (frC M kc ns nb c) a mm) G M n (KN (frC M kc ns nb c))) := by
  refine am_of (lo := [_, _, _, _]) (by decide) rfl (fun q => by cases q) rfl rfl rfl ?_
  refine aw_aload_n dX8_obstacleToNights_0 rfl ?_
  refine aw_iload_n dX8_obstacleToNights_1 rfl ?_
  refine aw_iload_n dX8_obstacleToNights_2 rfl ?_
  refine ap_callVi kv_X8_57 ko_X8_leavesWindow (c_X8_leavesWindow hn r hc hcl hk hkc hs hsl hb hbl hz hzl hjc ht htl a m) dX8_obstacleToNights_3 e_56 (l_56 hn) rfl rfl rfl rfl (ble' rfl) (by decide) ?_
  refine aw_if_eq 11 dX8_obstacleToNights_6 (by decide) (fun c6 => ?_) (fun c6 => ?_)
  · have n6 := bI_z.mp c6
    refine aw_iload_n dX8_obstacleToNights_11 rfl ?_
    refine aw_istore_n (lo' := [_, _, _, some (.int _)]) dX8_obstacleToNights_12 (by decide) rfl ?_
    have h0 : ¬ a < 0 := fun q => n6 (Or.inl (by rw [ht]; exact Int32.lt_of_lt_of_le q (nI_pos' (by omega))))
    obtain ⟨x, hx2, hx⟩ := nI_of h0
    have hx9 : x ≤ 998 := by have := le_of_nlt (a := 998) (b := x) rfl hx (by decide) hx2 (fun q => n6 (Or.inr (Or.inl q))); exact this
    rw [show (obN (lvC (M 1 5) (M 3 kc) a m) (frC M kc ns nb c) a mm) = if (allN (fun i => (frC M kc ns nb c) (nI i)) x mm) = true then 0 else 2 by rw [obN, if_neg n6, cl_of hx hx2]]
    exact lp_X8_obstacleToNights hn hc hcl hk hkc hs hsl hb hbl hz hzl hjc ht htl hx9 hmm (by rw [hx, hm]; exact nI_add x mm) (mm + 1) 0 _ r (by omega) (by omega) hx rfl hK
  · have n6 := bI_nz.mp c6
    refine aw_iconst (v := 1) dX8_obstacleToNights_9 (by decide) ?_
    refine aw_iret rfl dX8_obstacleToNights_10 (ble' rfl) (ble' rfl) ?_
    exact pj_i (by simp [obN, n6]) hK

set_option maxRecDepth 100000 in
set_option maxHeartbeats 4000000 in
theorem c_X8_obstacleToStay {G : AG} {M : Nat → Nat → Int32} {n : Nat} (hn : 72 ≤ n) (r : Nat → Int32) {nc : Nat} (hc : M 2 3 = nI nc) (hcl : nc ≤ 4) {c : Int32} {kc : Nat} (hk : c = nI kc) (hkc : kc < nc) {ns : Nat} (hs : M 6 2 = nI ns) (hsl : ns ≤ 16) {nb : Nat} (hb : M 15 6 = nI nb) (hbl : nb ≤ 60) {nz : Nat} (hz : M 9 5 = nI nz) (hzl : nz ≤ 12) (hjc : M 56 2 = c) {t : Nat} (ht : M 1 5 = nI t) (htl : t ≤ 999) (hK : KN (frC M kc ns nb c) r) (a : Int32) {m : Int32} {mm : Nat} (hm : m = nI mm) (hmm : mm ≤ 28) : AMet tX8_obstacleToStay yX8_obstacleToStay [Cond.code yX8_obstacleToStay cX8_obstacleToStay 5 (some .int)] [.ref 56, .int a, .int m] (wld G (updM M 57 r)) n (PJ (obS (obN (lvC (M 1 5) (M 3 kc) a m) (frC M kc ns nb c) a mm) (sval (seasN (M 10) (M 11) (M 12) c a nz) (M 13) 1) m ((frC M kc ns nb c) (a - 1)) ((frC M kc ns nb c) (a + m))) G M n (KN (frC M kc ns nb c))) := by
  subst hjc
  refine am_of (lo := [_, _, _, _, _]) (by decide) rfl (fun q => by cases q) rfl rfl rfl ?_
  refine aw_aload_n dX8_obstacleToStay_0 rfl ?_
  refine aw_iload_n dX8_obstacleToStay_1 rfl ?_
  refine aw_iload_n dX8_obstacleToStay_2 rfl ?_
  refine ap_callJ kv_X8_65 ko_X8_obstacleToNights (c_X8_obstacleToNights hn r hc hcl hk hkc hs hsl hb hbl hz hzl rfl ht htl hK a hm hmm) dX8_obstacleToStay_3 e_56 (l_56 hn) rfl rfl rfl rfl (ble' rfl) (by decide) (fun r2 hK2 => ?_)
  refine aw_istore_n (lo' := [_, _, _, some (.int _), _]) dX8_obstacleToStay_6 (by decide) rfl ?_
  refine aw_iload_n dX8_obstacleToStay_7 rfl ?_
  refine aw_if_ne 30 dX8_obstacleToStay_8 (by decide) (fun c8 => ?_) (fun c8 => ?_)
  · refine aw_iload_n dX8_obstacleToStay_30 rfl ?_
    refine aw_iret rfl dX8_obstacleToStay_31 (ble' rfl) (ble' rfl) ?_
    exact pj_i (by rw [obS, if_pos c8]) hK2
  · refine aw_iload_n dX8_obstacleToStay_11 rfl ?_
    refine aw_aload_n dX8_obstacleToStay_12 rfl ?_
    refine aw_get fl_X8_19 dX8_obstacleToStay_13 e_56 (l_56 hn) rfl ?_
    refine aw_get fl_X8_68 dX8_obstacleToStay_16 e_1 (l_1 hn) rfl ?_
    refine aw_aload_n dX8_obstacleToStay_19 rfl ?_
    refine aw_get fl_X8_15 dX8_obstacleToStay_20 e_56 (l_56 hn) rfl ?_
    refine aw_iload_n dX8_obstacleToStay_23 rfl ?_
    refine ap_callVi kv_X8_72 ko_X5_minimumOn (j_min hn r2 hc hcl hk hkc hs hsl hb hbl hz hzl rfl ht htl a) dX8_obstacleToStay_24 e_9 (l_9 hn) rfl rfl rfl rfl (ble' rfl) (by decide) ?_
    refine aw_icmp_lt 32 dX8_obstacleToStay_27 (by decide) (fun c27 => ?_) (fun c27 => ?_)
    · have n27 := Int32.not_le.mpr c27
      refine aw_aload_n dX8_obstacleToStay_32 rfl ?_
      refine aw_iload_n dX8_obstacleToStay_33 rfl ?_
      refine aw_iconst (v := 1) dX8_obstacleToStay_34 (by decide) ?_
      refine aw_isub dX8_obstacleToStay_35 ?_
      refine ap_callJ kv_X8_61 ko_X8_isFree (c_X8_isFree hn r2 hc hcl hk hkc hs hsl hb hbl hz hzl rfl ht htl hK2 _) dX8_obstacleToStay_36 e_56 (l_56 hn) rfl rfl rfl rfl (ble' rfl) (by decide) (fun r3 hK3 => ?_)
      refine aw_if_ne 56 dX8_obstacleToStay_39 (by decide) (fun c39 => ?_) (fun c39 => ?_)
      · have n39 := bI_nz.mp c39
        refine aw_iconst (v := 0) dX8_obstacleToStay_56 (by decide) ?_
        refine aw_istore (lo' := [_, _, _, _, some (.int _)]) dX8_obstacleToStay_57 (by decide) rfl ?_
        refine aw_iload dX8_obstacleToStay_59 rfl ?_
        refine aw_if_eq 68 dX8_obstacleToStay_61 (by decide) (fun _ => ?_) (fun q => absurd q (by decide))
        refine aw_iconst (v := 3) dX8_obstacleToStay_68 (by decide) ?_
        refine aw_iret rfl dX8_obstacleToStay_69 (ble' rfl) (ble' rfl) ?_
        exact pj_i (by rw [obS, if_neg (fun q => q c8), if_pos c27, if_neg (by rw [n39]; simp)]) hK3
      · have n39 := bI_z.mp c39
        refine aw_aload_n dX8_obstacleToStay_42 rfl ?_
        refine aw_iload_n dX8_obstacleToStay_43 rfl ?_
        refine aw_iload_n dX8_obstacleToStay_44 rfl ?_
        refine aw_iadd dX8_obstacleToStay_45 ?_
        refine ap_callJ kv_X8_61 ko_X8_isFree (c_X8_isFree hn r3 hc hcl hk hkc hs hsl hb hbl hz hzl rfl ht htl hK3 _) dX8_obstacleToStay_46 e_56 (l_56 hn) rfl rfl rfl rfl (ble' rfl) (by decide) (fun r4 hK4 => ?_)
        refine aw_if_ne 56 dX8_obstacleToStay_49 (by decide) (fun c49 => ?_) (fun c49 => ?_)
        · have n49 := bI_nz.mp c49
          refine aw_iconst (v := 0) dX8_obstacleToStay_56 (by decide) ?_
          refine aw_istore (lo' := [_, _, _, _, some (.int _)]) dX8_obstacleToStay_57 (by decide) rfl ?_
          refine aw_iload dX8_obstacleToStay_59 rfl ?_
          refine aw_if_eq 68 dX8_obstacleToStay_61 (by decide) (fun _ => ?_) (fun q => absurd q (by decide))
          refine aw_iconst (v := 3) dX8_obstacleToStay_68 (by decide) ?_
          refine aw_iret rfl dX8_obstacleToStay_69 (ble' rfl) (ble' rfl) ?_
          exact pj_i (by rw [obS, if_neg (fun q => q c8), if_pos c27, if_neg (by rw [n49]; simp)]) hK4
        · have n49 := bI_z.mp c49
          refine aw_iconst (v := 1) dX8_obstacleToStay_52 (by decide) ?_
          refine aw_goto 57 dX8_obstacleToStay_53 (by decide) ?_
          refine aw_istore (lo' := [_, _, _, _, some (.int _)]) dX8_obstacleToStay_57 (by decide) rfl ?_
          refine aw_iload dX8_obstacleToStay_59 rfl ?_
          refine aw_if_eq 68 dX8_obstacleToStay_61 (by decide) (fun q => absurd q (by decide)) (fun _ => ?_)
          refine aw_iconst (v := 0) dX8_obstacleToStay_64 (by decide) ?_
          refine aw_goto 69 dX8_obstacleToStay_65 (by decide) ?_
          refine aw_iret rfl dX8_obstacleToStay_69 (ble' rfl) (ble' rfl) ?_
          exact pj_i (by rw [obS, if_neg (fun q => q c8), if_pos c27, if_pos ⟨by simpa using n39, by simpa using n49⟩]) hK4
    · have n27 := Int32.not_lt.mp c27
      refine aw_iload_n dX8_obstacleToStay_30 rfl ?_
      refine aw_iret rfl dX8_obstacleToStay_31 (ble' rfl) (ble' rfl) ?_
      exact pj_i (by rw [obS, if_neg (fun q => q c8), if_neg c27]) hK2
