theorem ge6 {i L : Nat} (hL : L ≤ 3072) (hi : i ≤ 4000) (q : ¬ nI L - 6 < nI i) : i + 6 ≤ L := by
  rcases Nat.lt_or_ge L 6 with h | h
  · exfalso
    apply q
    have h0 : nI 0 ≤ nI i := nI_le (Nat.zero_le i) (by omega)
    have h1 : nI L - 6 < nI 0 := by
      rcases (show L = 0 ∨ L = 1 ∨ L = 2 ∨ L = 3 ∨ L = 4 ∨ L = 5 by omega) with rfl | rfl | rfl | rfl | rfl | rfl <;> decide
    exact Int32.lt_of_lt_of_le h1 h0
  · rw [show (6 : Int32) = nI 6 from rfl, nI_sb h] at q
    have := le_of_le (a := i) (b := L - 6) rfl rfl (by omega) (by omega) (Int32.not_lt.mp q)
    omega
theorem and63 (x : Int32) : ∃ k, k < 64 ∧ x &&& 63 = nI k := by
  refine ⟨(x &&& 63).toBitVec.toNat, ?_, Int32.toBitVec_inj.mp (by show _ = BitVec.ofNat 32 _; simp)⟩
  have h : (x &&& 63).toBitVec = x.toBitVec &&& 63#32 := rfl
  rw [h, BitVec.toNat_and]
  exact Nat.lt_succ_of_le Nat.and_le_right
set_option maxHeartbeats 4000000 in
theorem lw_sw {b L : Nat} {xs : Nat → Int32} {i : Nat} {G : AG} {M : Nat → Nat → Int32} {n ce sl : Nat} (hL : L ≤ 3072) (hi : i + 6 ≤ L) (hR : Rel G M M n) (hn : 72 ≤ n) (hce : ce ≤ 400000) (hsl : sl ≤ 6000000) (kk : LK b L xs i ce sl) : ∀ k, k < 64 → AW TL QL (CL b L xs) 40 (LO i none none) [.int (nI k)] (wld G M) n ce sl
  | 0, _ => aw_tabI (T := TL) 276 dL_law_40 (by decide) (by decide) (off := 236) (by decide) (by decide) (lw_c0 hL hi hR hn hce hsl kk)
  | 1, _ => aw_tabI (T := TL) 356 dL_law_40 (by decide) (by decide) (off := 316) (by decide) (by decide) (lw_c1 hL hi hR hn hce hsl kk)
  | 2, _ => aw_tabI (T := TL) 412 dL_law_40 (by decide) (by decide) (off := 372) (by decide) (by decide) (lw_c2 hL hi hR hn hce hsl kk)
  | 3, _ => aw_tabI (T := TL) 516 dL_law_40 (by decide) (by decide) (off := 476) (by decide) (by decide) (lw_c3 hL hi hR hn hce hsl kk)
  | 4, _ => aw_tabI (T := TL) 529 dL_law_40 (by decide) (by decide) (off := 489) (by decide) (by decide) (lw_c4 hL hi hR hn hce hsl kk)
  | 5, _ => aw_tabI (T := TL) 542 dL_law_40 (by decide) (by decide) (off := 502) (by decide) (by decide) (lw_c5 hL hi hR hn hce hsl kk)
  | 6, _ => aw_tabI (T := TL) 598 dL_law_40 (by decide) (by decide) (off := 558) (by decide) (by decide) (lw_c6 hL hi hR hn hce hsl kk)
  | 7, _ => aw_tabI (T := TL) 666 dL_law_40 (by decide) (by decide) (off := 626) (by decide) (by decide) (lw_c7 hL hi hR hn hce hsl kk)
  | 8, _ => aw_tabI (T := TL) 734 dL_law_40 (by decide) (by decide) (off := 694) (by decide) (by decide) (lw_c8 hL hi hR hn hce hsl kk)
  | 9, _ => aw_tabI (T := TL) 802 dL_law_40 (by decide) (by decide) (off := 762) (by decide) (by decide) (lw_c9 hL hi hR hn hce hsl kk)
  | 10, _ => aw_tabI (T := TL) 870 dL_law_40 (by decide) (by decide) (off := 830) (by decide) (by decide) (lw_c10 hL hi hR hn hce hsl kk)
  | 11, _ => aw_tabI (T := TL) 938 dL_law_40 (by decide) (by decide) (off := 898) (by decide) (by decide) (lw_c11 hL hi hR hn hce hsl kk)
  | 12, _ => aw_tabI (T := TL) 1006 dL_law_40 (by decide) (by decide) (off := 966) (by decide) (by decide) (lw_c12 hL hi hR hn hce hsl kk)
  | 13, _ => aw_tabI (T := TL) 1086 dL_law_40 (by decide) (by decide) (off := 1046) (by decide) (by decide) (lw_c13 hL hi hR hn hce hsl kk)
  | 14, _ => aw_tabI (T := TL) 1154 dL_law_40 (by decide) (by decide) (off := 1114) (by decide) (by decide) (lw_c14 hL hi hR hn hce hsl kk)
  | 15, _ => aw_tabI (T := TL) 1246 dL_law_40 (by decide) (by decide) (off := 1206) (by decide) (by decide) (lw_c15 hL hi hR hn hce hsl kk)
  | 16, _ => aw_tabI (T := TL) 1314 dL_law_40 (by decide) (by decide) (off := 1274) (by decide) (by decide) (lw_c16 hL hi hR hn hce hsl kk)
  | 17, _ => aw_tabI (T := TL) 1394 dL_law_40 (by decide) (by decide) (off := 1354) (by decide) (by decide) (lw_c17 hL hi hR hn hce hsl kk)
  | 18, _ => aw_tabI (T := TL) 1407 dL_law_40 (by decide) (by decide) (off := 1367) (by decide) (by decide) (lw_c18 hL hi hR hn hce hsl kk)
  | 19, _ => aw_tabI (T := TL) 1463 dL_law_40 (by decide) (by decide) (off := 1423) (by decide) (by decide) (lw_c19 hL hi hR hn hce hsl kk)
  | 20, _ => aw_tabI (T := TL) 1519 dL_law_40 (by decide) (by decide) (off := 1479) (by decide) (by decide) (lw_c20 hL hi hR hn hce hsl kk)
  | 21, _ => aw_tabI (T := TL) 1575 dL_law_40 (by decide) (by decide) (off := 1535) (by decide) (by decide) (lw_c21 hL hi hR hn hce hsl kk)
  | 22, _ => aw_tabI (T := TL) 1631 dL_law_40 (by decide) (by decide) (off := 1591) (by decide) (by decide) (lw_c22 hL hi hR hn hce hsl kk)
  | 23, _ => aw_tabI (T := TL) 1687 dL_law_40 (by decide) (by decide) (off := 1647) (by decide) (by decide) (lw_c23 hL hi hR hn hce hsl kk)
  | 24, _ => aw_tabI (T := TL) 1743 dL_law_40 (by decide) (by decide) (off := 1703) (by decide) (by decide) (lw_c24 hL hi hR hn hce hsl kk)
  | 25, _ => aw_tabI (T := TL) 1799 dL_law_40 (by decide) (by decide) (off := 1759) (by decide) (by decide) (lw_c25 hL hi hR hn hce hsl kk)
  | 26, _ => aw_tabI (T := TL) 1855 dL_law_40 (by decide) (by decide) (off := 1815) (by decide) (by decide) (lw_c26 hL hi hR hn hce hsl kk)
  | 27, _ => aw_tabI (T := TL) 1923 dL_law_40 (by decide) (by decide) (off := 1883) (by decide) (by decide) (lw_c27 hL hi hR hn hce hsl kk)
  | 28, _ => aw_tabI (T := TL) 1991 dL_law_40 (by decide) (by decide) (off := 1951) (by decide) (by decide) (lw_c28 hL hi hR hn hce hsl kk)
  | 29, _ => aw_tabI (T := TL) 2047 dL_law_40 (by decide) (by decide) (off := 2007) (by decide) (by decide) (lw_c29 hL hi hR hn hce hsl kk)
  | 30, _ => aw_tabI (T := TL) 2115 dL_law_40 (by decide) (by decide) (off := 2075) (by decide) (by decide) (lw_c30 hL hi hR hn hce hsl kk)
  | 31, _ => aw_tabI (T := TL) 2171 dL_law_40 (by decide) (by decide) (off := 2131) (by decide) (by decide) (lw_c31 hL hi hR hn hce hsl kk)
  | 32, _ => aw_tabI (T := TL) 2184 dL_law_40 (by decide) (by decide) (off := 2144) (by decide) (by decide) (lw_c32 hL hi hR hn hce hsl kk)
  | 33, _ => aw_tabI (T := TL) 2232 dL_law_40 (by decide) (by decide) (off := 2192) (by decide) (by decide) (lw_c33 hL hi hR hn hce hsl kk)
  | 34, _ => aw_tabI (T := TL) 2288 dL_law_40 (by decide) (by decide) (off := 2248) (by decide) (by decide) (lw_c34 hL hi hR hn hce hsl kk)
  | 35, _ => aw_tabI (T := TL) 2368 dL_law_40 (by decide) (by decide) (off := 2328) (by decide) (by decide) (lw_c35 hL hi hR hn hce hsl kk)
  | 36, _ => aw_tabI (T := TL) 2424 dL_law_40 (by decide) (by decide) (off := 2384) (by decide) (by decide) (lw_c36 hL hi hR hn hce hsl kk)
  | 37, _ => aw_tabI (T := TL) 2480 dL_law_40 (by decide) (by decide) (off := 2440) (by decide) (by decide) (lw_c37 hL hi hR hn hce hsl kk)
  | 38, _ => aw_tabI (T := TL) 2516 dL_law_40 (by decide) (by decide) (off := 2476) (by decide) (by decide) (lw_c38 hL hi hR hn hce hsl kk)
  | 39, _ => aw_tabI (T := TL) 2572 dL_law_40 (by decide) (by decide) (off := 2532) (by decide) (by decide) (lw_c39 hL hi hR hn hce hsl kk)
  | 40, _ => aw_tabI (T := TL) 2640 dL_law_40 (by decide) (by decide) (off := 2600) (by decide) (by decide) (lw_c40 hL hi hR hn hce hsl kk)
  | 41, _ => aw_tabI (T := TL) 2708 dL_law_40 (by decide) (by decide) (off := 2668) (by decide) (by decide) (lw_c41 hL hi hR hn hce hsl kk)
  | 42, _ => aw_tabI (T := TL) 2776 dL_law_40 (by decide) (by decide) (off := 2736) (by decide) (by decide) (lw_c42 hL hi hR hn hce hsl kk)
  | 43, _ => aw_tabI (T := TL) 2856 dL_law_40 (by decide) (by decide) (off := 2816) (by decide) (by decide) (lw_c43 hL hi hR hn hce hsl kk)
  | 44, _ => aw_tabI (T := TL) 2936 dL_law_40 (by decide) (by decide) (off := 2896) (by decide) (by decide) (lw_c44 hL hi hR hn hce hsl kk)
  | 45, _ => aw_tabI (T := TL) 3032 dL_law_40 (by decide) (by decide) (off := 2992) (by decide) (by decide) (lw_c45 hL hi hR hn hce hsl kk)
  | 46, _ => aw_tabI (T := TL) 3088 dL_law_40 (by decide) (by decide) (off := 3048) (by decide) (by decide) (lw_c46 hL hi hR hn hce hsl kk)
  | 47, _ => aw_tabI (T := TL) 3168 dL_law_40 (by decide) (by decide) (off := 3128) (by decide) (by decide) (lw_c47 hL hi hR hn hce hsl kk)
  | 48, _ => aw_tabI (T := TL) 3181 dL_law_40 (by decide) (by decide) (off := 3141) (by decide) (by decide) (lw_c48 hL hi hR hn hce hsl kk)
  | 49, _ => aw_tabI (T := TL) 3237 dL_law_40 (by decide) (by decide) (off := 3197) (by decide) (by decide) (lw_c49 hL hi hR hn hce hsl kk)
  | 50, _ => aw_tabI (T := TL) 3293 dL_law_40 (by decide) (by decide) (off := 3253) (by decide) (by decide) (lw_c50 hL hi hR hn hce hsl kk)
  | 51, _ => aw_tabI (T := TL) 3306 dL_law_40 (by decide) (by decide) (off := 3266) (by decide) (by decide) (lw_c51 hL hi hR hn hce hsl kk)
  | 52, _ => aw_tabI (T := TL) 3319 dL_law_40 (by decide) (by decide) (off := 3279) (by decide) (by decide) (lw_c52 hL hi hR hn hce hsl kk)
  | 53, _ => aw_tabI (T := TL) 3332 dL_law_40 (by decide) (by decide) (off := 3292) (by decide) (by decide) (lw_c53 hL hi hR hn hce hsl kk)
  | 54, _ => aw_tabI (T := TL) 3368 dL_law_40 (by decide) (by decide) (off := 3328) (by decide) (by decide) (lw_c54 hL hi hR hn hce hsl kk)
  | 55, _ => aw_tabO (T := TL) 3404 dL_law_40 (Or.inr (by decide)) (by decide) (kk _ _ _ _ _ hR hn (by omega) (by omega))
  | 56, _ => aw_tabO (T := TL) 3404 dL_law_40 (Or.inr (by decide)) (by decide) (kk _ _ _ _ _ hR hn (by omega) (by omega))
  | 57, _ => aw_tabO (T := TL) 3404 dL_law_40 (Or.inr (by decide)) (by decide) (kk _ _ _ _ _ hR hn (by omega) (by omega))
  | 58, _ => aw_tabO (T := TL) 3404 dL_law_40 (Or.inr (by decide)) (by decide) (kk _ _ _ _ _ hR hn (by omega) (by omega))
  | 59, _ => aw_tabO (T := TL) 3404 dL_law_40 (Or.inr (by decide)) (by decide) (kk _ _ _ _ _ hR hn (by omega) (by omega))
  | 60, _ => aw_tabO (T := TL) 3404 dL_law_40 (Or.inr (by decide)) (by decide) (kk _ _ _ _ _ hR hn (by omega) (by omega))
  | 61, _ => aw_tabO (T := TL) 3404 dL_law_40 (Or.inr (by decide)) (by decide) (kk _ _ _ _ _ hR hn (by omega) (by omega))
  | 62, _ => aw_tabO (T := TL) 3404 dL_law_40 (Or.inr (by decide)) (by decide) (kk _ _ _ _ _ hR hn (by omega) (by omega))
  | 63, _ => aw_tabO (T := TL) 3404 dL_law_40 (Or.inr (by decide)) (by decide) (kk _ _ _ _ _ hR hn (by omega) (by omega))
  | k + 64, h => absurd h (by omega)
theorem lw_loop {b L : Nat} {xs : Nat → Int32} (hL : L ≤ 3072) : ∀ (f : Nat) {i : Nat} {G : AG} {M : Nat → Nat → Int32} {n ce sl : Nat}, L < i + 6 * f → i ≤ 4000 → Rel G M M n → 72 ≤ n → ce + 100 * f ≤ 400000 → sl + 2000 * f ≤ 6000000 → AW TL QL (CL b L xs) 23 (LO i none none) [] (wld G M) n ce sl := by
  intro f
  induction f with
  | zero =>
    intro i G M n ce sl h1 h2 hR hn hce hsl
    refine aw_iload (T := TL) dL_law_23 rfl ?_
    refine aw_aload_n (T := TL) dL_law_25 rfl ?_
    refine aw_scl dL_law_26 ?_
    refine aw_bipush (T := TL) (v := 6) dL_law_27 (by decide) ?_
    refine aw_isub (T := TL) dL_law_29 ?_
    refine aw_icmp_gt (T := TL) 3410 dL_law_30 (by decide) (fun _ => ?_) (fun q => absurd (ge6 hL h2 q) (by omega))
    refine aw_iconst (T := TL) (v := 1) dL_law_3410 (by decide) ?_
    exact aw_lwend dL_law_3411 (by omega) (by omega)
  | succ f ih =>
    intro i G M n ce sl h1 h2 hR hn hce hsl
    refine aw_iload (T := TL) dL_law_23 rfl ?_
    refine aw_aload_n (T := TL) dL_law_25 rfl ?_
    refine aw_scl dL_law_26 ?_
    refine aw_bipush (T := TL) (v := 6) dL_law_27 (by decide) ?_
    refine aw_isub (T := TL) dL_law_29 ?_
    refine aw_icmp_gt (T := TL) 3410 dL_law_30 (by decide) (fun _ => ?_) (fun q => ?_)
    · refine aw_iconst (T := TL) (v := 1) dL_law_3410 (by decide) ?_
      exact aw_lwend dL_law_3411 (by omega) (by omega)
    · have hi := ge6 hL h2 q
      refine aw_aload_n (T := TL) dL_law_33 rfl ?_
      refine aw_iload (T := TL) dL_law_34 rfl ?_
      refine aw_sld dL_law_36 (in_of rfl (by omega) (by omega)) ?_
      refine aw_bipush (T := TL) (v := 63) dL_law_37 (by decide) ?_
      refine aw_iand (T := TL) dL_law_39 ?_
      obtain ⟨k, hk, ek⟩ := and63 (xs (nI i).toNatClampNeg)
      rw [ek]
      refine lw_sw hL hi hR hn (by omega) (by omega) ?_ k hk
      intro G1 M1 n1 ce1 sl1 hR1 hn1 hc1 hs1
      refine aw_iinc (T := TL) (lo' := LO (i + 6) none none) dL_law_3404 rfl (by decide) ?_ ?_
      · show stL (LO i none none) 4 (.int (nI i + nI 6)) = _
        rw [nI_pl]; rfl
      · refine aw_goto (T := TL) 23 dL_law_3407 (by decide) ?_
        exact ih (by omega) (by omega) hR1 hn1 (by omega) (by omega)
