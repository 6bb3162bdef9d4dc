/-- the rows M, with the reference's plan: places, last departures, gaps, orphans -/
def rpM (M : Nat → Nat → Int32) (pl le : Nat → Int32) (g o : Int32) : Nat → Nat → Int32 := fun i => if i = 68 then pl else if i = 69 then le else if i = 63 then upd (upd (M 63) 7 g) 8 o else M i
theorem eq_63 {G : AG} {M : Nat → Nat → Int32} {pl le : Nat → Int32} {g o : Int32} : wld G (rpM M pl le g o) 63 = .inr (10, [.ref 64, .ref 65, .ref 66, .ref 67, .int (M 63 4), .ref 68, .ref 69, .int g, .int o, .ref 70, .int (M 63 10), .int (M 63 11), .int (M 63 12), .int (M 63 13), .int (M 63 14), .int (M 63 15), .int (M 63 16), .int (M 63 17), .long G.2.1]) := rfl
theorem eq_64 {G : AG} {M : Nat → Nat → Int32} {pl le : Nat → Int32} {g o : Int32} : wld G (rpM M pl le g o) 64 = .inl (0, 572, .inl (M 64)) := rfl
theorem eq_68 {G : AG} {M : Nat → Nat → Int32} {pl le : Nat → Int32} {g o : Int32} : wld G (rpM M pl le g o) 68 = .inl (0, 60, .inl pl) := rfl
theorem eq_69 {G : AG} {M : Nat → Nat → Int32} {pl le : Nat → Int32} {g o : Int32} : wld G (rpM M pl le g o) 69 = .inl (0, 16, .inl le) := rfl
theorem hq68 {G : AG} {M : Nat → Nat → Int32} {pl le r : Nat → Int32} {g o : Int32} : hset (wld G (rpM M pl le g o)) 68 (.inl (0, 60, .inl r)) = wld G (rpM M r le g o) := by
  refine (hset_wld (i := 68) (r := r) rfl).trans ?_; congr 1; funext i; unfold updM rpM; split <;> rfl
theorem hq69 {G : AG} {M : Nat → Nat → Int32} {pl le r : Nat → Int32} {g o : Int32} : hset (wld G (rpM M pl le g o)) 69 (.inl (0, 16, .inl r)) = wld G (rpM M pl r g o) := by
  refine (hset_wld (i := 69) (r := r) rfl).trans ?_; congr 1; funext i; unfold updM rpM
  by_cases h1 : i = 69
  · subst h1; rfl
  · simp [h1]
theorem hq63g {G : AG} {M : Nat → Nat → Int32} {pl le : Nat → Int32} {g o x : Int32} {fs : List Value} (e : fs = [.ref 64, .ref 65, .ref 66, .ref 67, .int (M 63 4), .ref 68, .ref 69, .int g, .int o, .ref 70, .int (M 63 10), .int (M 63 11), .int (M 63 12), .int (M 63 13), .int (M 63 14), .int (M 63 15), .int (M 63 16), .int (M 63 17), .long G.2.1]) : hset (wld G (rpM M pl le g o)) 63 (.inr (10, fs.set 7 (.int x))) = wld G (rpM M pl le x o) := by
  subst e
  refine (hset_wld (i := 63) (r := upd (upd (M 63) 7 x) 8 o) rfl).trans ?_; congr 1; funext i; unfold updM rpM
  by_cases h1 : i = 63
  · subst h1; rfl
  · simp [h1]
theorem hq63o {G : AG} {M : Nat → Nat → Int32} {pl le : Nat → Int32} {g o x : Int32} {fs : List Value} (e : fs = [.ref 64, .ref 65, .ref 66, .ref 67, .int (M 63 4), .ref 68, .ref 69, .int g, .int o, .ref 70, .int (M 63 10), .int (M 63 11), .int (M 63 12), .int (M 63 13), .int (M 63 14), .int (M 63 15), .int (M 63 16), .int (M 63 17), .long G.2.1]) : hset (wld G (rpM M pl le g o)) 63 (.inr (10, fs.set 8 (.int x))) = wld G (rpM M pl le g x) := by
  subst e
  refine (hset_wld (i := 63) (r := upd (upd (M 63) 7 g) 8 x) rfl).trans ?_; congr 1; funext i; unfold updM rpM
  by_cases h1 : i = 63
  · subst h1; rfl
  · simp [h1]
theorem rpM_id {M : Nat → Nat → Int32} : rpM M (M 68) (M 69) (M 63 7) (M 63 8) = M := by
  funext i; unfold rpM
  by_cases h1 : i = 68
  · subst h1; rfl
  · by_cases h2 : i = 69
    · subst h2; rfl
    · by_cases h3 : i = 63
      · subst h3; simp; funext j; unfold upd; split
        · rename_i h; rw [h]
        · split
          · rename_i h; rw [h]
          · rfl
      · simp [h1, h2, h3]
theorem V_rp {M : Nat → Nat → Int32} {pl le : Nat → Int32} {g o : Int32} : V (rpM M pl le g o) = V M := V_eq rfl
theorem rs_rp {A M : Nat → Nat → Int32} (h : RS A M) {pl le : Nat → Int32} {g o : Int32} : RS A (rpM M pl le g o) := by
  refine ⟨fun i h1 h2 h3 => ?_, fun j h1 h2 h3 => ?_⟩
  · unfold rpM; rw [if_neg h2, if_neg h3, if_neg h1]; exact h.1 i h1 h2 h3
  · show upd (upd (M 63) 7 g) 8 o j = A 63 j
    rw [upd_n h3, upd_n h2]; exact h.2 j h1 h2 h3
theorem cq_booking_0 {G : AG} {M : Nat → Nat → Int32} {n : Nat} (hn : 72 ≤ n) {pl le : Nat → Int32} {g o : Int32} {b : Int32} {k : Nat} (hb : b = nI k) (hk : k < 60) : AMet tX10_booking yX10_booking [Cond.code yX10_booking cX10_booking 3 (some .int)] [.ref 63, .int b, .int 0] (wld G (rpM M pl le g o)) n (PD (.inl (some (.int (V M 16 k)))) (wld G (rpM M pl le g o)) n) := by
  have q := c_X10_booking_0 (G := G) (M := rpM M pl le g o) hn hb hk
  rw [V_rp] at q
  exact q
theorem cq_booking_1 {G : AG} {M : Nat → Nat → Int32} {n : Nat} (hn : 72 ≤ n) {pl le : Nat → Int32} {g o : Int32} {b : Int32} {k : Nat} (hb : b = nI k) (hk : k < 60) : AMet tX10_booking yX10_booking [Cond.code yX10_booking cX10_booking 3 (some .int)] [.ref 63, .int b, .int 1] (wld G (rpM M pl le g o)) n (PD (.inl (some (.int (V M 17 k)))) (wld G (rpM M pl le g o)) n) := by
  have q := c_X10_booking_1 (G := G) (M := rpM M pl le g o) hn hb hk
  rw [V_rp] at q
  exact q
theorem cq_booking_2 {G : AG} {M : Nat → Nat → Int32} {n : Nat} (hn : 72 ≤ n) {pl le : Nat → Int32} {g o : Int32} {b : Int32} {k : Nat} (hb : b = nI k) (hk : k < 60) : AMet tX10_booking yX10_booking [Cond.code yX10_booking cX10_booking 3 (some .int)] [.ref 63, .int b, .int 2] (wld G (rpM M pl le g o)) n (PD (.inl (some (.int (V M 18 k)))) (wld G (rpM M pl le g o)) n) := by
  have q := c_X10_booking_2 (G := G) (M := rpM M pl le g o) hn hb hk
  rw [V_rp] at q
  exact q
theorem cq_booking_4 {G : AG} {M : Nat → Nat → Int32} {n : Nat} (hn : 72 ≤ n) {pl le : Nat → Int32} {g o : Int32} {b : Int32} {k : Nat} (hb : b = nI k) (hk : k < 60) : AMet tX10_booking yX10_booking [Cond.code yX10_booking cX10_booking 3 (some .int)] [.ref 63, .int b, .int 4] (wld G (rpM M pl le g o)) n (PD (.inl (some (.int (V M 20 k)))) (wld G (rpM M pl le g o)) n) := by
  have q := c_X10_booking_4 (G := G) (M := rpM M pl le g o) hn hb hk
  rw [V_rp] at q
  exact q
theorem cq_booking_5 {G : AG} {M : Nat → Nat → Int32} {n : Nat} (hn : 72 ≤ n) {pl le : Nat → Int32} {g o : Int32} {b : Int32} {k : Nat} (hb : b = nI k) (hk : k < 60) : AMet tX10_booking yX10_booking [Cond.code yX10_booking cX10_booking 3 (some .int)] [.ref 63, .int b, .int 5] (wld G (rpM M pl le g o)) n (PD (.inl (some (.int (V M 21 k)))) (wld G (rpM M pl le g o)) n) := by
  have q := c_X10_booking_5 (G := G) (M := rpM M pl le g o) hn hb hk
  rw [V_rp] at q
  exact q
theorem cq_site_0 {G : AG} {M : Nat → Nat → Int32} {n : Nat} (hn : 72 ≤ n) {pl le : Nat → Int32} {g o : Int32} {b : Int32} {k : Nat} (hb : b = nI k) (hk : k < 16) : AMet tX10_site yX10_site [Cond.code yX10_site cX10_site 3 (some .int)] [.ref 63, .int b, .int 0] (wld G (rpM M pl le g o)) n (PD (.inl (some (.int (V M 7 k)))) (wld G (rpM M pl le g o)) n) := by
  have q := c_X10_site_0 (G := G) (M := rpM M pl le g o) hn hb hk
  rw [V_rp] at q
  exact q
theorem cq_isOpenOn {G : AG} {M : Nat → Nat → Int32} {n : Nat} (hn : 72 ≤ n) {pl le : Nat → Int32} {g o : Int32} {b d : Int32} {k : Nat} (hb : b = nI k) (hk : k < 16) : AMet tX10_isOpenOn yX10_isOpenOn [Cond.code yX10_isOpenOn cX10_isOpenOn 3 (some .boolean)] [.ref 63, .int b, .int d] (wld G (rpM M pl le g o)) n (PD (.inl (some (.int (bI (V M 8 k ≤ d))))) (wld G (rpM M pl le g o)) n) := by
  have q := c_X10_isOpenOn (G := G) (M := rpM M pl le g o) (d := d) hn hb hk
  rw [V_rp] at q
  exact q
theorem cq_minimumOf {G : AG} {M : Nat → Nat → Int32} {n : Nat} (hn : 72 ≤ n) {pl le : Nat → Int32} {g o : Int32} {nz : Nat} (hz : M 64 3 = nI nz) (hzl : nz ≤ 12) (c d : Int32) : AMet tX10_minimumOf yX10_minimumOf [Cond.code yX10_minimumOf cX10_minimumOf 4 (some .int)] [.ref 63, .int c, .int d] (wld G (rpM M pl le g o)) n (PD (.inl (some (.int (mnV M nz c d)))) (wld G (rpM M pl le g o)) n) := by
  have q := c_X10_minimumOf (G := G) (M := rpM M pl le g o) hn hz hzl c d
  rw [V_rp] at q
  exact q
set_option maxRecDepth 100000 in
set_option maxHeartbeats 4000000 in
theorem c_X10_place {G : AG} {M : Nat → Nat → Int32} {n : Nat} (hn : 72 ≤ n) {pl le : Nat → Int32} {g o : Int32} {nz : Nat} (hz : M 64 3 = nI nz) (hzl : nz ≤ 12) {b s : Int32} {k m : Nat} (hb : b = nI k) (hk : k < 60) (hs : s = nI m) (hm : m < 16) : AMet tX10_place yX10_place [Cond.code yX10_place cX10_place 5 none] [.ref 63, .int b, .int s] (wld G (rpM M pl le g o)) n (PD (.inl none) (wld G (rpM M (upd pl k s) (upd le m (V M 18 k)) (if le m = -1 then g else g + (V M 17 k - le m)) (if le m = -1 then o else o + (if V M 17 k - le m < mnV M nz (V M 16 k) (le m) then V M 17 k - le m else 0)))) n) := by
  refine am_of (lo := [_, _, _, _, _]) (by decide) rfl (fun q => by cases q) rfl rfl rfl ?_
  refine aw_aload_n dX10_place_0 rfl ?_
  refine aw_iload_n dX10_place_1 rfl ?_
  refine aw_iconst (v := 0) dX10_place_2 (by decide) ?_
  refine ap_callVi kv_X10_102 ko_X10_booking (cq_booking_0 hn hb hk) dX10_place_3 eq_63 (l_63 hn) rfl rfl rfl rfl (ble' rfl) (by decide) ?_
  refine aw_istore_n (lo' := [_, _, _, some (.int _), _]) dX10_place_6 (by decide) rfl ?_
  refine aw_aload_n dX10_place_7 rfl ?_
  refine aw_get fl_X10_26 dX10_place_8 eq_63 (l_63 hn) rfl ?_
  refine aw_iload_n dX10_place_11 rfl ?_
  refine aw_ialdk dX10_place_12 eq_69 (l_69 hn) hs hm rfl ?_
  refine aw_iconst (v := -1) dX10_place_13 (by decide) ?_
  refine aw_icmp_eq 74 dX10_place_14 (by decide) (fun c14 => ?_) (fun c14 => ?_)
  · refine aw_aload_n dX10_place_74 rfl ?_
    refine aw_get fl_X10_26 dX10_place_75 eq_63 (l_63 hn) rfl ?_
    refine aw_iload_n dX10_place_78 rfl ?_
    refine aw_aload_n dX10_place_79 rfl ?_
    refine aw_iload_n dX10_place_80 rfl ?_
    refine aw_iconst (v := 2) dX10_place_81 (by decide) ?_
    refine ap_callVi kv_X10_102 ko_X10_booking (cq_booking_2 hn hb hk) dX10_place_82 eq_63 (l_63 hn) rfl rfl rfl rfl (ble' rfl) (by decide) ?_
    refine aw_iastk dX10_place_85 eq_69 (l_69 hn) hs hm rfl hq69 ?_
    refine aw_aload_n dX10_place_86 rfl ?_
    refine aw_get fl_X10_23 dX10_place_87 eq_63 (l_63 hn) rfl ?_
    refine aw_iload_n dX10_place_90 rfl ?_
    refine aw_iload_n dX10_place_91 rfl ?_
    refine aw_iastk dX10_place_92 eq_68 (l_68 hn) hb hk rfl hq68 ?_
    refine aw_vret rfl dX10_place_93 (ble' rfl) (ble' rfl) ?_
    exact pd_v (by rw [if_pos c14, if_pos c14])
  · refine aw_aload_n dX10_place_17 rfl ?_
    refine aw_iload_n dX10_place_18 rfl ?_
    refine aw_iconst (v := 1) dX10_place_19 (by decide) ?_
    refine ap_callVi kv_X10_102 ko_X10_booking (cq_booking_1 hn hb hk) dX10_place_20 eq_63 (l_63 hn) rfl rfl rfl rfl (ble' rfl) (by decide) ?_
    refine aw_aload_n dX10_place_23 rfl ?_
    refine aw_get fl_X10_26 dX10_place_24 eq_63 (l_63 hn) rfl ?_
    refine aw_iload_n dX10_place_27 rfl ?_
    refine aw_ialdk dX10_place_28 eq_69 (l_69 hn) hs hm rfl ?_
    refine aw_isub dX10_place_29 ?_
    refine aw_istore (lo' := [_, _, _, _, some (.int _)]) dX10_place_30 (by decide) rfl ?_
    refine aw_aload_n dX10_place_32 rfl ?_
    refine aw_dup dX10_place_33 rfl ?_
    refine aw_get fl_X10_180 dX10_place_34 eq_63 (l_63 hn) rfl ?_
    refine aw_iload dX10_place_37 rfl ?_
    refine aw_iadd dX10_place_39 ?_
    refine aw_put fp_X10_180_m dX10_place_40 eq_63 (l_63 hn) (ble' rfl) (fun _ => ⟨rfl, rfl⟩) (hq63g rfl) ?_
    refine aw_aload_n dX10_place_43 rfl ?_
    refine aw_dup dX10_place_44 rfl ?_
    refine aw_get fl_X10_183 dX10_place_45 eq_63 (l_63 hn) rfl ?_
    refine aw_iload dX10_place_48 rfl ?_
    refine aw_aload_n dX10_place_50 rfl ?_
    refine aw_iload_n dX10_place_51 rfl ?_
    refine aw_aload_n dX10_place_52 rfl ?_
    refine aw_get fl_X10_26 dX10_place_53 eq_63 (l_63 hn) rfl ?_
    refine aw_iload_n dX10_place_56 rfl ?_
    refine aw_ialdk dX10_place_57 eq_69 (l_69 hn) hs hm rfl ?_
    refine ap_callVi kv_X10_81 ko_X10_minimumOf (cq_minimumOf hn hz hzl _ _) dX10_place_58 eq_63 (l_63 hn) rfl rfl rfl rfl (ble' rfl) (by decide) ?_
    refine aw_icmp_ge 69 dX10_place_61 (by decide) (fun c61 => ?_) (fun c61 => ?_)
    · have n61 := Int32.not_lt.mpr c61
      refine aw_iconst (v := 0) dX10_place_69 (by decide) ?_
      refine aw_iadd dX10_place_70 ?_
      refine aw_put fp_X10_183_m dX10_place_71 eq_63 (l_63 hn) (ble' rfl) (fun _ => ⟨rfl, rfl⟩) (hq63o rfl) ?_
      refine aw_aload_n dX10_place_74 rfl ?_
      refine aw_get fl_X10_26 dX10_place_75 eq_63 (l_63 hn) rfl ?_
      refine aw_iload_n dX10_place_78 rfl ?_
      refine aw_aload_n dX10_place_79 rfl ?_
      refine aw_iload_n dX10_place_80 rfl ?_
      refine aw_iconst (v := 2) dX10_place_81 (by decide) ?_
      refine ap_callVi kv_X10_102 ko_X10_booking (cq_booking_2 hn hb hk) dX10_place_82 eq_63 (l_63 hn) rfl rfl rfl rfl (ble' rfl) (by decide) ?_
      refine aw_iastk dX10_place_85 eq_69 (l_69 hn) hs hm rfl hq69 ?_
      refine aw_aload_n dX10_place_86 rfl ?_
      refine aw_get fl_X10_23 dX10_place_87 eq_63 (l_63 hn) rfl ?_
      refine aw_iload_n dX10_place_90 rfl ?_
      refine aw_iload_n dX10_place_91 rfl ?_
      refine aw_iastk dX10_place_92 eq_68 (l_68 hn) hb hk rfl hq68 ?_
      refine aw_vret rfl dX10_place_93 (ble' rfl) (ble' rfl) ?_
      exact pd_v (by rw [if_neg c14, if_neg c14, if_neg n61])
    · have n61 := Int32.not_le.mp c61
      refine aw_iload dX10_place_64 rfl ?_
      refine aw_goto 70 dX10_place_66 (by decide) ?_
      refine aw_iadd dX10_place_70 ?_
      refine aw_put fp_X10_183_m dX10_place_71 eq_63 (l_63 hn) (ble' rfl) (fun _ => ⟨rfl, rfl⟩) (hq63o rfl) ?_
      refine aw_aload_n dX10_place_74 rfl ?_
      refine aw_get fl_X10_26 dX10_place_75 eq_63 (l_63 hn) rfl ?_
      refine aw_iload_n dX10_place_78 rfl ?_
      refine aw_aload_n dX10_place_79 rfl ?_
      refine aw_iload_n dX10_place_80 rfl ?_
      refine aw_iconst (v := 2) dX10_place_81 (by decide) ?_
      refine ap_callVi kv_X10_102 ko_X10_booking (cq_booking_2 hn hb hk) dX10_place_82 eq_63 (l_63 hn) rfl rfl rfl rfl (ble' rfl) (by decide) ?_
      refine aw_iastk dX10_place_85 eq_69 (l_69 hn) hs hm rfl hq69 ?_
      refine aw_aload_n dX10_place_86 rfl ?_
      refine aw_get fl_X10_23 dX10_place_87 eq_63 (l_63 hn) rfl ?_
      refine aw_iload_n dX10_place_90 rfl ?_
      refine aw_iload_n dX10_place_91 rfl ?_
      refine aw_iastk dX10_place_92 eq_68 (l_68 hn) hb hk rfl hq68 ?_
      refine aw_vret rfl dX10_place_93 (ble' rfl) (ble' rfl) ?_
      exact pd_v (by rw [if_neg c14, if_neg c14, if_pos n61])

set_option maxRecDepth 100000 in
set_option maxHeartbeats 4000000 in
theorem lp_X10_freeSite {G : AG} {M : Nat → Nat → Int32} {n : Nat} (hn : 72 ≤ n) {pl le : Nat → Int32} {g o : Int32} {ns : Nat} (hs : M 64 2 = nI ns) (hsl : ns ≤ 16) {b pol : Int32} {kb : Nat} (hb : b = nI kb) (hk6 : kb < 60) : ∀ (j k : Nat) (x3 x5 : Int32), ns - k < j → k ≤ ns → x5 = nI k → x3 = (bestN (chB (V M 7) (V M 8) le (V M 16 kb) (V M 17 kb)) (fun k b => decide (pol = 1 ∧ le b < le k)) k) →  AW tX10_freeSite (AQm tX10_freeSite (PD (.inl (some (.int (bestN (chB (V M 7) (V M 8) le (V M 16 kb) (V M 17 kb)) (fun k b => decide (pol = 1 ∧ le b < le k)) ns)))) (wld G (rpM M pl le g o)) n)) C0 13 [some (.ref 63), some (.int b), some (.int pol), some (.int x3), some (.int (V M 17 kb)), some (.int x5), none] [] (wld G (rpM M pl le g o)) n 0 0 := by
  intro j
  induction j with
  | zero => intro k x3 x5 h0; omega
  | succ j ih =>
    intro k x3 x5 h0 hk h5 h3
    refine aw_iload dX10_freeSite_13 rfl ?_
    refine aw_aload_n dX10_freeSite_15 rfl ?_
    refine aw_get fl_X10_7 dX10_freeSite_16 eq_63 (l_63 hn) rfl ?_
    refine aw_iconst (v := 2) dX10_freeSite_19 (by decide) ?_
    refine aw_ialdk dX10_freeSite_20 eq_64 (l_64 hn) (show (2 : Int32) = nI 2 from rfl) (by decide) rfl ?_
    refine aw_icmp_ge 110 dX10_freeSite_21 (by decide) (fun c21 => ?_) (fun c21 => ?_)
    · have n21 := Int32.not_lt.mpr c21
      refine aw_iload_n dX10_freeSite_110 rfl ?_
      refine aw_iret rfl dX10_freeSite_111 (ble' rfl) (ble' rfl) ?_
      have hke : k = ns := Nat.le_antisymm hk (le_of_le hs h5 (by omega) (by omega) c21)
      exact pd_i (by rw [h3, hke])
    · have n21 := Int32.not_le.mp c21
      have hlt : k < ns := lt_of_nle hs h5 (by omega) (by omega) c21
      have h16 : k < 16 := by omega
      refine aw_aload_n dX10_freeSite_24 rfl ?_
      refine aw_iload dX10_freeSite_25 rfl ?_
      refine aw_iconst (v := 0) dX10_freeSite_27 (by decide) ?_
      refine ap_callVi kv_X10_68 ko_X10_site (cq_site_0 hn h5 h16) dX10_freeSite_28 eq_63 (l_63 hn) rfl rfl rfl rfl (ble' rfl) (by decide) ?_
      refine aw_aload_n dX10_freeSite_31 rfl ?_
      refine aw_iload_n dX10_freeSite_32 rfl ?_
      refine aw_iconst (v := 0) dX10_freeSite_33 (by decide) ?_
      refine ap_callVi kv_X10_102 ko_X10_booking (cq_booking_0 hn hb hk6) dX10_freeSite_34 eq_63 (l_63 hn) rfl rfl rfl rfl (ble' rfl) (by decide) ?_
      refine aw_icmp_ne 67 dX10_freeSite_37 (by decide) (fun c37 => ?_) (fun c37 => ?_)
      · refine aw_iconst (v := 0) dX10_freeSite_67 (by decide) ?_
        refine aw_istore (lo' := [_, _, _, _, _, _, some (.int _)]) dX10_freeSite_68 (by decide) rfl ?_
        refine aw_iload dX10_freeSite_70 rfl ?_
        refine aw_if_eq 104 dX10_freeSite_72 (by decide) (fun _ => ?_) (fun q => absurd q (by decide))
        refine aw_iinc (lo' := [_, _, _, _, _, some (.int _), _]) dX10_freeSite_104 rfl (by decide) rfl ?_
        refine aw_goto 13 dX10_freeSite_107 (by decide) ?_
        refine aw_lo2 (lo' := [some (.ref 63), some (.int b), some (.int pol), some (.int _), some (.int _), some (.int _), none]) ⟨rfl, rfl, rfl, rfl, rfl, rfl, trivial⟩ ?_
        exact ih (k + 1) _ _ (by omega) (by omega) (by rw [h5]; exact inc1 k) (by rw [h3, best_n (by simp [chB, c37])])
      · refine aw_aload_n dX10_freeSite_40 rfl ?_
        refine aw_iload dX10_freeSite_41 rfl ?_
        refine aw_iload dX10_freeSite_43 rfl ?_
        refine ap_callVi kv_X10_84 ko_X10_isOpenOn (cq_isOpenOn hn h5 h16) dX10_freeSite_45 eq_63 (l_63 hn) rfl rfl rfl rfl (ble' rfl) (by decide) ?_
        refine aw_if_eq 67 dX10_freeSite_48 (by decide) (fun c48 => ?_) (fun c48 => ?_)
        · have n48 := bI_z.mp c48
          refine aw_iconst (v := 0) dX10_freeSite_67 (by decide) ?_
          refine aw_istore (lo' := [_, _, _, _, _, _, some (.int _)]) dX10_freeSite_68 (by decide) rfl ?_
          refine aw_iload dX10_freeSite_70 rfl ?_
          refine aw_if_eq 104 dX10_freeSite_72 (by decide) (fun _ => ?_) (fun q => absurd q (by decide))
          refine aw_iinc (lo' := [_, _, _, _, _, some (.int _), _]) dX10_freeSite_104 rfl (by decide) rfl ?_
          refine aw_goto 13 dX10_freeSite_107 (by decide) ?_
          refine aw_lo2 (lo' := [some (.ref 63), some (.int b), some (.int pol), some (.int _), some (.int _), some (.int _), none]) ⟨rfl, rfl, rfl, rfl, rfl, rfl, trivial⟩ ?_
          exact ih (k + 1) _ _ (by omega) (by omega) (by rw [h5]; exact inc1 k) (by rw [h3, best_n (by simp only [chB, decide_eq_false_iff_not]; exact fun q => n48 q.2.1)])
        · have n48 := bI_nz.mp c48
          refine aw_aload_n dX10_freeSite_51 rfl ?_
          refine aw_get fl_X10_26 dX10_freeSite_52 eq_63 (l_63 hn) rfl ?_
          refine aw_iload dX10_freeSite_55 rfl ?_
          refine aw_ialdk dX10_freeSite_57 eq_69 (l_69 hn) h5 h16 rfl ?_
          refine aw_iload dX10_freeSite_58 rfl ?_
          refine aw_icmp_gt 67 dX10_freeSite_60 (by decide) (fun c60 => ?_) (fun c60 => ?_)
          · have n60 := Int32.not_le.mpr c60
            refine aw_iconst (v := 0) dX10_freeSite_67 (by decide) ?_
            refine aw_istore (lo' := [_, _, _, _, _, _, some (.int _)]) dX10_freeSite_68 (by decide) rfl ?_
            refine aw_iload dX10_freeSite_70 rfl ?_
            refine aw_if_eq 104 dX10_freeSite_72 (by decide) (fun _ => ?_) (fun q => absurd q (by decide))
            refine aw_iinc (lo' := [_, _, _, _, _, some (.int _), _]) dX10_freeSite_104 rfl (by decide) rfl ?_
            refine aw_goto 13 dX10_freeSite_107 (by decide) ?_
            refine aw_lo2 (lo' := [some (.ref 63), some (.int b), some (.int pol), some (.int _), some (.int _), some (.int _), none]) ⟨rfl, rfl, rfl, rfl, rfl, rfl, trivial⟩ ?_
            exact ih (k + 1) _ _ (by omega) (by omega) (by rw [h5]; exact inc1 k) (by rw [h3, best_n (by simp only [chB, decide_eq_false_iff_not]; exact fun q => Int32.not_lt.mpr q.2.2 c60)])
          · have n60 := Int32.not_lt.mp c60
            refine aw_iconst (v := 1) dX10_freeSite_63 (by decide) ?_
            refine aw_goto 68 dX10_freeSite_64 (by decide) ?_
            refine aw_istore (lo' := [_, _, _, _, _, _, some (.int _)]) dX10_freeSite_68 (by decide) rfl ?_
            refine aw_iload dX10_freeSite_70 rfl ?_
            refine aw_if_eq 104 dX10_freeSite_72 (by decide) (fun q => absurd q (by decide)) (fun _ => ?_)
            refine aw_iload_n dX10_freeSite_75 rfl ?_
            refine aw_iconst (v := -1) dX10_freeSite_76 (by decide) ?_
            refine aw_icmp_eq 101 dX10_freeSite_77 (by decide) (fun c77 => ?_) (fun c77 => ?_)
            · refine aw_iload dX10_freeSite_101 rfl ?_
              refine aw_istore_n (lo' := [_, _, _, some (.int _), _, _, _]) dX10_freeSite_103 (by decide) rfl ?_
              refine aw_iinc (lo' := [_, _, _, _, _, some (.int _), _]) dX10_freeSite_104 rfl (by decide) rfl ?_
              refine aw_goto 13 dX10_freeSite_107 (by decide) ?_
              refine aw_lo2 (lo' := [some (.ref 63), some (.int b), some (.int pol), some (.int _), some (.int _), some (.int _), none]) ⟨rfl, rfl, rfl, rfl, rfl, rfl, trivial⟩ ?_
              exact ih (k + 1) _ _ (by omega) (by omega) (by rw [h5]; exact inc1 k) (by rw [h5, best_t (by simp only [chB, decide_eq_true_eq]; exact ⟨c37, n48, Int32.not_lt.mp c60⟩) (Or.inl (by rw [← h3]; exact c77))])
            · refine aw_iload_n dX10_freeSite_80 rfl ?_
              refine aw_iconst (v := 1) dX10_freeSite_81 (by decide) ?_
              refine aw_icmp_ne 104 dX10_freeSite_82 (by decide) (fun c82 => ?_) (fun c82 => ?_)
              · refine aw_iinc (lo' := [_, _, _, _, _, some (.int _), _]) dX10_freeSite_104 rfl (by decide) rfl ?_
                refine aw_goto 13 dX10_freeSite_107 (by decide) ?_
                refine aw_lo2 (lo' := [some (.ref 63), some (.int b), some (.int pol), some (.int _), some (.int _), some (.int _), none]) ⟨rfl, rfl, rfl, rfl, rfl, rfl, trivial⟩ ?_
                exact ih (k + 1) _ _ (by omega) (by omega) (by rw [h5]; exact inc1 k) (by obtain ⟨b0, hb0, hx3, -⟩ := (best_in (chB (V M 7) (V M 8) le (V M 16 kb) (V M 17 kb)) (fun k b => decide (pol = 1 ∧ le b < le k)) k).resolve_left (by rw [← h3]; exact c77); rw [h3, best_w hx3 (by omega) (by simp only [decide_eq_false_iff_not]; exact fun q => c82 q.1)])
              · obtain ⟨b0, hb0, hx3, -⟩ := (best_in (chB (V M 7) (V M 8) le (V M 16 kb) (V M 17 kb)) (fun k b => decide (pol = 1 ∧ le b < le k)) k).resolve_left (by rw [← h3]; exact c77)
                rw [← h3] at hx3
                refine aw_aload_n dX10_freeSite_85 rfl ?_
                refine aw_get fl_X10_26 dX10_freeSite_86 eq_63 (l_63 hn) rfl ?_
                refine aw_iload dX10_freeSite_89 rfl ?_
                refine aw_ialdk dX10_freeSite_91 eq_69 (l_69 hn) h5 h16 rfl ?_
                refine aw_aload_n dX10_freeSite_92 rfl ?_
                refine aw_get fl_X10_26 dX10_freeSite_93 eq_63 (l_63 hn) rfl ?_
                refine aw_iload_n dX10_freeSite_96 rfl ?_
                refine aw_ialdk dX10_freeSite_97 eq_69 (l_69 hn) hx3 (by omega) rfl ?_
                refine aw_icmp_le 104 dX10_freeSite_98 (by decide) (fun c98 => ?_) (fun c98 => ?_)
                · have n98 := Int32.not_lt.mpr c98
                  refine aw_iinc (lo' := [_, _, _, _, _, some (.int _), _]) dX10_freeSite_104 rfl (by decide) rfl ?_
                  refine aw_goto 13 dX10_freeSite_107 (by decide) ?_
                  refine aw_lo2 (lo' := [some (.ref 63), some (.int b), some (.int pol), some (.int _), some (.int _), some (.int _), none]) ⟨rfl, rfl, rfl, rfl, rfl, rfl, trivial⟩ ?_
                  exact ih (k + 1) _ _ (by omega) (by omega) (by rw [h5]; exact inc1 k) (by rw [h3, best_w (h3.symm.trans hx3) (by omega) (by simp only [decide_eq_false_iff_not]; exact fun q => n98 q.2)])
                · have n98 := Int32.not_le.mp c98
                  refine aw_iload dX10_freeSite_101 rfl ?_
                  refine aw_istore_n (lo' := [_, _, _, some (.int _), _, _, _]) dX10_freeSite_103 (by decide) rfl ?_
                  refine aw_iinc (lo' := [_, _, _, _, _, some (.int _), _]) dX10_freeSite_104 rfl (by decide) rfl ?_
                  refine aw_goto 13 dX10_freeSite_107 (by decide) ?_
                  refine aw_lo2 (lo' := [some (.ref 63), some (.int b), some (.int pol), some (.int _), some (.int _), some (.int _), none]) ⟨rfl, rfl, rfl, rfl, rfl, rfl, trivial⟩ ?_
                  exact ih (k + 1) _ _ (by omega) (by omega) (by rw [h5]; exact inc1 k) (by rw [h5, best_b (by simp only [chB, decide_eq_true_eq]; exact ⟨c37, n48, Int32.not_lt.mp c60⟩) (h3.symm.trans hx3) (by omega) (by simp only [decide_eq_true_eq]; exact ⟨c82, n98⟩)])

set_option maxRecDepth 100000 in
set_option maxHeartbeats 4000000 in
theorem c_X10_freeSite {G : AG} {M : Nat → Nat → Int32} {n : Nat} (hn : 72 ≤ n) {pl le : Nat → Int32} {g o : Int32} {ns : Nat} (hs : M 64 2 = nI ns) (hsl : ns ≤ 16) {b pol : Int32} {kb : Nat} (hb : b = nI kb) (hk6 : kb < 60) : AMet tX10_freeSite yX10_freeSite [Cond.code yX10_freeSite cX10_freeSite 7 (some .int)] [.ref 63, .int b, .int pol] (wld G (rpM M pl le g o)) n (PD (.inl (some (.int (bestN (chB (V M 7) (V M 8) le (V M 16 kb) (V M 17 kb)) (fun k b => decide (pol = 1 ∧ le b < le k)) ns)))) (wld G (rpM M pl le g o)) n) := by
  refine am_of (lo := [_, _, _, _, _, _, _]) (by decide) rfl (fun q => by cases q) rfl rfl rfl ?_
  refine aw_iconst (v := -1) dX10_freeSite_0 (by decide) ?_
  refine aw_istore_n (lo' := [_, _, _, some (.int _), _, _, _]) dX10_freeSite_1 (by decide) rfl ?_
  refine aw_aload_n dX10_freeSite_2 rfl ?_
  refine aw_iload_n dX10_freeSite_3 rfl ?_
  refine aw_iconst (v := 1) dX10_freeSite_4 (by decide) ?_
  refine ap_callVi kv_X10_102 ko_X10_booking (cq_booking_1 hn hb hk6) dX10_freeSite_5 eq_63 (l_63 hn) rfl rfl rfl rfl (ble' rfl) (by decide) ?_
  refine aw_istore (lo' := [_, _, _, _, some (.int _), _, _]) dX10_freeSite_8 (by decide) rfl ?_
  refine aw_iconst (v := 0) dX10_freeSite_10 (by decide) ?_
  refine aw_istore (lo' := [_, _, _, _, _, some (.int _), _]) dX10_freeSite_11 (by decide) rfl ?_
  exact lp_X10_freeSite hn hs hsl hb hk6 (ns + 1) 0 _ _ (by omega) (by omega) rfl rfl

set_option maxRecDepth 100000 in
set_option maxHeartbeats 4000000 in
theorem lp_X10_nextBooking {G : AG} {M : Nat → Nat → Int32} {n : Nat} (hn : 72 ≤ n) {pl le : Nat → Int32} {g o : Int32} {nb : Nat} (hb : M 64 4 = nI nb) (hbl : nb ≤ 60) (c : Int32) : ∀ (j k : Nat) (x2 x3 : Int32), nb - k < j → k ≤ nb → x3 = nI k → x2 = (bestN (nxB (V M 16) (V M 20) pl c) (fun k b => decide (V M 17 k < V M 17 b)) k) →  AW tX10_nextBooking (AQm tX10_nextBooking (PD (.inl (some (.int (bestN (nxB (V M 16) (V M 20) pl c) (fun k b => decide (V M 17 k < V M 17 b)) nb)))) (wld G (rpM M pl le g o)) n)) C0 4 [some (.ref 63), some (.int c), some (.int x2), some (.int x3), none] [] (wld G (rpM M pl le g o)) n 0 0 := by
  intro j
  induction j with
  | zero => intro k x2 x3 h0; omega
  | succ j ih =>
    intro k x2 x3 h0 hk h3 h2
    refine aw_iload_n dX10_nextBooking_4 rfl ?_
    refine aw_aload_n dX10_nextBooking_5 rfl ?_
    refine aw_get fl_X10_7 dX10_nextBooking_6 eq_63 (l_63 hn) rfl ?_
    refine aw_iconst (v := 4) dX10_nextBooking_9 (by decide) ?_
    refine aw_ialdk dX10_nextBooking_10 eq_64 (l_64 hn) (show (4 : Int32) = nI 4 from rfl) (by decide) rfl ?_
    refine aw_icmp_ge 83 dX10_nextBooking_11 (by decide) (fun c11 => ?_) (fun c11 => ?_)
    · have n11 := Int32.not_lt.mpr c11
      refine aw_iload_n dX10_nextBooking_83 rfl ?_
      refine aw_iret rfl dX10_nextBooking_84 (ble' rfl) (ble' rfl) ?_
      have hke : k = nb := Nat.le_antisymm hk (le_of_le hb h3 (by omega) (by omega) c11)
      exact pd_i (by rw [h2, hke])
    · have n11 := Int32.not_le.mp c11
      have hlt : k < nb := lt_of_nle hb h3 (by omega) (by omega) c11
      have h60 : k < 60 := by omega
      refine aw_aload_n dX10_nextBooking_14 rfl ?_
      refine aw_iload_n dX10_nextBooking_15 rfl ?_
      refine aw_iconst (v := 4) dX10_nextBooking_16 (by decide) ?_
      refine ap_callVi kv_X10_102 ko_X10_booking (cq_booking_4 hn h3 h60) dX10_nextBooking_17 eq_63 (l_63 hn) rfl rfl rfl rfl (ble' rfl) (by decide) ?_
      refine aw_if_ne 47 dX10_nextBooking_20 (by decide) (fun c20 => ?_) (fun c20 => ?_)
      · refine aw_iconst (v := 0) dX10_nextBooking_47 (by decide) ?_
        refine aw_istore (lo' := [_, _, _, _, some (.int _)]) dX10_nextBooking_48 (by decide) rfl ?_
        refine aw_iload dX10_nextBooking_50 rfl ?_
        refine aw_if_eq 77 dX10_nextBooking_52 (by decide) (fun _ => ?_) (fun q => absurd q (by decide))
        refine aw_iinc (lo' := [_, _, _, some (.int _), _]) dX10_nextBooking_77 rfl (by decide) rfl ?_
        refine aw_goto 4 dX10_nextBooking_80 (by decide) ?_
        refine aw_lo2 (lo' := [some (.ref 63), some (.int c), some (.int _), some (.int _), none]) ⟨rfl, rfl, rfl, rfl, trivial⟩ ?_
        exact ih (k + 1) _ _ (by omega) (by omega) (by rw [h3]; exact inc1 k) (by rw [h2, best_n (by simp [nxB, c20])])
      · refine aw_aload_n dX10_nextBooking_23 rfl ?_
        refine aw_iload_n dX10_nextBooking_24 rfl ?_
        refine aw_iconst (v := 0) dX10_nextBooking_25 (by decide) ?_
        refine ap_callVi kv_X10_102 ko_X10_booking (cq_booking_0 hn h3 h60) dX10_nextBooking_26 eq_63 (l_63 hn) rfl rfl rfl rfl (ble' rfl) (by decide) ?_
        refine aw_iload_n dX10_nextBooking_29 rfl ?_
        refine aw_icmp_ne 47 dX10_nextBooking_30 (by decide) (fun c30 => ?_) (fun c30 => ?_)
        · refine aw_iconst (v := 0) dX10_nextBooking_47 (by decide) ?_
          refine aw_istore (lo' := [_, _, _, _, some (.int _)]) dX10_nextBooking_48 (by decide) rfl ?_
          refine aw_iload dX10_nextBooking_50 rfl ?_
          refine aw_if_eq 77 dX10_nextBooking_52 (by decide) (fun _ => ?_) (fun q => absurd q (by decide))
          refine aw_iinc (lo' := [_, _, _, some (.int _), _]) dX10_nextBooking_77 rfl (by decide) rfl ?_
          refine aw_goto 4 dX10_nextBooking_80 (by decide) ?_
          refine aw_lo2 (lo' := [some (.ref 63), some (.int c), some (.int _), some (.int _), none]) ⟨rfl, rfl, rfl, rfl, trivial⟩ ?_
          exact ih (k + 1) _ _ (by omega) (by omega) (by rw [h3]; exact inc1 k) (by rw [h2, best_n (by simp [nxB, c30])])
        · refine aw_aload_n dX10_nextBooking_33 rfl ?_
          refine aw_get fl_X10_23 dX10_nextBooking_34 eq_63 (l_63 hn) rfl ?_
          refine aw_iload_n dX10_nextBooking_37 rfl ?_
          refine aw_ialdk dX10_nextBooking_38 eq_68 (l_68 hn) h3 h60 rfl ?_
          refine aw_iconst (v := -1) dX10_nextBooking_39 (by decide) ?_
          refine aw_icmp_ne 47 dX10_nextBooking_40 (by decide) (fun c40 => ?_) (fun c40 => ?_)
          · refine aw_iconst (v := 0) dX10_nextBooking_47 (by decide) ?_
            refine aw_istore (lo' := [_, _, _, _, some (.int _)]) dX10_nextBooking_48 (by decide) rfl ?_
            refine aw_iload dX10_nextBooking_50 rfl ?_
            refine aw_if_eq 77 dX10_nextBooking_52 (by decide) (fun _ => ?_) (fun q => absurd q (by decide))
            refine aw_iinc (lo' := [_, _, _, some (.int _), _]) dX10_nextBooking_77 rfl (by decide) rfl ?_
            refine aw_goto 4 dX10_nextBooking_80 (by decide) ?_
            refine aw_lo2 (lo' := [some (.ref 63), some (.int c), some (.int _), some (.int _), none]) ⟨rfl, rfl, rfl, rfl, trivial⟩ ?_
            exact ih (k + 1) _ _ (by omega) (by omega) (by rw [h3]; exact inc1 k) (by rw [h2, best_n (by simp [nxB, c40])])
          · refine aw_iconst (v := 1) dX10_nextBooking_43 (by decide) ?_
            refine aw_goto 48 dX10_nextBooking_44 (by decide) ?_
            refine aw_istore (lo' := [_, _, _, _, some (.int _)]) dX10_nextBooking_48 (by decide) rfl ?_
            refine aw_iload dX10_nextBooking_50 rfl ?_
            refine aw_if_eq 77 dX10_nextBooking_52 (by decide) (fun q => absurd q (by decide)) (fun _ => ?_)
            refine aw_iload_n dX10_nextBooking_55 rfl ?_
            refine aw_iconst (v := -1) dX10_nextBooking_56 (by decide) ?_
            refine aw_icmp_eq 75 dX10_nextBooking_57 (by decide) (fun c57 => ?_) (fun c57 => ?_)
            · refine aw_iload_n dX10_nextBooking_75 rfl ?_
              refine aw_istore_n (lo' := [_, _, some (.int _), _, _]) dX10_nextBooking_76 (by decide) rfl ?_
              refine aw_iinc (lo' := [_, _, _, some (.int _), _]) dX10_nextBooking_77 rfl (by decide) rfl ?_
              refine aw_goto 4 dX10_nextBooking_80 (by decide) ?_
              refine aw_lo2 (lo' := [some (.ref 63), some (.int c), some (.int _), some (.int _), none]) ⟨rfl, rfl, rfl, rfl, trivial⟩ ?_
              exact ih (k + 1) _ _ (by omega) (by omega) (by rw [h3]; exact inc1 k) (by rw [h3, best_t (by simp [nxB, c20, c30, c40]) (Or.inl (by rw [← h2]; exact c57))])
            · obtain ⟨b0, hb0, hx2, -⟩ := (best_in (nxB (V M 16) (V M 20) pl c) (fun k b => decide (V M 17 k < V M 17 b)) k).resolve_left (by rw [← h2]; exact c57)
              rw [← h2] at hx2
              refine aw_aload_n dX10_nextBooking_60 rfl ?_
              refine aw_iload_n dX10_nextBooking_61 rfl ?_
              refine aw_iconst (v := 1) dX10_nextBooking_62 (by decide) ?_
              refine ap_callVi kv_X10_102 ko_X10_booking (cq_booking_1 hn h3 h60) dX10_nextBooking_63 eq_63 (l_63 hn) rfl rfl rfl rfl (ble' rfl) (by decide) ?_
              refine aw_aload_n dX10_nextBooking_66 rfl ?_
              refine aw_iload_n dX10_nextBooking_67 rfl ?_
              refine aw_iconst (v := 1) dX10_nextBooking_68 (by decide) ?_
              refine ap_callVi kv_X10_102 ko_X10_booking (cq_booking_1 hn hx2 (by omega)) dX10_nextBooking_69 eq_63 (l_63 hn) rfl rfl rfl rfl (ble' rfl) (by decide) ?_
              refine aw_icmp_ge 77 dX10_nextBooking_72 (by decide) (fun c72 => ?_) (fun c72 => ?_)
              · have n72 := Int32.not_lt.mpr c72
                refine aw_iinc (lo' := [_, _, _, some (.int _), _]) dX10_nextBooking_77 rfl (by decide) rfl ?_
                refine aw_goto 4 dX10_nextBooking_80 (by decide) ?_
                refine aw_lo2 (lo' := [some (.ref 63), some (.int c), some (.int _), some (.int _), none]) ⟨rfl, rfl, rfl, rfl, trivial⟩ ?_
                exact ih (k + 1) _ _ (by omega) (by omega) (by rw [h3]; exact inc1 k) (by rw [h2, best_w (h2.symm.trans hx2) (by omega) (by simp only [decide_eq_false_iff_not]; exact n72)])
              · have n72 := Int32.not_le.mp c72
                refine aw_iload_n dX10_nextBooking_75 rfl ?_
                refine aw_istore_n (lo' := [_, _, some (.int _), _, _]) dX10_nextBooking_76 (by decide) rfl ?_
                refine aw_iinc (lo' := [_, _, _, some (.int _), _]) dX10_nextBooking_77 rfl (by decide) rfl ?_
                refine aw_goto 4 dX10_nextBooking_80 (by decide) ?_
                refine aw_lo2 (lo' := [some (.ref 63), some (.int c), some (.int _), some (.int _), none]) ⟨rfl, rfl, rfl, rfl, trivial⟩ ?_
                exact ih (k + 1) _ _ (by omega) (by omega) (by rw [h3]; exact inc1 k) (by rw [h3, best_b (by simp [nxB, c20, c30, c40]) (h2.symm.trans hx2) (by omega) (by simp only [decide_eq_true_eq]; exact n72)])

set_option maxRecDepth 100000 in
set_option maxHeartbeats 4000000 in
theorem c_X10_nextBooking {G : AG} {M : Nat → Nat → Int32} {n : Nat} (hn : 72 ≤ n) {pl le : Nat → Int32} {g o : Int32} {nb : Nat} (hb : M 64 4 = nI nb) (hbl : nb ≤ 60) (c : Int32) : AMet tX10_nextBooking yX10_nextBooking [Cond.code yX10_nextBooking cX10_nextBooking 5 (some .int)] [.ref 63, .int c] (wld G (rpM M pl le g o)) n (PD (.inl (some (.int (bestN (nxB (V M 16) (V M 20) pl c) (fun k b => decide (V M 17 k < V M 17 b)) nb)))) (wld G (rpM M pl le g o)) n) := by
  refine am_of (lo := [_, _, _, _, _]) (by decide) rfl (fun q => by cases q) rfl rfl rfl ?_
  refine aw_iconst (v := -1) dX10_nextBooking_0 (by decide) ?_
  refine aw_istore_n (lo' := [_, _, some (.int _), _, _]) dX10_nextBooking_1 (by decide) rfl ?_
  refine aw_iconst (v := 0) dX10_nextBooking_2 (by decide) ?_
  refine aw_istore_n (lo' := [_, _, _, some (.int _), _]) dX10_nextBooking_3 (by decide) rfl ?_
  exact lp_X10_nextBooking hn hb hbl c (nb + 1) 0 _ _ (by omega) (by omega) rfl rfl
