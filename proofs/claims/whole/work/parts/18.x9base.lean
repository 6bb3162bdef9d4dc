theorem ats_ise : ∀ w ∈ vx_atS RX9 73 "java/lang/IllegalStateException" ["java/lang/RuntimeException", "java/lang/Exception"], w ∈ GW := by decide +kernel
theorem att_ise : ∀ w ∈ Cond.classLink RX9 69 "java/lang/IllegalStateException" :: Cond.initialized "java/lang/IllegalStateException" :: vx_atS RX9 73 "java/lang/IllegalStateException" ["java/lang/RuntimeException", "java/lang/Exception"], vx_ot w = true := by decide +kernel
theorem atk_ise : Cond.classLink RX9 69 "java/lang/IllegalStateException" ∈ GW ∧ Cond.initialized "java/lang/IllegalStateException" ∈ GW := ⟨gw_at 735 (by decide +kernel) rfl, gw_at 143 (by decide +kernel) rfl⟩
theorem ats_iae : ∀ w ∈ vx_atS RX9 313 "java/lang/IllegalArgumentException" ["java/lang/RuntimeException", "java/lang/Exception"], w ∈ GW := by decide +kernel
theorem att_iae : ∀ w ∈ Cond.classLink RX9 309 "java/lang/IllegalArgumentException" :: Cond.initialized "java/lang/IllegalArgumentException" :: vx_atS RX9 313 "java/lang/IllegalArgumentException" ["java/lang/RuntimeException", "java/lang/Exception"], vx_ot w = true := by decide +kernel
theorem atk_iae : Cond.classLink RX9 309 "java/lang/IllegalArgumentException" ∈ GW ∧ Cond.initialized "java/lang/IllegalArgumentException" ∈ GW := ⟨gw_at 668 (by decide +kernel) rfl, gw_at 142 (by decide +kernel) rfl⟩
theorem ats_iob : ∀ w ∈ vx_atS RX9 302 "java/lang/IndexOutOfBoundsException" ["java/lang/RuntimeException", "java/lang/Exception"], w ∈ GW := by decide +kernel
theorem att_iob : ∀ w ∈ Cond.classLink RX9 298 "java/lang/IndexOutOfBoundsException" :: Cond.initialized "java/lang/IndexOutOfBoundsException" :: vx_atS RX9 302 "java/lang/IndexOutOfBoundsException" ["java/lang/RuntimeException", "java/lang/Exception"], vx_ot w = true := by decide +kernel
theorem atk_iob : Cond.classLink RX9 298 "java/lang/IndexOutOfBoundsException" ∈ GW ∧ Cond.initialized "java/lang/IndexOutOfBoundsException" ∈ GW := ⟨gw_at 764 (by decide +kernel) rfl, gw_at 144 (by decide +kernel) rfl⟩
theorem tx_71 : TX RX9 69 71 73 "java/lang/IllegalStateException" "there are 4 classes" ["java/lang/RuntimeException", "java/lang/Exception"] := ⟨by decide +kernel, by decide +kernel, atk_ise.1, atk_ise.2, by decide +kernel, ats_ise, att_ise⟩
theorem tx_91 : TX RX9 69 91 73 "java/lang/IllegalStateException" "there are 16 sites" ["java/lang/RuntimeException", "java/lang/Exception"] := ⟨by decide +kernel, by decide +kernel, atk_ise.1, atk_ise.2, by decide +kernel, ats_ise, att_ise⟩
theorem tx_103 : TX RX9 69 103 73 "java/lang/IllegalStateException" "there are 12 seasons" ["java/lang/RuntimeException", "java/lang/Exception"] := ⟨by decide +kernel, by decide +kernel, atk_ise.1, atk_ise.2, by decide +kernel, ats_ise, att_ise⟩
theorem tx_159 : TX RX9 69 159 73 "java/lang/IllegalStateException" "an obstacle, or 60 bookings" ["java/lang/RuntimeException", "java/lang/Exception"] := ⟨by decide +kernel, by decide +kernel, atk_ise.1, atk_ise.2, by decide +kernel, ats_ise, att_ise⟩
theorem tx_213 : TX RX9 69 213 73 "java/lang/IllegalStateException" "there is no day after 999" ["java/lang/RuntimeException", "java/lang/Exception"] := ⟨by decide +kernel, by decide +kernel, atk_ise.1, atk_ise.2, by decide +kernel, ats_ise, att_ise⟩
theorem tx_235 : TX RX9 69 235 73 "java/lang/IllegalStateException" "there are 20 requests" ["java/lang/RuntimeException", "java/lang/Exception"] := ⟨by decide +kernel, by decide +kernel, atk_ise.1, atk_ise.2, by decide +kernel, ats_ise, att_ise⟩
theorem tx_282 : TX RX9 69 282 73 "java/lang/IllegalStateException" "the text would be longer than 500 bytes" ["java/lang/RuntimeException", "java/lang/Exception"] := ⟨by decide +kernel, by decide +kernel, atk_ise.1, atk_ise.2, by decide +kernel, ats_ise, att_ise⟩
theorem tx_296 : TX RX9 69 296 73 "java/lang/IllegalStateException" "nothing is saved there" ["java/lang/RuntimeException", "java/lang/Exception"] := ⟨by decide +kernel, by decide +kernel, atk_ise.1, atk_ise.2, by decide +kernel, ats_ise, att_ise⟩
theorem tx_300 : TX RX9 298 300 302 "java/lang/IndexOutOfBoundsException" "no such class" ["java/lang/RuntimeException", "java/lang/Exception"] := ⟨by decide +kernel, by decide +kernel, atk_iob.1, atk_iob.2, by decide +kernel, ats_iob, att_iob⟩
theorem tx_303 : TX RX9 298 303 302 "java/lang/IndexOutOfBoundsException" "no such site" ["java/lang/RuntimeException", "java/lang/Exception"] := ⟨by decide +kernel, by decide +kernel, atk_iob.1, atk_iob.2, by decide +kernel, ats_iob, att_iob⟩
theorem tx_305 : TX RX9 298 305 302 "java/lang/IndexOutOfBoundsException" "no such booking" ["java/lang/RuntimeException", "java/lang/Exception"] := ⟨by decide +kernel, by decide +kernel, atk_iob.1, atk_iob.2, by decide +kernel, ats_iob, att_iob⟩
theorem tx_307 : TX RX9 298 307 302 "java/lang/IndexOutOfBoundsException" "no such request" ["java/lang/RuntimeException", "java/lang/Exception"] := ⟨by decide +kernel, by decide +kernel, atk_iob.1, atk_iob.2, by decide +kernel, ats_iob, att_iob⟩
theorem tx_311 : TX RX9 309 311 313 "java/lang/IllegalArgumentException" "the site has another class" ["java/lang/RuntimeException", "java/lang/Exception"] := ⟨by decide +kernel, by decide +kernel, atk_iae.1, atk_iae.2, by decide +kernel, ats_iae, att_iae⟩
theorem tx_314 : TX RX9 309 314 313 "java/lang/IllegalArgumentException" "out of range" ["java/lang/RuntimeException", "java/lang/Exception"] := ⟨by decide +kernel, by decide +kernel, atk_iae.1, atk_iae.2, by decide +kernel, ats_iae, att_iae⟩
theorem tx_316 : TX RX9 69 316 73 "java/lang/IllegalStateException" "not possible in this state" ["java/lang/RuntimeException", "java/lang/Exception"] := ⟨by decide +kernel, by decide +kernel, atk_ise.1, atk_ise.2, by decide +kernel, ats_ise, att_ise⟩
/-- a check: it throws E if bad, else it comes back; nothing changes -/
def PE (bad : Prop) (E : String) (h : Nat → AE) (n : Nat) : APost := fun o h' n' => h' = h ∧ n' = n ∧ ((bad ∧ o = .inr E) ∨ (¬ bad ∧ o = .inl none))
theorem pe_t {bad : Prop} {E : String} {h : Nat → AE} {n : Nat} (q : bad) : PE bad E h n (.inr E) h n := ⟨rfl, rfl, Or.inl ⟨q, rfl⟩⟩
theorem pe_f {bad : Prop} {E : String} {h : Nat → AE} {n : Nat} (q : ¬ bad) : PE bad E h n (.inl none) h n := ⟨rfl, rfl, Or.inr ⟨q, rfl⟩⟩
/-- the rows that hold no state between two calls: the judge's and the plan's -/
def scr (i : Nat) : Prop := i = 56 ∨ i = 57 ∨ i = 58 ∨ i = 59 ∨ i = 60
def SEq (M M1 : Nat → Nat → Int32) : Prop := ∀ i, ¬ scr i → M i = M1 i
theorem seq_rf {M : Nat → Nat → Int32} : SEq M M := fun _ _ => rfl
/-- a call's end: which exception of its list (0: none), what it answers, the rows behind it (M0 where it throws) but for the scratch ones -/
def PO (es : List String) (cd : Nat) (v : Option Value) (G : AG) (M0 M1 : Nat → Nat → Int32) (n : Nat) : APost := fun o h' n' => n' = n ∧ ((cd = 0 ∧ o = .inl v ∧ ∃ M', h' = wld G M' ∧ SEq M' M1) ∨ (¬ cd = 0 ∧ o = .inr (es.getD (cd - 1) "") ∧ ∃ M', h' = wld G M' ∧ SEq M' M0))
theorem po_r {es : List String} {cd : Nat} {v w : Option Value} {G : AG} {M M0 M1 : Nat → Nat → Int32} {n : Nat} (h0 : cd = 0) (hv : w = v) (hs : SEq M M1) : PO es cd v G M0 M1 n (.inl w) (wld G M) n := ⟨rfl, Or.inl ⟨h0, by rw [hv], M, rfl, hs⟩⟩
theorem po_i {es : List String} {cd : Nat} {v w : Int32} {G : AG} {M M0 M1 : Nat → Nat → Int32} {n : Nat} (h0 : cd = 0) (hv : w = v) (hs : SEq M M1) : PO es cd (some (.int v)) G M0 M1 n (.inl (some (.int w))) (wld G M) n := po_r h0 (by rw [hv]) hs
theorem po_e {es : List String} {cd : Nat} {E : String} {v : Option Value} {G : AG} {M M0 M1 : Nat → Nat → Int32} {n : Nat} (k : Nat) (h0 : cd = k + 1) (hE : es.getD k "" = E) (hs : SEq M M0) : PO es cd v G M0 M1 n (.inr E) (wld G M) n := ⟨rfl, Or.inr ⟨by omega, by rw [h0, Nat.add_sub_cancel, hE], M, rfl, hs⟩⟩
theorem seq_56 {M M1 : Nat → Nat → Int32} {r : Nat → Int32} (h : SEq M M1) : SEq (updM M 56 r) M1 := fun i hi => by
  unfold updM; rw [if_neg (fun q => hi (Or.inl q))]; exact h i hi
theorem seq_57 {M M1 : Nat → Nat → Int32} {r : Nat → Int32} (h : SEq M M1) : SEq (updM M 57 r) M1 := fun i hi => by
  unfold updM; rw [if_neg (fun q => hi (Or.inr (Or.inl q)))]; exact h i hi
theorem seq_pl {M M1 : Nat → Nat → Int32} {pl bu : Nat → Int32} {g o : Int32} (h : SEq M M1) : SEq (plM M pl bu g o) M1 := fun i hi => by
  unfold plM; rw [if_neg (fun q => hi (Or.inr (Or.inr (Or.inr (Or.inl q))))), if_neg (fun q => hi (Or.inr (Or.inr (Or.inr (Or.inr q))))), if_neg (fun q => hi (Or.inr (Or.inr (Or.inl q))))]; exact h i hi
/-- the counts and the present day of the camp that is in use -/
def CI (M : Nat → Nat → Int32) (nc ns nz nb nr t : Nat) : Prop := M 2 3 = nI nc ∧ nc ≤ 4 ∧ M 6 2 = nI ns ∧ ns ≤ 16 ∧ M 9 5 = nI nz ∧ nz ≤ 12 ∧ M 15 6 = nI nb ∧ nb ≤ 60 ∧ M 22 5 = nI nr ∧ nr ≤ 20 ∧ M 1 5 = nI t ∧ t ≤ 999
/-- a number that passed its check -/
theorem ck_ix {x N : Int32} {k : Nat} (hN : N = nI k) (hk : k < 2 ^ 31) (h : ¬ (x < 0 ∨ N ≤ x)) : ∃ j, j < k ∧ x = nI j := by
  obtain ⟨j, hj, e⟩ := nI_of (fun q => h (Or.inl q))
  exact ⟨j, lt_of_nle hN e hk hj (fun q => h (Or.inr q)), e⟩
theorem ck_rng {x a b : Int32} {i j : Nat} (ha : a = nI i) (hb : b = nI j) (hi : i < 2 ^ 31) (hj : j < 2 ^ 31) (h : ¬ (x < a ∨ b < x)) : ∃ k, i ≤ k ∧ k ≤ j ∧ x = nI k := by
  have h0 : ¬ x < 0 := fun q => h (Or.inl (Int32.lt_of_lt_of_le q (by rw [ha]; exact nI_pos' hi)))
  obtain ⟨k, hk, e⟩ := nI_of h0
  exact ⟨k, le_of_nlt e ha hk hi (fun q => h (Or.inl q)), le_of_nlt hb e hj hk (fun q => h (Or.inr q)), e⟩
section CHrows
variable {T Tc : ATy} {pc : Nat} {lo : List (Option Value)} {st : List Value} {h : Nat → AE} {n ce sl : Nat} {y : MethodName} {index : Nat} {sk as : List Value} {i ci na : Nat} {fs : List Value} {r : vw_C} {bad : Prop} {E : String} {Po : APost}
theorem ap_chkV (hL : Cond.methodLink T.1 index y ∈ GW) (hV : KV T.1 index y) (hK : KO y Tc.2.1 Tc.2.2.1 Tc.2.2.2.1 na) (hM : AMet Tc y [Cond.code y Tc.2.1 Tc.2.2.1 Tc.2.2.2.1] (.ref i :: as) h n (PE bad E h n)) (hd : decode T.2.1 pc = .ok (.invokevirtual index, 3)) (he : h i = .inr (ci, fs)) (hi : i < n) (hcl : vwCl[ci]? = some r) (hr1 : r.1 = y.cls) (hst : sk = as.reverse ++ .ref i :: st) (hna9 : as.length = na) (hw : (st.map fun v => v.category).sum ≤ 8) (hR : RmOk T Tc ce sl)
    (kx : bad → Po (.inr E) h n) (kk : ¬ bad → AW T (AQm T Po) C0 (pc + 3) lo st h n (ce + Tc.2.2.2.2.1.cells) (sl + Tc.2.2.2.2.1.slots)) : AW T (AQm T Po) C0 pc lo sk h n ce sl :=
  aw_xcallV hL hV.2.1 hV.2.2 hK hM hd he hi hcl hr1 hst hna9 hw hR (fun _ _ _ q => q.2.1) (fun E' h' q => by
    obtain ⟨q1, -, ⟨q2, q3⟩ | ⟨-, q3⟩⟩ := q
    · cases q3; subst q1; exact kx q2
    · cases q3) (fun v h' q => by
    obtain ⟨q1, -, ⟨-, q3⟩ | ⟨q2, q3⟩⟩ := q
    · cases q3
    · cases q3; subst q1; exact kk q2)
theorem ap_chkS (hL : Cond.methodLink T.1 index y ∈ GW) (hV : KS T.1 index y) (hK : KO y Tc.2.1 Tc.2.2.1 Tc.2.2.2.1 na) (hM : AMet Tc y [Cond.code y Tc.2.1 Tc.2.2.1 Tc.2.2.2.1] as h n (PE bad E h n)) (hd : decode T.2.1 pc = .ok (.invokestatic index, 3)) (hst : sk = as.reverse ++ st) (hna9 : as.length = na) (hw : (st.map fun v => v.category).sum ≤ 8) (hR : RmOk T Tc ce sl)
    (kx : bad → Po (.inr E) h n) (kk : ¬ bad → AW T (AQm T Po) C0 (pc + 3) lo st h n (ce + Tc.2.2.2.2.1.cells) (sl + Tc.2.2.2.2.1.slots)) : AW T (AQm T Po) C0 pc lo sk h n ce sl :=
  aw_xcallS hL hV.2 hK hM hd hst hna9 hw hR (fun _ _ _ q => q.2.1) (fun E' h' q => by
    obtain ⟨q1, -, ⟨q2, q3⟩ | ⟨-, q3⟩⟩ := q
    · cases q3; subst q1; exact kx q2
    · cases q3) (fun v h' q => by
    obtain ⟨q1, -, ⟨-, q3⟩ | ⟨q2, q3⟩⟩ := q
    · cases q3
    · cases q3; subst q1; exact kk q2)
end CHrows
set_option maxRecDepth 100000 in
set_option maxHeartbeats 4000000 in
theorem c_X9_checkClass {G : AG} {M : Nat → Nat → Int32} {n : Nat} (hn : 72 ≤ n) (x : Int32) : AMet tX9_checkClass yX9_checkClass [Cond.code yX9_checkClass cX9_checkClass 2 none] [.ref 0, .int x] (wld G M) n (PE (x < 0 ∨ M 2 3 ≤ x) "java/lang/IndexOutOfBoundsException" (wld G M) n) := by
  refine am_of (lo := [_, _]) (by decide) rfl (fun q => by cases q) rfl rfl rfl ?_
  refine aw_iload_n dX9_checkClass_0 rfl ?_
  refine aw_if_lt 18 dX9_checkClass_1 (by decide) (fun c1 => ?_) (fun c1 => ?_)
  · have n1 := Int32.not_le.mpr c1
    refine aw_throwSW tx_300 dX9_checkClass_18 dX9_checkClass_21 dX9_checkClass_22 dX9_checkClass_25 dX9_checkClass_28 ⟨by decide, ble' rfl, by decide, by decide⟩ ?_
    exact pe_t (Or.inl c1)
  · have n1 := Int32.not_lt.mp c1
    refine aw_iload_n dX9_checkClass_4 rfl ?_
    refine aw_aload_n dX9_checkClass_5 rfl ?_
    refine aw_get fl_X9_10 dX9_checkClass_6 e_0 (l_0 hn) rfl ?_
    refine aw_get fl_X9_60 dX9_checkClass_9 e_1 (l_1 hn) rfl ?_
    refine aw_get fl_X9_64 dX9_checkClass_12 e_2 (l_2 hn) rfl ?_
    refine aw_icmp_lt 29 dX9_checkClass_15 (by decide) (fun c15 => ?_) (fun c15 => ?_)
    · have n15 := Int32.not_le.mpr c15
      refine aw_vret rfl dX9_checkClass_29 (ble' rfl) (ble' rfl) ?_
      exact pe_f (by rintro (q | q); exact c1 q; exact n15 q)
    · have n15 := Int32.not_lt.mp c15
      refine aw_throwSW tx_300 dX9_checkClass_18 dX9_checkClass_21 dX9_checkClass_22 dX9_checkClass_25 dX9_checkClass_28 ⟨by decide, ble' rfl, by decide, by decide⟩ ?_
      exact pe_t (Or.inr n15)

set_option maxRecDepth 100000 in
set_option maxHeartbeats 4000000 in
theorem c_X9_checkSite {G : AG} {M : Nat → Nat → Int32} {n : Nat} (hn : 72 ≤ n) (x : Int32) : AMet tX9_checkSite yX9_checkSite [Cond.code yX9_checkSite cX9_checkSite 2 none] [.ref 0, .int x] (wld G M) n (PE (x < 0 ∨ M 6 2 ≤ x) "java/lang/IndexOutOfBoundsException" (wld G M) n) := by
  refine am_of (lo := [_, _]) (by decide) rfl (fun q => by cases q) rfl rfl rfl ?_
  refine aw_iload_n dX9_checkSite_0 rfl ?_
  refine aw_if_lt 18 dX9_checkSite_1 (by decide) (fun c1 => ?_) (fun c1 => ?_)
  · have n1 := Int32.not_le.mpr c1
    refine aw_throwSW tx_303 dX9_checkSite_18 dX9_checkSite_21 dX9_checkSite_22 dX9_checkSite_25 dX9_checkSite_28 ⟨by decide, ble' rfl, by decide, by decide⟩ ?_
    exact pe_t (Or.inl c1)
  · have n1 := Int32.not_lt.mp c1
    refine aw_iload_n dX9_checkSite_4 rfl ?_
    refine aw_aload_n dX9_checkSite_5 rfl ?_
    refine aw_get fl_X9_10 dX9_checkSite_6 e_0 (l_0 hn) rfl ?_
    refine aw_get fl_X9_84 dX9_checkSite_9 e_1 (l_1 hn) rfl ?_
    refine aw_get fl_X9_88 dX9_checkSite_12 e_6 (l_6 hn) rfl ?_
    refine aw_icmp_lt 29 dX9_checkSite_15 (by decide) (fun c15 => ?_) (fun c15 => ?_)
    · have n15 := Int32.not_le.mpr c15
      refine aw_vret rfl dX9_checkSite_29 (ble' rfl) (ble' rfl) ?_
      exact pe_f (by rintro (q | q); exact c1 q; exact n15 q)
    · have n15 := Int32.not_lt.mp c15
      refine aw_throwSW tx_303 dX9_checkSite_18 dX9_checkSite_21 dX9_checkSite_22 dX9_checkSite_25 dX9_checkSite_28 ⟨by decide, ble' rfl, by decide, by decide⟩ ?_
      exact pe_t (Or.inr n15)

set_option maxRecDepth 100000 in
set_option maxHeartbeats 4000000 in
theorem c_X9_checkBooking {G : AG} {M : Nat → Nat → Int32} {n : Nat} (hn : 72 ≤ n) (x : Int32) : AMet tX9_checkBooking yX9_checkBooking [Cond.code yX9_checkBooking cX9_checkBooking 2 none] [.ref 0, .int x] (wld G M) n (PE (x < 0 ∨ M 15 6 ≤ x) "java/lang/IndexOutOfBoundsException" (wld G M) n) := by
  refine am_of (lo := [_, _]) (by decide) rfl (fun q => by cases q) rfl rfl rfl ?_
  refine aw_iload_n dX9_checkBooking_0 rfl ?_
  refine aw_if_lt 18 dX9_checkBooking_1 (by decide) (fun c1 => ?_) (fun c1 => ?_)
  · have n1 := Int32.not_le.mpr c1
    refine aw_throwSW tx_305 dX9_checkBooking_18 dX9_checkBooking_21 dX9_checkBooking_22 dX9_checkBooking_25 dX9_checkBooking_28 ⟨by decide, ble' rfl, by decide, by decide⟩ ?_
    exact pe_t (Or.inl c1)
  · have n1 := Int32.not_lt.mp c1
    refine aw_iload_n dX9_checkBooking_4 rfl ?_
    refine aw_aload_n dX9_checkBooking_5 rfl ?_
    refine aw_get fl_X9_10 dX9_checkBooking_6 e_0 (l_0 hn) rfl ?_
    refine aw_get fl_X9_128 dX9_checkBooking_9 e_1 (l_1 hn) rfl ?_
    refine aw_get fl_X9_164 dX9_checkBooking_12 e_15 (l_15 hn) rfl ?_
    refine aw_icmp_lt 29 dX9_checkBooking_15 (by decide) (fun c15 => ?_) (fun c15 => ?_)
    · have n15 := Int32.not_le.mpr c15
      refine aw_vret rfl dX9_checkBooking_29 (ble' rfl) (ble' rfl) ?_
      exact pe_f (by rintro (q | q); exact c1 q; exact n15 q)
    · have n15 := Int32.not_lt.mp c15
      refine aw_throwSW tx_305 dX9_checkBooking_18 dX9_checkBooking_21 dX9_checkBooking_22 dX9_checkBooking_25 dX9_checkBooking_28 ⟨by decide, ble' rfl, by decide, by decide⟩ ?_
      exact pe_t (Or.inr n15)

set_option maxRecDepth 100000 in
set_option maxHeartbeats 4000000 in
theorem c_X9_checkRequest {G : AG} {M : Nat → Nat → Int32} {n : Nat} (hn : 72 ≤ n) (x : Int32) : AMet tX9_checkRequest yX9_checkRequest [Cond.code yX9_checkRequest cX9_checkRequest 2 none] [.ref 0, .int x] (wld G M) n (PE (x < 0 ∨ M 22 5 ≤ x) "java/lang/IndexOutOfBoundsException" (wld G M) n) := by
  refine am_of (lo := [_, _]) (by decide) rfl (fun q => by cases q) rfl rfl rfl ?_
  refine aw_iload_n dX9_checkRequest_0 rfl ?_
  refine aw_if_lt 18 dX9_checkRequest_1 (by decide) (fun c1 => ?_) (fun c1 => ?_)
  · have n1 := Int32.not_le.mpr c1
    refine aw_throwSW tx_307 dX9_checkRequest_18 dX9_checkRequest_21 dX9_checkRequest_22 dX9_checkRequest_25 dX9_checkRequest_28 ⟨by decide, ble' rfl, by decide, by decide⟩ ?_
    exact pe_t (Or.inl c1)
  · have n1 := Int32.not_lt.mp c1
    refine aw_iload_n dX9_checkRequest_4 rfl ?_
    refine aw_aload_n dX9_checkRequest_5 rfl ?_
    refine aw_get fl_X9_10 dX9_checkRequest_6 e_0 (l_0 hn) rfl ?_
    refine aw_get fl_X9_228 dX9_checkRequest_9 e_1 (l_1 hn) rfl ?_
    refine aw_get fl_X9_232 dX9_checkRequest_12 e_22 (l_22 hn) rfl ?_
    refine aw_icmp_lt 29 dX9_checkRequest_15 (by decide) (fun c15 => ?_) (fun c15 => ?_)
    · have n15 := Int32.not_le.mpr c15
      refine aw_vret rfl dX9_checkRequest_29 (ble' rfl) (ble' rfl) ?_
      exact pe_f (by rintro (q | q); exact c1 q; exact n15 q)
    · have n15 := Int32.not_lt.mp c15
      refine aw_throwSW tx_307 dX9_checkRequest_18 dX9_checkRequest_21 dX9_checkRequest_22 dX9_checkRequest_25 dX9_checkRequest_28 ⟨by decide, ble' rfl, by decide, by decide⟩ ?_
      exact pe_t (Or.inr n15)

set_option maxRecDepth 100000 in
set_option maxHeartbeats 4000000 in
theorem c_X9_checkRange {h : Nat → AE} {n : Nat} (x a b : Int32) : AMet tX9_checkRange yX9_checkRange [Cond.code yX9_checkRange cX9_checkRange 3 none] [.int x, .int a, .int b] h n (PE (x < a ∨ b < x) "java/lang/IllegalArgumentException" h n) := by
  refine am_of (lo := [_, _, _]) (by decide) rfl (fun q => by cases q) rfl rfl rfl ?_
  refine aw_iload_n dX9_checkRange_0 rfl ?_
  refine aw_iload_n dX9_checkRange_1 rfl ?_
  refine aw_icmp_lt 10 dX9_checkRange_2 (by decide) (fun c2 => ?_) (fun c2 => ?_)
  · have n2 := Int32.not_le.mpr c2
    refine aw_throwSW tx_314 dX9_checkRange_10 dX9_checkRange_13 dX9_checkRange_14 dX9_checkRange_17 dX9_checkRange_20 ⟨by decide, ble' rfl, by decide, by decide⟩ ?_
    exact pe_t (Or.inl c2)
  · have n2 := Int32.not_lt.mp c2
    refine aw_iload_n dX9_checkRange_5 rfl ?_
    refine aw_iload_n dX9_checkRange_6 rfl ?_
    refine aw_icmp_le 21 dX9_checkRange_7 (by decide) (fun c7 => ?_) (fun c7 => ?_)
    · have n7 := Int32.not_lt.mpr c7
      refine aw_vret rfl dX9_checkRange_21 (ble' rfl) (ble' rfl) ?_
      exact pe_f (by rintro (q | q); exact c2 q; exact n7 q)
    · have n7 := Int32.not_le.mp c7
      refine aw_throwSW tx_314 dX9_checkRange_10 dX9_checkRange_13 dX9_checkRange_14 dX9_checkRange_17 dX9_checkRange_20 ⟨by decide, ble' rfl, by decide, by decide⟩ ?_
      exact pe_t (Or.inr n7)

set_option maxRecDepth 100000 in
set_option maxHeartbeats 4000000 in
theorem c_X9_checkState {h : Nat → AE} {n : Nat} (x : Int32) : AMet tX9_checkState yX9_checkState [Cond.code yX9_checkState cX9_checkState 1 none] [.int x] h n (PE (x = 0) "java/lang/IllegalStateException" h n) := by
  refine am_of (lo := [_]) (by decide) rfl (fun q => by cases q) rfl rfl rfl ?_
  refine aw_iload_n dX9_checkState_0 rfl ?_
  refine aw_if_ne 15 dX9_checkState_1 (by decide) (fun c1 => ?_) (fun c1 => ?_)
  · refine aw_vret rfl dX9_checkState_15 (ble' rfl) (ble' rfl) ?_
    exact pe_f c1
  · refine aw_throwSW tx_316 dX9_checkState_4 dX9_checkState_7 dX9_checkState_8 dX9_checkState_11 dX9_checkState_14 ⟨by decide, ble' rfl, by decide, by decide⟩ ?_
    exact pe_t c1

set_option maxRecDepth 100000 in
set_option maxHeartbeats 4000000 in
theorem c_X9_checkSameClass {G : AG} {M : Nat → Nat → Int32} {n : Nat} (hn : 72 ≤ n) {x : Int32} {k : Nat} (hx : x = nI k) (hk : k < 16) (c : Int32) : AMet tX9_checkSameClass yX9_checkSameClass [Cond.code yX9_checkSameClass cX9_checkSameClass 3 none] [.ref 0, .int x, .int c] (wld G M) n (PE (¬ M 7 k = c) "java/lang/IllegalArgumentException" (wld G M) n) := by
  refine am_of (lo := [_, _, _]) (by decide) rfl (fun q => by cases q) rfl rfl rfl ?_
  refine aw_aload_n dX9_checkSameClass_0 rfl ?_
  refine aw_get fl_X9_10 dX9_checkSameClass_1 e_0 (l_0 hn) rfl ?_
  refine aw_get fl_X9_84 dX9_checkSameClass_4 e_1 (l_1 hn) rfl ?_
  refine aw_get fl_X9_111 dX9_checkSameClass_7 e_6 (l_6 hn) rfl ?_
  refine aw_iload_n dX9_checkSameClass_10 rfl ?_
  refine aw_ialdk dX9_checkSameClass_11 e_7 (l_7 hn) hx hk rfl ?_
  refine aw_iload_n dX9_checkSameClass_12 rfl ?_
  refine aw_icmp_eq 27 dX9_checkSameClass_13 (by decide) (fun c13 => ?_) (fun c13 => ?_)
  · refine aw_vret rfl dX9_checkSameClass_27 (ble' rfl) (ble' rfl) ?_
    exact pe_f (fun q => q c13)
  · refine aw_throwSW tx_311 dX9_checkSameClass_16 dX9_checkSameClass_19 dX9_checkSameClass_20 dX9_checkSameClass_23 dX9_checkSameClass_26 ⟨by decide, ble' rfl, by decide, by decide⟩ ?_
    exact pe_t c13

set_option maxRecDepth 100000 in
set_option maxHeartbeats 4000000 in
theorem c_X9_checkNights {G : AG} {M : Nat → Nat → Int32} {n : Nat} (hn : 72 ≤ n) (x y : Int32) : AMet tX9_checkNights yX9_checkNights [Cond.code yX9_checkNights cX9_checkNights 3 none] [.ref 0, .int x, .int y] (wld G M) n (PE ((x < M 1 5 ∨ 998 < x) ∨ (y < x ∨ 998 < y)) "java/lang/IllegalArgumentException" (wld G M) n) := by
  refine am_of (lo := [_, _, _]) (by decide) rfl (fun q => by cases q) rfl rfl rfl ?_
  refine aw_iload_n dX9_checkNights_0 rfl ?_
  refine aw_aload_n dX9_checkNights_1 rfl ?_
  refine aw_get fl_X9_10 dX9_checkNights_2 e_0 (l_0 hn) rfl ?_
  refine aw_get fl_X9_198 dX9_checkNights_5 e_1 (l_1 hn) rfl ?_
  refine aw_sipush (v := 998) dX9_checkNights_8 (by decide) ?_
  refine ap_chkS kw_X9_56 ks_X9_56 ko_X9_checkRange (c_X9_checkRange _ _ _) dX9_checkNights_11 rfl rfl (ble' rfl) (by decide) (fun q => pe_t (Or.inl q)) (fun b11 => ?_)
  refine aw_iload_n dX9_checkNights_14 rfl ?_
  refine aw_iload_n dX9_checkNights_15 rfl ?_
  refine aw_sipush (v := 998) dX9_checkNights_16 (by decide) ?_
  refine ap_chkS kw_X9_56 ks_X9_56 ko_X9_checkRange (c_X9_checkRange _ _ _) dX9_checkNights_19 rfl rfl (ble' rfl) (by decide) (fun q => pe_t (Or.inr q)) (fun b19 => ?_)
  refine aw_vret rfl dX9_checkNights_22 (ble' rfl) (ble' rfl) ?_
  exact pe_f (by rintro (q | q); exact b11 q; exact b19 q)
