set_option maxRecDepth 100000 in
set_option maxHeartbeats 4000000 in
theorem c_X1_capacityOn {G : AG} {M : Nat → Nat → Int32} {n : Nat} (hn : 72 ≤ n) {ns : Nat} (hs : M 6 2 = nI ns) (hsl : ns ≤ 16) (c d : Int32) : AMet tX1_capacityOn yX1_capacityOn [Cond.code yX1_capacityOn cX1_capacityOn 3 (some .int)] [.ref 1, .int c, .int d] (wld G M) n (PD (.inl (some (.int (capF (M 1 5) (nI (cnt (opB (M 7) (M 8) c d) ns)) d)))) (wld G M) n) := by
  refine am_of (lo := [_, _, _]) (by decide) rfl (fun q => by cases q) rfl rfl rfl ?_
  refine aw_iload_n dX1_capacityOn_0 rfl ?_
  refine aw_aload_n dX1_capacityOn_1 rfl ?_
  refine aw_get fl_X1_46 dX1_capacityOn_2 e_1 (l_1 hn) rfl ?_
  refine aw_icmp_lt 15 dX1_capacityOn_5 (by decide) (fun c5 => ?_) (fun c5 => ?_)
  · have n5 := Int32.not_le.mpr c5
    refine aw_iconst (v := 0) dX1_capacityOn_15 (by decide) ?_
    refine aw_goto 28 dX1_capacityOn_16 (by decide) ?_
    refine aw_iret rfl dX1_capacityOn_28 (ble' rfl) (ble' rfl) ?_
    exact pd_i (by simp [capF, c5, n5])
  · have n5 := Int32.not_lt.mp c5
    refine aw_iload_n dX1_capacityOn_8 rfl ?_
    refine aw_sipush (v := 998) dX1_capacityOn_9 (by decide) ?_
    refine aw_icmp_le 19 dX1_capacityOn_12 (by decide) (fun c12 => ?_) (fun c12 => ?_)
    · have n12 := Int32.not_lt.mpr c12
      refine aw_aload_n dX1_capacityOn_19 rfl ?_
      refine aw_get fl_X1_21 dX1_capacityOn_20 e_1 (l_1 hn) rfl ?_
      refine aw_iload_n dX1_capacityOn_23 rfl ?_
      refine aw_iload_n dX1_capacityOn_24 rfl ?_
      refine ap_callVi kv_X1_73 ko_X7_countOpen (c_X7_countOpen hn hs hsl c d) dX1_capacityOn_25 e_6 (l_6 hn) rfl rfl rfl rfl (ble' rfl) (by decide) ?_
      refine aw_iret rfl dX1_capacityOn_28 (ble' rfl) (ble' rfl) ?_
      exact pd_i (by simp [capF, c5, n5, c12, n12])
    · have n12 := Int32.not_le.mp c12
      refine aw_iconst (v := 0) dX1_capacityOn_15 (by decide) ?_
      refine aw_goto 28 dX1_capacityOn_16 (by decide) ?_
      refine aw_iret rfl dX1_capacityOn_28 (ble' rfl) (ble' rfl) ?_
      exact pd_i (by simp [capF, c5, n5, c12, n12])

set_option maxRecDepth 100000 in
set_option maxHeartbeats 4000000 in
theorem c_X1_releasedOn {G : AG} {M : Nat → Nat → Int32} {n : Nat} (hn : 72 ≤ n) {nc : Nat} (hc : M 2 3 = nI nc) (hcl : nc ≤ 4) {c : Int32} {kc : Nat} (hk : c = nI kc) (hkc : kc < nc) {ns : Nat} (hs : M 6 2 = nI ns) (hsl : ns ≤ 16) (d : Int32) : AMet tX1_releasedOn yX1_releasedOn [Cond.code yX1_releasedOn cX1_releasedOn 3 (some .int)] [.ref 1, .int c, .int d] (wld G M) n (PD (.inl (some (.int (relC (M 1 5) (M 3 kc) (M 4 kc) (M 5 kc) (nI (cnt (opB (M 7) (M 8) c d) ns)) d)))) (wld G M) n) := by
  refine am_of (lo := [_, _, _]) (by decide) rfl (fun q => by cases q) rfl rfl rfl ?_
  refine aw_iload_n dX1_releasedOn_0 rfl ?_
  refine aw_aload_n dX1_releasedOn_1 rfl ?_
  refine aw_get fl_X1_46 dX1_releasedOn_2 e_1 (l_1 hn) rfl ?_
  refine aw_icmp_lt 15 dX1_releasedOn_5 (by decide) (fun c5 => ?_) (fun c5 => ?_)
  · have n5 := Int32.not_le.mpr c5
    refine aw_iconst (v := 0) dX1_releasedOn_15 (by decide) ?_
    refine aw_iret rfl dX1_releasedOn_16 (ble' rfl) (ble' rfl) ?_
    exact pd_i (by simp [relC, c5, n5])
  · have n5 := Int32.not_lt.mp c5
    refine aw_iload_n dX1_releasedOn_8 rfl ?_
    refine aw_sipush (v := 998) dX1_releasedOn_9 (by decide) ?_
    refine aw_icmp_le 17 dX1_releasedOn_12 (by decide) (fun c12 => ?_) (fun c12 => ?_)
    · have n12 := Int32.not_lt.mpr c12
      refine aw_aload_n dX1_releasedOn_17 rfl ?_
      refine aw_get fl_X1_12 dX1_releasedOn_18 e_1 (l_1 hn) rfl ?_
      refine aw_iload_n dX1_releasedOn_21 rfl ?_
      refine aw_iload_n dX1_releasedOn_22 rfl ?_
      refine aw_aload_n dX1_releasedOn_23 rfl ?_
      refine aw_get fl_X1_46 dX1_releasedOn_24 e_1 (l_1 hn) rfl ?_
      refine aw_isub dX1_releasedOn_27 ?_
      refine ap_callVi kv_X1_77 ko_X2_limitAhead (c_X2_limitAhead hn hc hcl hk hkc _) dX1_releasedOn_28 e_2 (l_2 hn) rfl rfl rfl rfl (ble' rfl) (by decide) ?_
      refine aw_aload_n dX1_releasedOn_31 rfl ?_
      refine aw_get fl_X1_21 dX1_releasedOn_32 e_1 (l_1 hn) rfl ?_
      refine aw_iload_n dX1_releasedOn_35 rfl ?_
      refine aw_iload_n dX1_releasedOn_36 rfl ?_
      refine ap_callVi kv_X1_73 ko_X7_countOpen (c_X7_countOpen hn hs hsl c d) dX1_releasedOn_37 e_6 (l_6 hn) rfl rfl rfl rfl (ble' rfl) (by decide) ?_
      refine aw_mmin km_X1_80 dX1_releasedOn_40 ⟨by decide, ble' rfl, by decide, by decide⟩ ?_
      refine aw_iret rfl dX1_releasedOn_43 (ble' rfl) (ble' rfl) ?_
      exact pd_i (by simp [relC, c5, n5, c12, n12])
    · have n12 := Int32.not_le.mp c12
      refine aw_iconst (v := 0) dX1_releasedOn_15 (by decide) ?_
      refine aw_iret rfl dX1_releasedOn_16 (ble' rfl) (ble' rfl) ?_
      exact pd_i (by simp [relC, c5, n5, c12, n12])

set_option maxRecDepth 100000 in
set_option maxHeartbeats 4000000 in
theorem lp_X1_takenInAll {G : AG} {M : Nat → Nat → Int32} {n : Nat} (hn : 72 ≤ n) {nb : Nat} (hb : M 15 6 = nI nb) (hbl : nb ≤ 60) (c : Int32) {a b : Nat} (ha : a ≤ 5000) (hbb : b ≤ 5000) {x3 : Int32} (he : x3 = nI b) (x2 : Int32) : ∀ (j : Nat) (i : Nat) (x4 x5 : Int32), b + 1 - (a + i) < j → i ≤ b + 1 - a → x5 = nI (a + i) → x4 = psum (fun d => (nI (cnt (tkB (M 16) (M 17) (M 18) (M 20) c d) nb))) a i →  AW tX1_takenInAll (AQm tX1_takenInAll (PD (.inl (some (.int (psum (fun d => (nI (cnt (tkB (M 16) (M 17) (M 18) (M 20) c d) nb))) a (b + 1 - a))))) (wld G M) n)) C0 6 [some (.ref 1), some (.int c), some (.int x2), some (.int x3), some (.int x4), some (.int x5)] [] (wld G M) n 0 0 := by
  intro j
  induction j with
  | zero => intro i x4 x5 h1 hk h5 h4; omega
  | succ j ih =>
    intro i x4 x5 h1 hk h5 h4
    refine aw_iload dX1_takenInAll_6 rfl ?_
    refine aw_iload_n dX1_takenInAll_8 rfl ?_
    refine aw_icmp_gt 33 dX1_takenInAll_9 (by decide) (fun c9 => ?_) (fun c9 => ?_)
    · have n9 := Int32.not_le.mpr c9
      refine aw_iload dX1_takenInAll_33 rfl ?_
      refine aw_iret rfl dX1_takenInAll_35 (ble' rfl) (ble' rfl) ?_
      have hle2 : b < a + i := lt_of_lt he h5 (by omega) (by omega) c9
      have hei : i = b + 1 - a := by omega
      exact pd_i (by rw [h4, hei])
    · have n9 := Int32.not_lt.mp c9
      have hlt : a + i ≤ b := le_of_nlt he h5 (by omega) (by omega) c9
      refine aw_iload dX1_takenInAll_12 rfl ?_
      refine aw_aload_n dX1_takenInAll_14 rfl ?_
      refine aw_get fl_X1_35 dX1_takenInAll_15 e_1 (l_1 hn) rfl ?_
      refine aw_iload_n dX1_takenInAll_18 rfl ?_
      refine aw_iload dX1_takenInAll_19 rfl ?_
      refine ap_callVi kv_X1_85 ko_X0_takenOn (c_X0_takenOn hn hb hbl c _) dX1_takenInAll_21 e_15 (l_15 hn) rfl rfl rfl rfl (ble' rfl) (by decide) ?_
      refine aw_iadd dX1_takenInAll_24 ?_
      refine aw_istore (lo' := [_, _, _, _, some (.int _), _]) dX1_takenInAll_25 (by decide) rfl ?_
      refine aw_iinc (lo' := [_, _, _, _, _, some (.int _)]) dX1_takenInAll_27 rfl (by decide) rfl ?_
      refine aw_goto 6 dX1_takenInAll_30 (by decide) ?_
      exact ih (i + 1) _ _ (by omega) (by omega) (by rw [h5]; exact inc1 (a + i)) (by rw [h4, h5]; rfl)

set_option maxRecDepth 100000 in
set_option maxHeartbeats 4000000 in
theorem c_X1_takenInAll {G : AG} {M : Nat → Nat → Int32} {n : Nat} (hn : 72 ≤ n) {nb : Nat} (hb : M 15 6 = nI nb) (hbl : nb ≤ 60) (c : Int32) {a b : Nat} (ha : a ≤ 5000) (hbb : b ≤ 5000) {x2 x3 : Int32} (h2 : x2 = nI a) (he : x3 = nI b) : AMet tX1_takenInAll yX1_takenInAll [Cond.code yX1_takenInAll cX1_takenInAll 6 (some .int)] [.ref 1, .int c, .int x2, .int x3] (wld G M) n (PD (.inl (some (.int (psum (fun d => (nI (cnt (tkB (M 16) (M 17) (M 18) (M 20) c d) nb))) a (b + 1 - a))))) (wld G M) n) := by
  refine am_of (lo := [_, _, _, _, _, _]) (by decide) rfl (fun q => by cases q) rfl rfl rfl ?_
  refine aw_iconst (v := 0) dX1_takenInAll_0 (by decide) ?_
  refine aw_istore (lo' := [_, _, _, _, some (.int _), _]) dX1_takenInAll_1 (by decide) rfl ?_
  refine aw_iload_n dX1_takenInAll_3 rfl ?_
  refine aw_istore (lo' := [_, _, _, _, _, some (.int _)]) dX1_takenInAll_4 (by decide) rfl ?_
  exact lp_X1_takenInAll hn hb hbl c ha hbb he x2 (b + 2) 0 _ _ (by omega) (by omega) (by rw [h2]; rfl) rfl

set_option maxRecDepth 100000 in
set_option maxHeartbeats 4000000 in
theorem lp_X1_capacityInAll {G : AG} {M : Nat → Nat → Int32} {n : Nat} (hn : 72 ≤ n) {ns : Nat} (hs : M 6 2 = nI ns) (hsl : ns ≤ 16) (c : Int32) {a b : Nat} (ha : a ≤ 5000) (hbb : b ≤ 5000) {x3 : Int32} (he : x3 = nI b) (x2 : Int32) : ∀ (j : Nat) (i : Nat) (x4 x5 : Int32), b + 1 - (a + i) < j → i ≤ b + 1 - a → x5 = nI (a + i) → x4 = psum (fun d => (capF (M 1 5) (nI (cnt (opB (M 7) (M 8) c d) ns)) d)) a i →  AW tX1_capacityInAll (AQm tX1_capacityInAll (PD (.inl (some (.int (psum (fun d => (capF (M 1 5) (nI (cnt (opB (M 7) (M 8) c d) ns)) d)) a (b + 1 - a))))) (wld G M) n)) C0 6 [some (.ref 1), some (.int c), some (.int x2), some (.int x3), some (.int x4), some (.int x5)] [] (wld G M) n 0 0 := by
  intro j
  induction j with
  | zero => intro i x4 x5 h1 hk h5 h4; omega
  | succ j ih =>
    intro i x4 x5 h1 hk h5 h4
    refine aw_iload dX1_capacityInAll_6 rfl ?_
    refine aw_iload_n dX1_capacityInAll_8 rfl ?_
    refine aw_icmp_gt 30 dX1_capacityInAll_9 (by decide) (fun c9 => ?_) (fun c9 => ?_)
    · have n9 := Int32.not_le.mpr c9
      refine aw_iload dX1_capacityInAll_30 rfl ?_
      refine aw_iret rfl dX1_capacityInAll_32 (ble' rfl) (ble' rfl) ?_
      have hle2 : b < a + i := lt_of_lt he h5 (by omega) (by omega) c9
      have hei : i = b + 1 - a := by omega
      exact pd_i (by rw [h4, hei])
    · have n9 := Int32.not_lt.mp c9
      have hlt : a + i ≤ b := le_of_nlt he h5 (by omega) (by omega) c9
      refine aw_iload dX1_capacityInAll_12 rfl ?_
      refine aw_aload_n dX1_capacityInAll_14 rfl ?_
      refine aw_iload_n dX1_capacityInAll_15 rfl ?_
      refine aw_iload dX1_capacityInAll_16 rfl ?_
      refine ap_callVi kv_X1_88 ko_X1_capacityOn (c_X1_capacityOn hn hs hsl c _) dX1_capacityInAll_18 e_1 (l_1 hn) rfl rfl rfl rfl (ble' rfl) (by decide) ?_
      refine aw_iadd dX1_capacityInAll_21 ?_
      refine aw_istore (lo' := [_, _, _, _, some (.int _), _]) dX1_capacityInAll_22 (by decide) rfl ?_
      refine aw_iinc (lo' := [_, _, _, _, _, some (.int _)]) dX1_capacityInAll_24 rfl (by decide) rfl ?_
      refine aw_goto 6 dX1_capacityInAll_27 (by decide) ?_
      exact ih (i + 1) _ _ (by omega) (by omega) (by rw [h5]; exact inc1 (a + i)) (by rw [h4, h5]; rfl)

set_option maxRecDepth 100000 in
set_option maxHeartbeats 4000000 in
theorem c_X1_capacityInAll {G : AG} {M : Nat → Nat → Int32} {n : Nat} (hn : 72 ≤ n) {ns : Nat} (hs : M 6 2 = nI ns) (hsl : ns ≤ 16) (c : Int32) {a b : Nat} (ha : a ≤ 5000) (hbb : b ≤ 5000) {x2 x3 : Int32} (h2 : x2 = nI a) (he : x3 = nI b) : AMet tX1_capacityInAll yX1_capacityInAll [Cond.code yX1_capacityInAll cX1_capacityInAll 6 (some .int)] [.ref 1, .int c, .int x2, .int x3] (wld G M) n (PD (.inl (some (.int (psum (fun d => (capF (M 1 5) (nI (cnt (opB (M 7) (M 8) c d) ns)) d)) a (b + 1 - a))))) (wld G M) n) := by
  refine am_of (lo := [_, _, _, _, _, _]) (by decide) rfl (fun q => by cases q) rfl rfl rfl ?_
  refine aw_iconst (v := 0) dX1_capacityInAll_0 (by decide) ?_
  refine aw_istore (lo' := [_, _, _, _, some (.int _), _]) dX1_capacityInAll_1 (by decide) rfl ?_
  refine aw_iload_n dX1_capacityInAll_3 rfl ?_
  refine aw_istore (lo' := [_, _, _, _, _, some (.int _)]) dX1_capacityInAll_4 (by decide) rfl ?_
  exact lp_X1_capacityInAll hn hs hsl c ha hbb he x2 (b + 2) 0 _ _ (by omega) (by omega) (by rw [h2]; rfl) rfl

set_option maxRecDepth 100000 in
set_option maxHeartbeats 4000000 in
theorem lp_X1_canSpare {G : AG} {M : Nat → Nat → Int32} {n : Nat} (hn : 72 ≤ n) {nb : Nat} (hb : M 15 6 = nI nb) (hbl : nb ≤ 60) {ns : Nat} (hs : M 6 2 = nI ns) (hsl : ns ≤ 16) (c : Int32) {a b : Nat} (ha : a ≤ 5000) (hbb : b ≤ 5000) {x2 : Int32} (he : x2 = nI b) : ∀ (j : Nat) (i : Nat) (x3 : Int32), b - (a + i) < j → i ≤ b - a → x3 = nI (a + i) → allN (fun i => decide ((nI (cnt (tkB (M 16) (M 17) (M 18) (M 20) c (nI i)) nb)) < (capF (M 1 5) (nI (cnt (opB (M 7) (M 8) c (nI i)) ns)) (nI i)))) a i = true →  AW tX1_canSpare (AQm tX1_canSpare (PD (.inl (some (.int (bI (allN (fun i => decide ((nI (cnt (tkB (M 16) (M 17) (M 18) (M 20) c (nI i)) nb)) < (capF (M 1 5) (nI (cnt (opB (M 7) (M 8) c (nI i)) ns)) (nI i)))) a (b - a) = true))))) (wld G M) n)) C0 5 [some (.ref 1), some (.int c), some (.int x2), some (.int x3)] [] (wld G M) n 0 0 := by
  intro j
  induction j with
  | zero => intro i x3 h1 hk h3 h4; omega
  | succ j ih =>
    intro i x3 h1 hk h3 h4
    refine aw_iload_n dX1_canSpare_5 rfl ?_
    refine aw_iload_n dX1_canSpare_6 rfl ?_
    refine aw_icmp_ge 36 dX1_canSpare_7 (by decide) (fun c7 => ?_) (fun c7 => ?_)
    · have n7 := Int32.not_lt.mpr c7
      refine aw_iconst (v := 1) dX1_canSpare_36 (by decide) ?_
      refine aw_zret rfl dX1_canSpare_37 rfl (ble' rfl) (ble' rfl) ?_
      have hle2 : b ≤ a + i := le_of_le he h3 (by omega) (by omega) c7
      have hei : i = b - a := by omega
      exact pd_i (bI_t (by rw [← hei]; exact h4)).symm
    · have n7 := Int32.not_le.mp c7
      have hlt : i < b - a := by have := lt_of_nle he h3 (by omega) (by omega) c7; omega
      refine aw_aload_n dX1_canSpare_10 rfl ?_
      refine aw_iload_n dX1_canSpare_11 rfl ?_
      refine aw_iload_n dX1_canSpare_12 rfl ?_
      refine ap_callVi kv_X1_88 ko_X1_capacityOn (c_X1_capacityOn hn hs hsl c _) dX1_canSpare_13 e_1 (l_1 hn) rfl rfl rfl rfl (ble' rfl) (by decide) ?_
      refine aw_aload_n dX1_canSpare_16 rfl ?_
      refine aw_get fl_X1_35 dX1_canSpare_17 e_1 (l_1 hn) rfl ?_
      refine aw_iload_n dX1_canSpare_20 rfl ?_
      refine aw_iload_n dX1_canSpare_21 rfl ?_
      refine ap_callVi kv_X1_85 ko_X0_takenOn (c_X0_takenOn hn hb hbl c _) dX1_canSpare_22 e_15 (l_15 hn) rfl rfl rfl rfl (ble' rfl) (by decide) ?_
      refine aw_icmp_gt 30 dX1_canSpare_25 (by decide) (fun c25 => ?_) (fun c25 => ?_)
      · have n25 := Int32.not_le.mpr c25
        refine aw_iinc (lo' := [_, _, _, some (.int _)]) dX1_canSpare_30 rfl (by decide) rfl ?_
        refine aw_goto 5 dX1_canSpare_33 (by decide) ?_
        exact ih (i + 1) _ (by omega) (by omega) (by rw [h3]; exact inc1 (a + i)) (all_go h4 (by rw [h3] at c25; simp [c25]))
      · have n25 := Int32.not_lt.mp c25
        refine aw_iconst (v := 0) dX1_canSpare_28 (by decide) ?_
        refine aw_zret rfl dX1_canSpare_29 rfl (ble' rfl) (ble' rfl) ?_
        exact pd_i (bI_f (by rw [all_bad (i := i) (by rw [h3] at c25; simp [← h3]; rw [h3]; exact Int32.not_lt.mp c25) hlt]; decide)).symm

set_option maxRecDepth 100000 in
set_option maxHeartbeats 4000000 in
theorem c_X1_canSpare {G : AG} {M : Nat → Nat → Int32} {n : Nat} (hn : 72 ≤ n) {nb : Nat} (hb : M 15 6 = nI nb) (hbl : nb ≤ 60) {ns : Nat} (hs : M 6 2 = nI ns) (hsl : ns ≤ 16) (c : Int32) {a b : Nat} (ht : M 1 5 = nI a) (ha : a ≤ 5000) (hbb : b ≤ 5000) {x2 : Int32} (he : x2 = nI b) : AMet tX1_canSpare yX1_canSpare [Cond.code yX1_canSpare cX1_canSpare 4 (some .boolean)] [.ref 1, .int c, .int x2] (wld G M) n (PD (.inl (some (.int (bI (allN (fun i => decide ((nI (cnt (tkB (M 16) (M 17) (M 18) (M 20) c (nI i)) nb)) < (capF (M 1 5) (nI (cnt (opB (M 7) (M 8) c (nI i)) ns)) (nI i)))) a (b - a) = true))))) (wld G M) n) := by
  refine am_of (lo := [_, _, _, _]) (by decide) rfl (fun q => by cases q) rfl rfl rfl ?_
  refine aw_aload_n dX1_canSpare_0 rfl ?_
  refine aw_get fl_X1_46 dX1_canSpare_1 e_1 (l_1 hn) rfl ?_
  refine aw_istore_n (lo' := [_, _, _, some (.int _)]) dX1_canSpare_4 (by decide) rfl ?_
  exact lp_X1_canSpare hn hb hbl hs hsl c ha hbb he (b + 1) 0 _ (by omega) (by omega) (by rw [ht]; rfl) rfl

set_option maxRecDepth 100000 in
set_option maxHeartbeats 4000000 in
theorem c_X1_isVacant {G : AG} {M : Nat → Nat → Int32} {n : Nat} (hn : 72 ≤ n) {nb : Nat} (hb : M 15 6 = nI nb) (hbl : nb ≤ 60) {x : Int32} {k : Nat} (hx : x = nI k) (hk : k < 16) : AMet tX1_isVacant yX1_isVacant [Cond.code yX1_isVacant cX1_isVacant 2 (some .boolean)] [.ref 1, .int x] (wld G M) n (PD (.inl (some (.int (bI (¬ M 1 5 < M 8 k ∧ anyB (sbB (M 20) (M 21) x) nb = false))))) (wld G M) n) := by
  refine am_of (lo := [_, _]) (by decide) rfl (fun q => by cases q) rfl rfl rfl ?_
  refine aw_aload_n dX1_isVacant_0 rfl ?_
  refine aw_get fl_X1_21 dX1_isVacant_1 e_1 (l_1 hn) rfl ?_
  refine aw_iload_n dX1_isVacant_4 rfl ?_
  refine aw_aload_n dX1_isVacant_5 rfl ?_
  refine aw_get fl_X1_46 dX1_isVacant_6 e_1 (l_1 hn) rfl ?_
  refine ap_callVi kv_X1_91 ko_X7_isClosed (c_X7_isClosed hn hx hk) dX1_isVacant_9 e_6 (l_6 hn) rfl rfl rfl rfl (ble' rfl) (by decide) ?_
  refine aw_if_ne 30 dX1_isVacant_12 (by decide) (fun c12 => ?_) (fun c12 => ?_)
  · have n12 := bI_nz.mp c12
    refine aw_iconst (v := 0) dX1_isVacant_30 (by decide) ?_
    refine aw_zret rfl dX1_isVacant_31 rfl (ble' rfl) (ble' rfl) ?_
    exact pd_i (by simp [bI, c12, n12])
  · have n12 := bI_z.mp c12
    refine aw_aload_n dX1_isVacant_15 rfl ?_
    refine aw_get fl_X1_35 dX1_isVacant_16 e_1 (l_1 hn) rfl ?_
    refine aw_iload_n dX1_isVacant_19 rfl ?_
    refine ap_callVi kv_X1_95 ko_X0_isSomebodyAt (c_X0_isSomebodyAt hn hb hbl _) dX1_isVacant_20 e_15 (l_15 hn) rfl rfl rfl rfl (ble' rfl) (by decide) ?_
    refine aw_if_ne 30 dX1_isVacant_23 (by decide) (fun c23 => ?_) (fun c23 => ?_)
    · have n23 := bI_nz.mp c23
      refine aw_iconst (v := 0) dX1_isVacant_30 (by decide) ?_
      refine aw_zret rfl dX1_isVacant_31 rfl (ble' rfl) (ble' rfl) ?_
      exact pd_i (by simp [bI, c12, n12, c23, n23])
    · have n23 := bI_z.mp c23
      refine aw_iconst (v := 1) dX1_isVacant_26 (by decide) ?_
      refine aw_goto 31 dX1_isVacant_27 (by decide) ?_
      refine aw_zret rfl dX1_isVacant_31 rfl (ble' rfl) (ble' rfl) ?_
      exact pd_i (by simp [bI, c12, n12, c23, n23])

set_option maxRecDepth 100000 in
set_option maxHeartbeats 4000000 in
theorem lp_X1_lowestVacantSite {G : AG} {M : Nat → Nat → Int32} {n : Nat} (hn : 72 ≤ n) {nb : Nat} (hb : M 15 6 = nI nb) (hbl : nb ≤ 60) {ns : Nat} (hs : M 6 2 = nI ns) (hsl : ns ≤ 16) (c : Int32) : ∀ (j : Nat) (k : Nat) (x2 : Int32), ns - k < j → k ≤ ns → x2 = nI k → fstN (fun k => decide (M 7 k = c ∧ (¬ M 1 5 < M 8 k ∧ anyB (sbB (M 20) (M 21) (nI k)) nb = false))) k = -1 →  AW tX1_lowestVacantSite (AQm tX1_lowestVacantSite (PD (.inl (some (.int (fstN (fun k => decide (M 7 k = c ∧ (¬ M 1 5 < M 8 k ∧ anyB (sbB (M 20) (M 21) (nI k)) nb = false))) ns)))) (wld G M) n)) C0 2 [some (.ref 1), some (.int c), some (.int x2)] [] (wld G M) n 0 0 := by
  intro j
  induction j with
  | zero => intro k x2 h1 hk h2 h3; omega
  | succ j ih =>
    intro k x2 h1 hk h2 h3
    refine aw_iload_n dX1_lowestVacantSite_2 rfl ?_
    refine aw_aload_n dX1_lowestVacantSite_3 rfl ?_
    refine aw_get fl_X1_21 dX1_lowestVacantSite_4 e_1 (l_1 hn) rfl ?_
    refine aw_get fl_X1_53 dX1_lowestVacantSite_7 e_6 (l_6 hn) rfl ?_
    refine aw_icmp_ge 42 dX1_lowestVacantSite_10 (by decide) (fun c10 => ?_) (fun c10 => ?_)
    · have n10 := Int32.not_lt.mpr c10
      refine aw_iconst (v := -1) dX1_lowestVacantSite_42 (by decide) ?_
      refine aw_iret rfl dX1_lowestVacantSite_43 (ble' rfl) (ble' rfl) ?_
      have hke : k = ns := Nat.le_antisymm hk (le_of_le hs h2 (by omega) (by omega) c10)
      subst hke
      exact pd_i h3.symm
    · have n10 := Int32.not_le.mp c10
      have hlt : k < ns := lt_of_nle hs h2 (by omega) (by omega) c10
      have h16 : k < 16 := by omega
      refine aw_aload_n dX1_lowestVacantSite_13 rfl ?_
      refine aw_get fl_X1_21 dX1_lowestVacantSite_14 e_1 (l_1 hn) rfl ?_
      refine aw_get fl_X1_99 dX1_lowestVacantSite_17 e_6 (l_6 hn) rfl ?_
      refine aw_iload_n dX1_lowestVacantSite_20 rfl ?_
      refine aw_ialdk dX1_lowestVacantSite_21 e_7 (l_7 hn) h2 h16 rfl ?_
      refine aw_iload_n dX1_lowestVacantSite_22 rfl ?_
      refine aw_icmp_ne 36 dX1_lowestVacantSite_23 (by decide) (fun c23 => ?_) (fun c23 => ?_)
      · refine aw_iinc (lo' := [_, _, some (.int _)]) dX1_lowestVacantSite_36 rfl (by decide) rfl ?_
        refine aw_goto 2 dX1_lowestVacantSite_39 (by decide) ?_
        exact ih (k + 1) _ (by omega) (by omega) (by rw [h2]; exact inc1 k) (fst_no h3 (by simp [c23]))
      · refine aw_aload_n dX1_lowestVacantSite_26 rfl ?_
        refine aw_iload_n dX1_lowestVacantSite_27 rfl ?_
        refine ap_callVi kv_X1_103 ko_X1_isVacant (c_X1_isVacant hn hb hbl h2 h16) dX1_lowestVacantSite_28 e_1 (l_1 hn) rfl rfl rfl rfl (ble' rfl) (by decide) ?_
        refine aw_if_eq 36 dX1_lowestVacantSite_31 (by decide) (fun c31 => ?_) (fun c31 => ?_)
        · have n31 := bI_z.mp c31
          refine aw_iinc (lo' := [_, _, some (.int _)]) dX1_lowestVacantSite_36 rfl (by decide) rfl ?_
          refine aw_goto 2 dX1_lowestVacantSite_39 (by decide) ?_
          exact ih (k + 1) _ (by omega) (by omega) (by rw [h2]; exact inc1 k) (fst_no h3 (by rw [h2] at n31; simp [c23]; simpa using n31))
        · have n31 := bI_nz.mp c31
          refine aw_iload_n dX1_lowestVacantSite_34 rfl ?_
          refine aw_iret rfl dX1_lowestVacantSite_35 (ble' rfl) (ble' rfl) ?_
          exact pd_i (by rw [h2] at n31 ⊢; exact (fst_hit h3 (by simp [c23]; simpa using n31) hlt (by omega)).symm)

set_option maxRecDepth 100000 in
set_option maxHeartbeats 4000000 in
theorem c_X1_lowestVacantSite {G : AG} {M : Nat → Nat → Int32} {n : Nat} (hn : 72 ≤ n) {nb : Nat} (hb : M 15 6 = nI nb) (hbl : nb ≤ 60) {ns : Nat} (hs : M 6 2 = nI ns) (hsl : ns ≤ 16) (c : Int32) : AMet tX1_lowestVacantSite yX1_lowestVacantSite [Cond.code yX1_lowestVacantSite cX1_lowestVacantSite 3 (some .int)] [.ref 1, .int c] (wld G M) n (PD (.inl (some (.int (fstN (fun k => decide (M 7 k = c ∧ (¬ M 1 5 < M 8 k ∧ anyB (sbB (M 20) (M 21) (nI k)) nb = false))) ns)))) (wld G M) n) := by
  refine am_of (lo := [_, _, _]) (by decide) rfl (fun q => by cases q) rfl rfl rfl ?_
  refine aw_iconst (v := 0) dX1_lowestVacantSite_0 (by decide) ?_
  refine aw_istore_n (lo' := [_, _, some (.int _)]) dX1_lowestVacantSite_1 (by decide) rfl ?_
  exact lp_X1_lowestVacantSite hn hb hbl hs hsl c (ns + 1) 0 _ (by omega) (by omega) rfl rfl
