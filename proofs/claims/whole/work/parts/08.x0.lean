set_option maxRecDepth 100000 in
set_option maxHeartbeats 4000000 in
theorem c_X0_isFull {G : AG} {M : Nat → Nat → Int32} {n : Nat} (hn : 72 ≤ n) : AMet tX0_isFull yX0_isFull [Cond.code yX0_isFull cX0_isFull 1 (some .boolean)] [.ref 15] (wld G M) n (PD (.inl (some (.int (bI (60 ≤ M 15 6))))) (wld G M) n) := by
  refine am_of (lo := [_]) (by decide) rfl (fun q => by cases q) rfl rfl rfl ?_
  refine aw_aload_n dX0_isFull_0 rfl ?_
  refine aw_get fl_X0_30 dX0_isFull_1 e_15 (l_15 hn) rfl ?_
  refine aw_bipush (v := 60) dX0_isFull_4 (by decide) ?_
  refine aw_icmp_lt 13 dX0_isFull_6 (by decide) (fun c6 => ?_) (fun c6 => ?_)
  · have n6 := Int32.not_le.mpr c6
    refine aw_iconst (v := 0) dX0_isFull_13 (by decide) ?_
    refine aw_zret rfl dX0_isFull_14 rfl (ble' rfl) (ble' rfl) ?_
    exact pd_i (by simp [bI, actP, c6, n6])
  · have n6 := Int32.not_lt.mp c6
    refine aw_iconst (v := 1) dX0_isFull_9 (by decide) ?_
    refine aw_goto 14 dX0_isFull_10 (by decide) ?_
    refine aw_zret rfl dX0_isFull_14 rfl (ble' rfl) (ble' rfl) ?_
    exact pd_i (by simp [bI, actP, c6, n6])

set_option maxRecDepth 100000 in
set_option maxHeartbeats 4000000 in
theorem c_X0_isActive {G : AG} {M : Nat → Nat → Int32} {n : Nat} (hn : 72 ≤ n) {b : Int32} {k : Nat} (hb : b = nI k) (hk : k < 60) : AMet tX0_isActive yX0_isActive [Cond.code yX0_isActive cX0_isActive 2 (some .boolean)] [.ref 15, .int b] (wld G M) n (PD (.inl (some (.int (bI (actP (M 20 k)))))) (wld G M) n) := by
  refine am_of (lo := [_, _]) (by decide) rfl (fun q => by cases q) rfl rfl rfl ?_
  refine aw_aload_n dX0_isActive_0 rfl ?_
  refine aw_get fl_X0_24 dX0_isActive_1 e_15 (l_15 hn) rfl ?_
  refine aw_iload_n dX0_isActive_4 rfl ?_
  refine aw_ialdk dX0_isActive_5 e_20 (l_20 hn) hb hk rfl ?_
  refine aw_if_eq 19 dX0_isActive_6 (by decide) (fun c6 => ?_) (fun c6 => ?_)
  · refine aw_iconst (v := 1) dX0_isActive_19 (by decide) ?_
    refine aw_goto 24 dX0_isActive_20 (by decide) ?_
    refine aw_zret rfl dX0_isActive_24 rfl (ble' rfl) (ble' rfl) ?_
    exact pd_i (by simp [bI, actP, c6])
  · refine aw_aload_n dX0_isActive_9 rfl ?_
    refine aw_get fl_X0_24 dX0_isActive_10 e_15 (l_15 hn) rfl ?_
    refine aw_iload_n dX0_isActive_13 rfl ?_
    refine aw_ialdk dX0_isActive_14 e_20 (l_20 hn) hb hk rfl ?_
    refine aw_iconst (v := 1) dX0_isActive_15 (by decide) ?_
    refine aw_icmp_ne 23 dX0_isActive_16 (by decide) (fun c16 => ?_) (fun c16 => ?_)
    · refine aw_iconst (v := 0) dX0_isActive_23 (by decide) ?_
      refine aw_zret rfl dX0_isActive_24 rfl (ble' rfl) (ble' rfl) ?_
      exact pd_i (by simp [bI, actP, c6, c16])
    · refine aw_iconst (v := 1) dX0_isActive_19 (by decide) ?_
      refine aw_goto 24 dX0_isActive_20 (by decide) ?_
      refine aw_zret rfl dX0_isActive_24 rfl (ble' rfl) (ble' rfl) ?_
      exact pd_i (by simp [bI, actP, c6, c16])

set_option maxRecDepth 100000 in
set_option maxHeartbeats 4000000 in
theorem c_X0_isToArrive {G : AG} {M : Nat → Nat → Int32} {n : Nat} (hn : 72 ≤ n) {b d : Int32} {k : Nat} (hb : b = nI k) (hk : k < 60) : AMet tX0_isToArrive yX0_isToArrive [Cond.code yX0_isToArrive cX0_isToArrive 3 (some .boolean)] [.ref 15, .int b, .int d] (wld G M) n (PD (.inl (some (.int (bI (M 20 k = 0 ∧ M 17 k = d))))) (wld G M) n) := by
  refine am_of (lo := [_, _, _]) (by decide) rfl (fun q => by cases q) rfl rfl rfl ?_
  refine aw_aload_n dX0_isToArrive_0 rfl ?_
  refine aw_get fl_X0_24 dX0_isToArrive_1 e_15 (l_15 hn) rfl ?_
  refine aw_iload_n dX0_isToArrive_4 rfl ?_
  refine aw_ialdk dX0_isToArrive_5 e_20 (l_20 hn) hb hk rfl ?_
  refine aw_if_ne 23 dX0_isToArrive_6 (by decide) (fun c6 => ?_) (fun c6 => ?_)
  · refine aw_iconst (v := 0) dX0_isToArrive_23 (by decide) ?_
    refine aw_zret rfl dX0_isToArrive_24 rfl (ble' rfl) (ble' rfl) ?_
    exact pd_i (by simp [bI, actP, c6])
  · refine aw_aload_n dX0_isToArrive_9 rfl ?_
    refine aw_get fl_X0_15 dX0_isToArrive_10 e_15 (l_15 hn) rfl ?_
    refine aw_iload_n dX0_isToArrive_13 rfl ?_
    refine aw_ialdk dX0_isToArrive_14 e_17 (l_17 hn) hb hk rfl ?_
    refine aw_iload_n dX0_isToArrive_15 rfl ?_
    refine aw_icmp_ne 23 dX0_isToArrive_16 (by decide) (fun c16 => ?_) (fun c16 => ?_)
    · refine aw_iconst (v := 0) dX0_isToArrive_23 (by decide) ?_
      refine aw_zret rfl dX0_isToArrive_24 rfl (ble' rfl) (ble' rfl) ?_
      exact pd_i (by simp [bI, actP, c6, c16])
    · refine aw_iconst (v := 1) dX0_isToArrive_19 (by decide) ?_
      refine aw_goto 24 dX0_isToArrive_20 (by decide) ?_
      refine aw_zret rfl dX0_isToArrive_24 rfl (ble' rfl) (ble' rfl) ?_
      exact pd_i (by simp [bI, actP, c6, c16])

set_option maxRecDepth 100000 in
set_option maxHeartbeats 4000000 in
theorem c_X0_isToDepart {G : AG} {M : Nat → Nat → Int32} {n : Nat} (hn : 72 ≤ n) {b d : Int32} {k : Nat} (hb : b = nI k) (hk : k < 60) : AMet tX0_isToDepart yX0_isToDepart [Cond.code yX0_isToDepart cX0_isToDepart 3 (some .boolean)] [.ref 15, .int b, .int d] (wld G M) n (PD (.inl (some (.int (bI (actP (M 20 k) ∧ M 18 k = d))))) (wld G M) n) := by
  refine am_of (lo := [_, _, _]) (by decide) rfl (fun q => by cases q) rfl rfl rfl ?_
  refine aw_aload_n dX0_isToDepart_0 rfl ?_
  refine aw_iload_n dX0_isToDepart_1 rfl ?_
  refine ap_callVi kv_X0_34 ko_X0_isActive (c_X0_isActive hn hb hk) dX0_isToDepart_2 e_15 (l_15 hn) rfl rfl rfl rfl (ble' rfl) (by decide) ?_
  refine aw_if_eq 22 dX0_isToDepart_5 (by decide) (fun c5 => ?_) (fun c5 => ?_)
  · have n5 := bI_z.mp c5
    refine aw_iconst (v := 0) dX0_isToDepart_22 (by decide) ?_
    refine aw_zret rfl dX0_isToDepart_23 rfl (ble' rfl) (ble' rfl) ?_
    exact pd_i (by simp [bI, c5, n5])
  · have n5 := bI_nz.mp c5
    refine aw_aload_n dX0_isToDepart_8 rfl ?_
    refine aw_get fl_X0_18 dX0_isToDepart_9 e_15 (l_15 hn) rfl ?_
    refine aw_iload_n dX0_isToDepart_12 rfl ?_
    refine aw_ialdk dX0_isToDepart_13 e_18 (l_18 hn) hb hk rfl ?_
    refine aw_iload_n dX0_isToDepart_14 rfl ?_
    refine aw_icmp_ne 22 dX0_isToDepart_15 (by decide) (fun c15 => ?_) (fun c15 => ?_)
    · refine aw_iconst (v := 0) dX0_isToDepart_22 (by decide) ?_
      refine aw_zret rfl dX0_isToDepart_23 rfl (ble' rfl) (ble' rfl) ?_
      exact pd_i (by simp [bI, c5, n5, c15])
    · refine aw_iconst (v := 1) dX0_isToDepart_18 (by decide) ?_
      refine aw_goto 23 dX0_isToDepart_19 (by decide) ?_
      refine aw_zret rfl dX0_isToDepart_23 rfl (ble' rfl) (ble' rfl) ?_
      exact pd_i (by simp [bI, c5, n5, c15])

set_option maxRecDepth 100000 in
set_option maxHeartbeats 4000000 in
theorem lp_X0_takenOn {G : AG} {M : Nat → Nat → Int32} {n : Nat} (hn : 72 ≤ n) {nb : Nat} (hb : M 15 6 = nI nb) (hle : nb ≤ 60) (sc d : Int32) : ∀ (j k : Nat) (x3 x4 : Int32), nb - k < j → k ≤ nb → x4 = nI k → x3 = nI (cnt (tkB (M 16) (M 17) (M 18) (M 20) sc d) k) → AW tX0_takenOn (AQm tX0_takenOn (PD (.inl (some (.int (nI (cnt (tkB (M 16) (M 17) (M 18) (M 20) sc d) nb))))) (wld G M) n)) C0 5 [some (.ref 15), some (.int sc), some (.int d), some (.int x3), some (.int x4)] [] (wld G M) n 0 0 := by
  intro j
  induction j with
  | zero => intro k x3 x4 h1; omega
  | succ j ih =>
    intro k x3 x4 h1 hk h4 h3
    refine aw_iload dX0_takenOn_5 rfl ?_
    refine aw_aload_n dX0_takenOn_7 rfl ?_
    refine aw_get fl_X0_30 dX0_takenOn_8 e_15 (l_15 hn) rfl ?_
    refine aw_icmp_ge 65 dX0_takenOn_11 (by decide) (fun c11 => ?_) (fun c11 => ?_)
    · have n11 := Int32.not_lt.mpr c11
      refine aw_iload_n dX0_takenOn_65 rfl ?_
      refine aw_iret rfl dX0_takenOn_66 (ble' rfl) (ble' rfl) ?_
      have hke : k = nb := Nat.le_antisymm hk (le_of_le hb h4 (by omega) (by omega) c11)
      exact pd_i (by rw [h3, hke])
    · have n11 := Int32.not_le.mp c11
      have hlt : k < nb := lt_of_nle hb h4 (by omega) (by omega) c11
      have h60 : k < 60 := by omega
      refine aw_aload_n dX0_takenOn_14 rfl ?_
      refine aw_get fl_X0_15 dX0_takenOn_15 e_15 (l_15 hn) rfl ?_
      refine aw_iload dX0_takenOn_18 rfl ?_
      refine aw_ialdk dX0_takenOn_20 e_17 (l_17 hn) h4 h60 rfl ?_
      refine aw_iload_n dX0_takenOn_21 rfl ?_
      refine aw_icmp_gt 59 dX0_takenOn_22 (by decide) (fun c22 => ?_) (fun c22 => ?_)
      · have n22 := Int32.not_le.mpr c22
        refine aw_iinc (lo' := [_, _, _, _, some (.int _)]) dX0_takenOn_59 rfl (by decide) rfl ?_
        refine aw_goto 5 dX0_takenOn_62 (by decide) ?_
        exact ih (k + 1) _ _ (by omega) (by omega) (by rw [h4]; exact inc1 k) (by rw [h3]; simp [cnt, tkB, inc1, nI_1, c22, n22])
      · have n22 := Int32.not_lt.mp c22
        refine aw_iload_n dX0_takenOn_25 rfl ?_
        refine aw_aload_n dX0_takenOn_26 rfl ?_
        refine aw_get fl_X0_18 dX0_takenOn_27 e_15 (l_15 hn) rfl ?_
        refine aw_iload dX0_takenOn_30 rfl ?_
        refine aw_ialdk dX0_takenOn_32 e_18 (l_18 hn) h4 h60 rfl ?_
        refine aw_icmp_ge 59 dX0_takenOn_33 (by decide) (fun c33 => ?_) (fun c33 => ?_)
        · have n33 := Int32.not_lt.mpr c33
          refine aw_iinc (lo' := [_, _, _, _, some (.int _)]) dX0_takenOn_59 rfl (by decide) rfl ?_
          refine aw_goto 5 dX0_takenOn_62 (by decide) ?_
          exact ih (k + 1) _ _ (by omega) (by omega) (by rw [h4]; exact inc1 k) (by rw [h3]; simp [cnt, tkB, inc1, nI_1, c22, n22, c33, n33])
        · have n33 := Int32.not_le.mp c33
          refine aw_aload_n dX0_takenOn_36 rfl ?_
          refine aw_get fl_X0_9 dX0_takenOn_37 e_15 (l_15 hn) rfl ?_
          refine aw_iload dX0_takenOn_40 rfl ?_
          refine aw_ialdk dX0_takenOn_42 e_16 (l_16 hn) h4 h60 rfl ?_
          refine aw_iload_n dX0_takenOn_43 rfl ?_
          refine aw_icmp_ne 59 dX0_takenOn_44 (by decide) (fun c44 => ?_) (fun c44 => ?_)
          · refine aw_iinc (lo' := [_, _, _, _, some (.int _)]) dX0_takenOn_59 rfl (by decide) rfl ?_
            refine aw_goto 5 dX0_takenOn_62 (by decide) ?_
            exact ih (k + 1) _ _ (by omega) (by omega) (by rw [h4]; exact inc1 k) (by rw [h3]; simp [cnt, tkB, inc1, nI_1, c22, n22, c33, n33, c44])
          · refine aw_aload_n dX0_takenOn_47 rfl ?_
            refine aw_iload dX0_takenOn_48 rfl ?_
            refine ap_callVi kv_X0_34 ko_X0_isActive (c_X0_isActive hn h4 h60) dX0_takenOn_50 e_15 (l_15 hn) rfl rfl rfl rfl (ble' rfl) (by decide) ?_
            refine aw_if_eq 59 dX0_takenOn_53 (by decide) (fun c53 => ?_) (fun c53 => ?_)
            · have n53 := bI_z.mp c53
              refine aw_iinc (lo' := [_, _, _, _, some (.int _)]) dX0_takenOn_59 rfl (by decide) rfl ?_
              refine aw_goto 5 dX0_takenOn_62 (by decide) ?_
              exact ih (k + 1) _ _ (by omega) (by omega) (by rw [h4]; exact inc1 k) (by rw [h3]; simp [cnt, tkB, inc1, nI_1, c22, n22, c33, n33, c44, c53, n53])
            · have n53 := bI_nz.mp c53
              refine aw_iinc (lo' := [_, _, _, some (.int _), _]) dX0_takenOn_56 rfl (by decide) rfl ?_
              refine aw_iinc (lo' := [_, _, _, _, some (.int _)]) dX0_takenOn_59 rfl (by decide) rfl ?_
              refine aw_goto 5 dX0_takenOn_62 (by decide) ?_
              exact ih (k + 1) _ _ (by omega) (by omega) (by rw [h4]; exact inc1 k) (by rw [h3]; simp [cnt, tkB, inc1, nI_1, c22, n22, c33, n33, c44, c53, n53])

set_option maxRecDepth 100000 in
set_option maxHeartbeats 4000000 in
theorem c_X0_takenOn {G : AG} {M : Nat → Nat → Int32} {n : Nat} (hn : 72 ≤ n) {nb : Nat} (hb : M 15 6 = nI nb) (hle : nb ≤ 60) (sc d : Int32) : AMet tX0_takenOn yX0_takenOn [Cond.code yX0_takenOn cX0_takenOn 5 (some .int)] [.ref 15, .int sc, .int d] (wld G M) n (PD (.inl (some (.int (nI (cnt (tkB (M 16) (M 17) (M 18) (M 20) sc d) nb))))) (wld G M) n) := by
  refine am_of (lo := [_, _, _, _, _]) (by decide) rfl (fun q => by cases q) rfl rfl rfl ?_
  refine aw_iconst (v := 0) dX0_takenOn_0 (by decide) ?_
  refine aw_istore_n (lo' := [_, _, _, some (.int _), _]) dX0_takenOn_1 (by decide) rfl ?_
  refine aw_iconst (v := 0) dX0_takenOn_2 (by decide) ?_
  refine aw_istore (lo' := [_, _, _, _, some (.int _)]) dX0_takenOn_3 (by decide) rfl ?_
  exact lp_X0_takenOn hn hb hle sc d (nb + 1) 0 _ _ (by omega) (by omega) rfl rfl
