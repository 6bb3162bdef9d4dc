set_option maxRecDepth 100000 in
set_option maxHeartbeats 4000000 in
theorem lp_X0_isSomebodyAt {G : AG} {M : Nat → Nat → Int32} {n : Nat} (hn : 72 ≤ n) {nb : Nat} (hb : M 15 6 = nI nb) (hle : nb ≤ 60) (x : Int32) : ∀ (j : Nat) (k : Nat) (x2 : Int32), nb - k < j → k ≤ nb → x2 = nI k → anyB (sbB (M 20) (M 21) x) k = false →  AW tX0_isSomebodyAt (AQm tX0_isSomebodyAt (PD (.inl (some (.int (bI (anyB (sbB (M 20) (M 21) x) nb = true))))) (wld G M) n)) C0 2 [some (.ref 15), some (.int x), some (.int x2)] [] (wld G M) n 0 0 := by
  intro j
  induction j with
  | zero => intro k x2 h1 hk h2 h3; omega
  | succ j ih =>
    intro k x2 h1 hk h2 h3
    refine aw_iload_n dX0_isSomebodyAt_2 rfl ?_
    refine aw_aload_n dX0_isSomebodyAt_3 rfl ?_
    refine aw_get fl_X0_30 dX0_isSomebodyAt_4 e_15 (l_15 hn) rfl ?_
    refine aw_icmp_ge 38 dX0_isSomebodyAt_7 (by decide) (fun c7 => ?_) (fun c7 => ?_)
    · have n7 := Int32.not_lt.mpr c7
      refine aw_iconst (v := 0) dX0_isSomebodyAt_38 (by decide) ?_
      refine aw_zret rfl dX0_isSomebodyAt_39 rfl (ble' rfl) (ble' rfl) ?_
      have hke : k = nb := Nat.le_antisymm hk (le_of_le hb h2 (by omega) (by omega) c7)
      subst hke
      exact pd_i (bI_f (by rw [h3]; decide)).symm
    · have n7 := Int32.not_le.mp c7
      have hlt : k < nb := lt_of_nle hb h2 (by omega) (by omega) c7
      have h60 : k < 60 := by omega
      refine aw_aload_n dX0_isSomebodyAt_10 rfl ?_
      refine aw_get fl_X0_24 dX0_isSomebodyAt_11 e_15 (l_15 hn) rfl ?_
      refine aw_iload_n dX0_isSomebodyAt_14 rfl ?_
      refine aw_ialdk dX0_isSomebodyAt_15 e_20 (l_20 hn) h2 h60 rfl ?_
      refine aw_iconst (v := 1) dX0_isSomebodyAt_16 (by decide) ?_
      refine aw_icmp_ne 32 dX0_isSomebodyAt_17 (by decide) (fun c17 => ?_) (fun c17 => ?_)
      · refine aw_iinc (lo' := [_, _, some (.int _)]) dX0_isSomebodyAt_32 rfl (by decide) rfl ?_
        refine aw_goto 2 dX0_isSomebodyAt_35 (by decide) ?_
        exact ih (k + 1) _ (by omega) (by omega) (by rw [h2]; exact inc1 k) (any_no h3 (by simp [sbB, c17]))
      · refine aw_aload_n dX0_isSomebodyAt_20 rfl ?_
        refine aw_get fl_X0_27 dX0_isSomebodyAt_21 e_15 (l_15 hn) rfl ?_
        refine aw_iload_n dX0_isSomebodyAt_24 rfl ?_
        refine aw_ialdk dX0_isSomebodyAt_25 e_21 (l_21 hn) h2 h60 rfl ?_
        refine aw_iload_n dX0_isSomebodyAt_26 rfl ?_
        refine aw_icmp_ne 32 dX0_isSomebodyAt_27 (by decide) (fun c27 => ?_) (fun c27 => ?_)
        · refine aw_iinc (lo' := [_, _, some (.int _)]) dX0_isSomebodyAt_32 rfl (by decide) rfl ?_
          refine aw_goto 2 dX0_isSomebodyAt_35 (by decide) ?_
          exact ih (k + 1) _ (by omega) (by omega) (by rw [h2]; exact inc1 k) (any_no h3 (by simp [sbB, c17, c27]))
        · refine aw_iconst (v := 1) dX0_isSomebodyAt_30 (by decide) ?_
          refine aw_zret rfl dX0_isSomebodyAt_31 rfl (ble' rfl) (ble' rfl) ?_
          exact pd_i (bI_t (any_hit (k := k) (by simp [sbB, c17, c27]) hlt)).symm

set_option maxRecDepth 100000 in
set_option maxHeartbeats 4000000 in
theorem c_X0_isSomebodyAt {G : AG} {M : Nat → Nat → Int32} {n : Nat} (hn : 72 ≤ n) {nb : Nat} (hb : M 15 6 = nI nb) (hle : nb ≤ 60) (x : Int32) : AMet tX0_isSomebodyAt yX0_isSomebodyAt [Cond.code yX0_isSomebodyAt cX0_isSomebodyAt 3 (some .boolean)] [.ref 15, .int x] (wld G M) n (PD (.inl (some (.int (bI (anyB (sbB (M 20) (M 21) x) nb = true))))) (wld G M) n) := by
  refine am_of (lo := [_, _, _]) (by decide) rfl (fun q => by cases q) rfl rfl rfl ?_
  refine aw_iconst (v := 0) dX0_isSomebodyAt_0 (by decide) ?_
  refine aw_istore_n (lo' := [_, _, some (.int _)]) dX0_isSomebodyAt_1 (by decide) rfl ?_
  exact lp_X0_isSomebodyAt hn hb hle x (nb + 1) 0 _ (by omega) (by omega) rfl rfl

set_option maxRecDepth 100000 in
set_option maxHeartbeats 4000000 in
theorem c_X0_isDearer {G : AG} {M : Nat → Nat → Int32} {n : Nat} (hn : 72 ≤ n) {b q : Int32} {k o : Nat} (hb : b = nI k) (hk : k < 60) (ho : q = nI o) (hk2 : o < 60) : AMet tX0_isDearer yX0_isDearer [Cond.code yX0_isDearer cX0_isDearer 7 (some .boolean)] [.ref 15, .int b, .int q] (wld G M) n (PD (.inl (some (.int (bI ((M 19 o).toInt64 * (M 18 k - M 17 k).toInt64 < (M 19 k).toInt64 * (M 18 o - M 17 o).toInt64))))) (wld G M) n) := by
  refine am_of (lo := [_, _, _, _, _, _, _]) (by decide) rfl (fun q => by cases q) rfl rfl rfl ?_
  refine aw_aload_n dX0_isDearer_0 rfl ?_
  refine aw_get fl_X0_18 dX0_isDearer_1 e_15 (l_15 hn) rfl ?_
  refine aw_iload_n dX0_isDearer_4 rfl ?_
  refine aw_ialdk dX0_isDearer_5 e_18 (l_18 hn) hb hk rfl ?_
  refine aw_aload_n dX0_isDearer_6 rfl ?_
  refine aw_get fl_X0_15 dX0_isDearer_7 e_15 (l_15 hn) rfl ?_
  refine aw_iload_n dX0_isDearer_10 rfl ?_
  refine aw_ialdk dX0_isDearer_11 e_17 (l_17 hn) hb hk rfl ?_
  refine aw_isub dX0_isDearer_12 ?_
  refine aw_i2l dX0_isDearer_13 ?_
  refine aw_lstore_n (lo' := [_, _, _, some (.long _), _, _, _]) dX0_isDearer_14 (by decide) rfl ?_
  refine aw_aload_n dX0_isDearer_15 rfl ?_
  refine aw_get fl_X0_18 dX0_isDearer_16 e_15 (l_15 hn) rfl ?_
  refine aw_iload_n dX0_isDearer_19 rfl ?_
  refine aw_ialdk dX0_isDearer_20 e_18 (l_18 hn) ho hk2 rfl ?_
  refine aw_aload_n dX0_isDearer_21 rfl ?_
  refine aw_get fl_X0_15 dX0_isDearer_22 e_15 (l_15 hn) rfl ?_
  refine aw_iload_n dX0_isDearer_25 rfl ?_
  refine aw_ialdk dX0_isDearer_26 e_17 (l_17 hn) ho hk2 rfl ?_
  refine aw_isub dX0_isDearer_27 ?_
  refine aw_i2l dX0_isDearer_28 ?_
  refine aw_lstore (lo' := [_, _, _, _, _, some (.long _), _]) dX0_isDearer_29 (by decide) rfl ?_
  refine aw_aload_n dX0_isDearer_31 rfl ?_
  refine aw_get fl_X0_21 dX0_isDearer_32 e_15 (l_15 hn) rfl ?_
  refine aw_iload_n dX0_isDearer_35 rfl ?_
  refine aw_ialdk dX0_isDearer_36 e_19 (l_19 hn) hb hk rfl ?_
  refine aw_i2l dX0_isDearer_37 ?_
  refine aw_lload dX0_isDearer_38 rfl ?_
  refine aw_lmul dX0_isDearer_40 ?_
  refine aw_aload_n dX0_isDearer_41 rfl ?_
  refine aw_get fl_X0_21 dX0_isDearer_42 e_15 (l_15 hn) rfl ?_
  refine aw_iload_n dX0_isDearer_45 rfl ?_
  refine aw_ialdk dX0_isDearer_46 e_19 (l_19 hn) ho hk2 rfl ?_
  refine aw_i2l dX0_isDearer_47 ?_
  refine aw_lload_n dX0_isDearer_48 rfl ?_
  refine aw_lmul dX0_isDearer_49 ?_
  refine aw_lcmp dX0_isDearer_50 ?_
  refine aw_if_le 58 dX0_isDearer_51 (by decide) (fun c51 => ?_) (fun c51 => ?_)
  · have n51 := Int32.not_lt.mpr c51
    refine aw_iconst (v := 0) dX0_isDearer_58 (by decide) ?_
    refine aw_zret rfl dX0_isDearer_59 rfl (ble' rfl) (ble' rfl) ?_
    exact pd_i (by rw [lg_le] at c51; simp [bI, c51, n51])
  · have n51 := Int32.not_le.mp c51
    refine aw_iconst (v := 1) dX0_isDearer_54 (by decide) ?_
    refine aw_goto 59 dX0_isDearer_55 (by decide) ?_
    refine aw_zret rfl dX0_isDearer_59 rfl (ble' rfl) (ble' rfl) ?_
    exact pd_i (by rw [lg_le] at c51; simp [bI, c51, n51])

set_option maxRecDepth 100000 in
set_option maxHeartbeats 4000000 in
theorem lp_X7_countOpen {G : AG} {M : Nat → Nat → Int32} {n : Nat} (hn : 72 ≤ n) {ns : Nat} (hs : M 6 2 = nI ns) (hle : ns ≤ 16) (c d : Int32) : ∀ (j : Nat) (k : Nat) (x3 x4 : Int32), ns - k < j → k ≤ ns → x4 = nI k → x3 = nI (cnt (opB (M 7) (M 8) c d) k) →  AW tX7_countOpen (AQm tX7_countOpen (PD (.inl (some (.int (nI (cnt (opB (M 7) (M 8) c d) ns))))) (wld G M) n)) C0 5 [some (.ref 6), some (.int c), some (.int d), some (.int x3), some (.int x4)] [] (wld G M) n 0 0 := by
  intro j
  induction j with
  | zero => intro k x3 x4 h1 hk h4 h3; omega
  | succ j ih =>
    intro k x3 x4 h1 hk h4 h3
    refine aw_iload dX7_countOpen_5 rfl ?_
    refine aw_aload_n dX7_countOpen_7 rfl ?_
    refine aw_get fl_X7_18 dX7_countOpen_8 e_6 (l_6 hn) rfl ?_
    refine aw_icmp_ge 45 dX7_countOpen_11 (by decide) (fun c11 => ?_) (fun c11 => ?_)
    · have n11 := Int32.not_lt.mpr c11
      refine aw_iload_n dX7_countOpen_45 rfl ?_
      refine aw_iret rfl dX7_countOpen_46 (ble' rfl) (ble' rfl) ?_
      have hke : k = ns := Nat.le_antisymm hk (le_of_le hs h4 (by omega) (by omega) c11)
      exact pd_i (by rw [h3, hke])
    · have n11 := Int32.not_le.mp c11
      have hlt : k < ns := lt_of_nle hs h4 (by omega) (by omega) c11
      have h16 : k < 16 := by omega
      refine aw_aload_n dX7_countOpen_14 rfl ?_
      refine aw_get fl_X7_9 dX7_countOpen_15 e_6 (l_6 hn) rfl ?_
      refine aw_iload dX7_countOpen_18 rfl ?_
      refine aw_ialdk dX7_countOpen_20 e_7 (l_7 hn) h4 h16 rfl ?_
      refine aw_iload_n dX7_countOpen_21 rfl ?_
      refine aw_icmp_ne 39 dX7_countOpen_22 (by decide) (fun c22 => ?_) (fun c22 => ?_)
      · refine aw_iinc (lo' := [_, _, _, _, some (.int _)]) dX7_countOpen_39 rfl (by decide) rfl ?_
        refine aw_goto 5 dX7_countOpen_42 (by decide) ?_
        exact ih (k + 1) _ _ (by omega) (by omega) (by rw [h4]; exact inc1 k) (by rw [h3]; simp [cnt, opB, inc1, nI_1, c22])
      · refine aw_aload_n dX7_countOpen_25 rfl ?_
        refine aw_get fl_X7_15 dX7_countOpen_26 e_6 (l_6 hn) rfl ?_
        refine aw_iload dX7_countOpen_29 rfl ?_
        refine aw_ialdk dX7_countOpen_31 e_8 (l_8 hn) h4 h16 rfl ?_
        refine aw_iload_n dX7_countOpen_32 rfl ?_
        refine aw_icmp_gt 39 dX7_countOpen_33 (by decide) (fun c33 => ?_) (fun c33 => ?_)
        · have n33 := Int32.not_le.mpr c33
          refine aw_iinc (lo' := [_, _, _, _, some (.int _)]) dX7_countOpen_39 rfl (by decide) rfl ?_
          refine aw_goto 5 dX7_countOpen_42 (by decide) ?_
          exact ih (k + 1) _ _ (by omega) (by omega) (by rw [h4]; exact inc1 k) (by rw [h3]; simp [cnt, opB, inc1, nI_1, c22, c33, n33])
        · have n33 := Int32.not_lt.mp c33
          refine aw_iinc (lo' := [_, _, _, some (.int _), _]) dX7_countOpen_36 rfl (by decide) rfl ?_
          refine aw_iinc (lo' := [_, _, _, _, some (.int _)]) dX7_countOpen_39 rfl (by decide) rfl ?_
          refine aw_goto 5 dX7_countOpen_42 (by decide) ?_
          exact ih (k + 1) _ _ (by omega) (by omega) (by rw [h4]; exact inc1 k) (by rw [h3]; simp [cnt, opB, inc1, nI_1, c22, c33, n33])

set_option maxRecDepth 100000 in
set_option maxHeartbeats 4000000 in
theorem c_X7_countOpen {G : AG} {M : Nat → Nat → Int32} {n : Nat} (hn : 72 ≤ n) {ns : Nat} (hs : M 6 2 = nI ns) (hle : ns ≤ 16) (c d : Int32) : AMet tX7_countOpen yX7_countOpen [Cond.code yX7_countOpen cX7_countOpen 5 (some .int)] [.ref 6, .int c, .int d] (wld G M) n (PD (.inl (some (.int (nI (cnt (opB (M 7) (M 8) c d) ns))))) (wld G M) n) := by
  refine am_of (lo := [_, _, _, _, _]) (by decide) rfl (fun q => by cases q) rfl rfl rfl ?_
  refine aw_iconst (v := 0) dX7_countOpen_0 (by decide) ?_
  refine aw_istore_n (lo' := [_, _, _, some (.int _), _]) dX7_countOpen_1 (by decide) rfl ?_
  refine aw_iconst (v := 0) dX7_countOpen_2 (by decide) ?_
  refine aw_istore (lo' := [_, _, _, _, some (.int _)]) dX7_countOpen_3 (by decide) rfl ?_
  exact lp_X7_countOpen hn hs hle c d (ns + 1) 0 _ _ (by omega) (by omega) rfl rfl

set_option maxRecDepth 100000 in
set_option maxHeartbeats 4000000 in
theorem c_X7_isClosed {G : AG} {M : Nat → Nat → Int32} {n : Nat} (hn : 72 ≤ n) {s d : Int32} {k : Nat} (hb : s = nI k) (hk : k < 16) : AMet tX7_isClosed yX7_isClosed [Cond.code yX7_isClosed cX7_isClosed 3 (some .boolean)] [.ref 6, .int s, .int d] (wld G M) n (PD (.inl (some (.int (bI (d < M 8 k))))) (wld G M) n) := by
  refine am_of (lo := [_, _, _]) (by decide) rfl (fun q => by cases q) rfl rfl rfl ?_
  refine aw_aload_n dX7_isClosed_0 rfl ?_
  refine aw_get fl_X7_15 dX7_isClosed_1 e_6 (l_6 hn) rfl ?_
  refine aw_iload_n dX7_isClosed_4 rfl ?_
  refine aw_ialdk dX7_isClosed_5 e_8 (l_8 hn) hb hk rfl ?_
  refine aw_iload_n dX7_isClosed_6 rfl ?_
  refine aw_icmp_le 14 dX7_isClosed_7 (by decide) (fun c7 => ?_) (fun c7 => ?_)
  · have n7 := Int32.not_lt.mpr c7
    refine aw_iconst (v := 0) dX7_isClosed_14 (by decide) ?_
    refine aw_zret rfl dX7_isClosed_15 rfl (ble' rfl) (ble' rfl) ?_
    exact pd_i (by simp [bI, c7, n7])
  · have n7 := Int32.not_le.mp c7
    refine aw_iconst (v := 1) dX7_isClosed_10 (by decide) ?_
    refine aw_goto 15 dX7_isClosed_11 (by decide) ?_
    refine aw_zret rfl dX7_isClosed_15 rfl (ble' rfl) (ble' rfl) ?_
    exact pd_i (by simp [bI, c7, n7])

set_option maxRecDepth 100000 in
set_option maxHeartbeats 4000000 in
theorem lp_X5_latestWith {G : AG} {M : Nat → Nat → Int32} {n : Nat} (hn : 72 ≤ n) {nz : Nat} (hz : M 9 5 = nI nz) (hle : nz ≤ 12) (c d : Int32) : ∀ (j : Nat) (i : Nat) (x3 : Int32), i < j → i ≤ nz → x3 = nI i - 1 → (seasN (M 10) (M 11) (M 12) c d nz) = seasN (M 10) (M 11) (M 12) c d i →  AW tX5_latestWith (AQm tX5_latestWith (PD (.inl (some (.int (seasN (M 10) (M 11) (M 12) c d nz)))) (wld G M) n)) C0 7 [some (.ref 9), some (.int c), some (.int d), some (.int x3)] [] (wld G M) n 0 0 := by
  intro j
  induction j with
  | zero => intro i x3 h1 hk h2 h3; omega
  | succ j ih =>
    intro i x3 h1 hk h2 h3
    refine aw_iload_n dX5_latestWith_7 rfl ?_
    refine aw_if_lt 49 dX5_latestWith_8 (by decide) (fun c8 => ?_) (fun c8 => ?_)
    · have n8 := Int32.not_le.mpr c8
      refine aw_iconst (v := -1) dX5_latestWith_49 (by decide) ?_
      refine aw_iret rfl dX5_latestWith_50 (ble' rfl) (ble' rfl) ?_
      rcases dec_cases h2 (by omega) with ⟨-, rfl⟩ | ⟨q, -⟩
      · exact pd_i (by rw [h3]; rfl)
      exact absurd c8 q
    · have n8 := Int32.not_lt.mp c8
      rcases dec_cases h2 (by omega) with ⟨q, -⟩ | ⟨-, k, rfl, h5⟩
      · exact absurd q c8
      have h12 : k < 12 := by omega
      refine aw_aload_n dX5_latestWith_11 rfl ?_
      refine aw_get fl_X5_9 dX5_latestWith_12 e_9 (l_9 hn) rfl ?_
      refine aw_iload_n dX5_latestWith_15 rfl ?_
      refine aw_ialdk dX5_latestWith_16 e_10 (l_10 hn) h5 h12 rfl ?_
      refine aw_iload_n dX5_latestWith_17 rfl ?_
      refine aw_icmp_ne 43 dX5_latestWith_18 (by decide) (fun c18 => ?_) (fun c18 => ?_)
      · refine aw_iinc (lo' := [_, _, _, some (.int _)]) dX5_latestWith_43 rfl (by decide) rfl ?_
        refine aw_goto 7 dX5_latestWith_46 (by decide) ?_
        exact ih k _ (by omega) (by omega) (by rw [h5]; exact sub1 _) (by rw [h3]; simp [seasN, c18])
      · refine aw_aload_n dX5_latestWith_21 rfl ?_
        refine aw_get fl_X5_15 dX5_latestWith_22 e_9 (l_9 hn) rfl ?_
        refine aw_iload_n dX5_latestWith_25 rfl ?_
        refine aw_ialdk dX5_latestWith_26 e_11 (l_11 hn) h5 h12 rfl ?_
        refine aw_iload_n dX5_latestWith_27 rfl ?_
        refine aw_icmp_gt 43 dX5_latestWith_28 (by decide) (fun c28 => ?_) (fun c28 => ?_)
        · have n28 := Int32.not_le.mpr c28
          refine aw_iinc (lo' := [_, _, _, some (.int _)]) dX5_latestWith_43 rfl (by decide) rfl ?_
          refine aw_goto 7 dX5_latestWith_46 (by decide) ?_
          exact ih k _ (by omega) (by omega) (by rw [h5]; exact sub1 _) (by rw [h3]; simp [seasN, c18, c28, n28])
        · have n28 := Int32.not_lt.mp c28
          refine aw_iload_n dX5_latestWith_31 rfl ?_
          refine aw_aload_n dX5_latestWith_32 rfl ?_
          refine aw_get fl_X5_18 dX5_latestWith_33 e_9 (l_9 hn) rfl ?_
          refine aw_iload_n dX5_latestWith_36 rfl ?_
          refine aw_ialdk dX5_latestWith_37 e_12 (l_12 hn) h5 h12 rfl ?_
          refine aw_icmp_gt 43 dX5_latestWith_38 (by decide) (fun c38 => ?_) (fun c38 => ?_)
          · have n38 := Int32.not_le.mpr c38
            refine aw_iinc (lo' := [_, _, _, some (.int _)]) dX5_latestWith_43 rfl (by decide) rfl ?_
            refine aw_goto 7 dX5_latestWith_46 (by decide) ?_
            exact ih k _ (by omega) (by omega) (by rw [h5]; exact sub1 _) (by rw [h3]; simp [seasN, c18, c28, n28, c38, n38])
          · have n38 := Int32.not_lt.mp c38
            refine aw_iload_n dX5_latestWith_41 rfl ?_
            refine aw_iret rfl dX5_latestWith_42 (ble' rfl) (ble' rfl) ?_
            exact pd_i (by rw [h3, h5]; simp [seasN, c18, c28, n28, c38, n38])

set_option maxRecDepth 100000 in
set_option maxHeartbeats 4000000 in
theorem c_X5_latestWith {G : AG} {M : Nat → Nat → Int32} {n : Nat} (hn : 72 ≤ n) {nz : Nat} (hz : M 9 5 = nI nz) (hle : nz ≤ 12) (c d : Int32) : AMet tX5_latestWith yX5_latestWith [Cond.code yX5_latestWith cX5_latestWith 4 (some .int)] [.ref 9, .int c, .int d] (wld G M) n (PD (.inl (some (.int (seasN (M 10) (M 11) (M 12) c d nz)))) (wld G M) n) := by
  refine am_of (lo := [_, _, _, _]) (by decide) rfl (fun q => by cases q) rfl rfl rfl ?_
  refine aw_aload_n dX5_latestWith_0 rfl ?_
  refine aw_get fl_X5_27 dX5_latestWith_1 e_9 (l_9 hn) rfl ?_
  refine aw_iconst (v := 1) dX5_latestWith_4 (by decide) ?_
  refine aw_isub dX5_latestWith_5 ?_
  refine aw_istore_n (lo' := [_, _, _, some (.int _)]) dX5_latestWith_6 (by decide) rfl ?_
  exact lp_X5_latestWith hn hz hle c d (nz + 1) nz _ (by omega) (by omega) (by rw [hz]) rfl

set_option maxRecDepth 100000 in
set_option maxHeartbeats 4000000 in
theorem c_X5_minimumOn {G : AG} {M : Nat → Nat → Int32} {n : Nat} (hn : 72 ≤ n) {nz : Nat} (hz : M 9 5 = nI nz) (hle : nz ≤ 12) (c d : Int32) : AMet tX5_minimumOn yX5_minimumOn [Cond.code yX5_minimumOn cX5_minimumOn 4 (some .int)] [.ref 9, .int c, .int d] (wld G M) n (PD (.inl (some (.int (sval (seasN (M 10) (M 11) (M 12) c d nz) (M 13) 1)))) (wld G M) n) := by
  refine am_of (lo := [_, _, _, _]) (by decide) rfl (fun q => by cases q) rfl rfl rfl ?_
  refine aw_aload_n dX5_minimumOn_0 rfl ?_
  refine aw_iload_n dX5_minimumOn_1 rfl ?_
  refine aw_iload_n dX5_minimumOn_2 rfl ?_
  refine ap_callVi kv_X5_31 ko_X5_latestWith (c_X5_latestWith hn hz hle c d) dX5_minimumOn_3 e_9 (l_9 hn) rfl rfl rfl rfl (ble' rfl) (by decide) ?_
  refine aw_istore_n (lo' := [_, _, _, some (.int _)]) dX5_minimumOn_6 (by decide) rfl ?_
  refine aw_iload_n dX5_minimumOn_7 rfl ?_
  refine aw_iconst (v := -1) dX5_minimumOn_8 (by decide) ?_
  refine aw_icmp_ne 16 dX5_minimumOn_9 (by decide) (fun c9 => ?_) (fun c9 => ?_)
  · refine aw_aload_n dX5_minimumOn_16 rfl ?_
    refine aw_get fl_X5_21 dX5_minimumOn_17 e_9 (l_9 hn) rfl ?_
    obtain ⟨k, hk, hs⟩ : ∃ k, k < nz ∧ (seasN (M 10) (M 11) (M 12) c d nz) = nI k := (seas_in _ _ _ _ _ _).resolve_left c9
    have h12 : k < 12 := by omega
    refine aw_iload_n dX5_minimumOn_20 rfl ?_
    refine aw_ialdk dX5_minimumOn_21 e_13 (l_13 hn) hs h12 rfl ?_
    refine aw_iret rfl dX5_minimumOn_22 (ble' rfl) (ble' rfl) ?_
    exact pd_i (by simp [sval, c9]; rw [cl_of hs (by omega)])
  · refine aw_iconst (v := 1) dX5_minimumOn_12 (by decide) ?_
    refine aw_goto 22 dX5_minimumOn_13 (by decide) ?_
    refine aw_iret rfl dX5_minimumOn_22 (ble' rfl) (ble' rfl) ?_
    exact pd_i (by simp [sval, c9])

set_option maxRecDepth 100000 in
set_option maxHeartbeats 4000000 in
theorem c_X5_priceOn {G : AG} {M : Nat → Nat → Int32} {n : Nat} (hn : 72 ≤ n) {nz : Nat} (hz : M 9 5 = nI nz) (hle : nz ≤ 12) (c d : Int32) : AMet tX5_priceOn yX5_priceOn [Cond.code yX5_priceOn cX5_priceOn 4 (some .int)] [.ref 9, .int c, .int d] (wld G M) n (PD (.inl (some (.int (sval (seasN (M 10) (M 11) (M 12) c d nz) (M 14) 20)))) (wld G M) n) := by
  refine am_of (lo := [_, _, _, _]) (by decide) rfl (fun q => by cases q) rfl rfl rfl ?_
  refine aw_aload_n dX5_priceOn_0 rfl ?_
  refine aw_iload_n dX5_priceOn_1 rfl ?_
  refine aw_iload_n dX5_priceOn_2 rfl ?_
  refine ap_callVi kv_X5_31 ko_X5_latestWith (c_X5_latestWith hn hz hle c d) dX5_priceOn_3 e_9 (l_9 hn) rfl rfl rfl rfl (ble' rfl) (by decide) ?_
  refine aw_istore_n (lo' := [_, _, _, some (.int _)]) dX5_priceOn_6 (by decide) rfl ?_
  refine aw_iload_n dX5_priceOn_7 rfl ?_
  refine aw_iconst (v := -1) dX5_priceOn_8 (by decide) ?_
  refine aw_icmp_ne 17 dX5_priceOn_9 (by decide) (fun c9 => ?_) (fun c9 => ?_)
  · refine aw_aload_n dX5_priceOn_17 rfl ?_
    refine aw_get fl_X5_24 dX5_priceOn_18 e_9 (l_9 hn) rfl ?_
    obtain ⟨k, hk, hs⟩ : ∃ k, k < nz ∧ (seasN (M 10) (M 11) (M 12) c d nz) = nI k := (seas_in _ _ _ _ _ _).resolve_left c9
    have h12 : k < 12 := by omega
    refine aw_iload_n dX5_priceOn_21 rfl ?_
    refine aw_ialdk dX5_priceOn_22 e_14 (l_14 hn) hs h12 rfl ?_
    refine aw_iret rfl dX5_priceOn_23 (ble' rfl) (ble' rfl) ?_
    exact pd_i (by simp [sval, c9]; rw [cl_of hs (by omega)])
  · refine aw_bipush (v := 20) dX5_priceOn_12 (by decide) ?_
    refine aw_goto 23 dX5_priceOn_14 (by decide) ?_
    refine aw_iret rfl dX5_priceOn_23 (ble' rfl) (ble' rfl) ?_
    exact pd_i (by simp [sval, c9])

set_option maxRecDepth 100000 in
set_option maxHeartbeats 4000000 in
theorem lp_X5_priceOfNights {G : AG} {M : Nat → Nat → Int32} {n : Nat} (hn : 72 ≤ n) {nz : Nat} (hz : M 9 5 = nI nz) (hle : nz ≤ 12) (c : Int32) {a b : Nat} (ha : a ≤ 5000) (hb : b ≤ 5000) {x3 : Int32} (he : x3 = nI b) (x2 : Int32) : ∀ (j : Nat) (i : Nat) (x4 x5 : Int32), b - (a + i) < j → i ≤ b - a → x5 = nI (a + i) → x4 = psum (fun d => sval (seasN (M 10) (M 11) (M 12) c d nz) (M 14) 20) a i →  AW tX5_priceOfNights (AQm tX5_priceOfNights (PD (.inl (some (.int (psum (fun d => sval (seasN (M 10) (M 11) (M 12) c d nz) (M 14) 20) a (b - a))))) (wld G M) n)) C0 6 [some (.ref 9), some (.int c), some (.int x2), some (.int x3), some (.int x4), some (.int x5)] [] (wld G M) n 0 0 := by
  intro j
  induction j with
  | zero => intro i x4 x5 h1 hk h5 h4; omega
  | succ j ih =>
    intro i x4 x5 h1 hk h5 h4
    refine aw_iload dX5_priceOfNights_6 rfl ?_
    refine aw_iload_n dX5_priceOfNights_8 rfl ?_
    refine aw_icmp_ge 30 dX5_priceOfNights_9 (by decide) (fun c9 => ?_) (fun c9 => ?_)
    · have n9 := Int32.not_lt.mpr c9
      refine aw_iload dX5_priceOfNights_30 rfl ?_
      refine aw_iret rfl dX5_priceOfNights_32 (ble' rfl) (ble' rfl) ?_
      have hle2 : b ≤ a + i := le_of_le he h5 (by omega) (by omega) c9
      have hei : i = b - a := by omega
      exact pd_i (by rw [h4, hei])
    · have n9 := Int32.not_le.mp c9
      have hlt : a + i < b := lt_of_nle he h5 (by omega) (by omega) c9
      refine aw_iload dX5_priceOfNights_12 rfl ?_
      refine aw_aload_n dX5_priceOfNights_14 rfl ?_
      refine aw_iload_n dX5_priceOfNights_15 rfl ?_
      refine aw_iload dX5_priceOfNights_16 rfl ?_
      refine ap_callVi kv_X5_35 ko_X5_priceOn (c_X5_priceOn hn hz hle c _) dX5_priceOfNights_18 e_9 (l_9 hn) rfl rfl rfl rfl (ble' rfl) (by decide) ?_
      refine aw_iadd dX5_priceOfNights_21 ?_
      refine aw_istore (lo' := [_, _, _, _, some (.int _), _]) dX5_priceOfNights_22 (by decide) rfl ?_
      refine aw_iinc (lo' := [_, _, _, _, _, some (.int _)]) dX5_priceOfNights_24 rfl (by decide) rfl ?_
      refine aw_goto 6 dX5_priceOfNights_27 (by decide) ?_
      exact ih (i + 1) _ _ (by omega) (by omega) (by rw [h5]; exact inc1 (a + i)) (by rw [h4, h5]; rfl)

set_option maxRecDepth 100000 in
set_option maxHeartbeats 4000000 in
theorem c_X5_priceOfNights {G : AG} {M : Nat → Nat → Int32} {n : Nat} (hn : 72 ≤ n) {nz : Nat} (hz : M 9 5 = nI nz) (hle : nz ≤ 12) (c : Int32) {a b : Nat} (ha : a ≤ 5000) (hb : b ≤ 5000) {x2 x3 : Int32} (hs : x2 = nI a) (he : x3 = nI b) : AMet tX5_priceOfNights yX5_priceOfNights [Cond.code yX5_priceOfNights cX5_priceOfNights 6 (some .int)] [.ref 9, .int c, .int x2, .int x3] (wld G M) n (PD (.inl (some (.int (psum (fun d => sval (seasN (M 10) (M 11) (M 12) c d nz) (M 14) 20) a (b - a))))) (wld G M) n) := by
  refine am_of (lo := [_, _, _, _, _, _]) (by decide) rfl (fun q => by cases q) rfl rfl rfl ?_
  refine aw_iconst (v := 0) dX5_priceOfNights_0 (by decide) ?_
  refine aw_istore (lo' := [_, _, _, _, some (.int _), _]) dX5_priceOfNights_1 (by decide) rfl ?_
  refine aw_iload_n dX5_priceOfNights_3 rfl ?_
  refine aw_istore (lo' := [_, _, _, _, _, some (.int _)]) dX5_priceOfNights_4 (by decide) rfl ?_
  exact lp_X5_priceOfNights hn hz hle c ha hb he x2 (b + 1) 0 _ _ (by omega) (by omega) (by rw [hs]; rfl) rfl

set_option maxRecDepth 100000 in
set_option maxHeartbeats 4000000 in
theorem c_X2_limitAhead {G : AG} {M : Nat → Nat → Int32} {n : Nat} (hn : 72 ≤ n) {nc : Nat} (hc : M 2 3 = nI nc) (hle : nc ≤ 4) {c : Int32} {k : Nat} (hk : c = nI k) (hkc : k < nc) (d : Int32) : AMet tX2_limitAhead yX2_limitAhead [Cond.code yX2_limitAhead cX2_limitAhead 3 (some .int)] [.ref 2, .int c, .int d] (wld G M) n (PD (.inl (some (.int (limF (M 3 k) (M 4 k) (M 5 k) d)))) (wld G M) n) := by
  refine am_of (lo := [_, _, _]) (by decide) rfl (fun q => by cases q) rfl rfl rfl ?_
  refine aw_iload_n dX2_limitAhead_0 rfl ?_
  refine aw_if_lt 22 dX2_limitAhead_1 (by decide) (fun c1 => ?_) (fun c1 => ?_)
  · have n1 := Int32.not_le.mpr c1
    refine aw_iconst (v := 0) dX2_limitAhead_22 (by decide) ?_
    refine aw_iret rfl dX2_limitAhead_23 (ble' rfl) (ble' rfl) ?_
    exact absurd c1 (by rw [hk]; exact nI_pos (by omega))
  · have n1 := Int32.not_lt.mp c1
    refine aw_iload_n dX2_limitAhead_4 rfl ?_
    refine aw_aload_n dX2_limitAhead_5 rfl ?_
    refine aw_get fl_X2_21 dX2_limitAhead_6 e_2 (l_2 hn) rfl ?_
    refine aw_icmp_ge 22 dX2_limitAhead_9 (by decide) (fun c9 => ?_) (fun c9 => ?_)
    · have n9 := Int32.not_lt.mpr c9
      refine aw_iconst (v := 0) dX2_limitAhead_22 (by decide) ?_
      refine aw_iret rfl dX2_limitAhead_23 (ble' rfl) (ble' rfl) ?_
      exact absurd (le_of_le hc hk (by omega) (by omega) c9) (by omega)
    · have n9 := Int32.not_le.mp c9
      have h4 : k < 4 := by omega
      refine aw_iload_n dX2_limitAhead_12 rfl ?_
      refine aw_aload_n dX2_limitAhead_13 rfl ?_
      refine aw_get fl_X2_9 dX2_limitAhead_14 e_2 (l_2 hn) rfl ?_
      refine aw_iload_n dX2_limitAhead_17 rfl ?_
      refine aw_ialdk dX2_limitAhead_18 e_3 (l_3 hn) hk h4 rfl ?_
      refine aw_icmp_le 24 dX2_limitAhead_19 (by decide) (fun c19 => ?_) (fun c19 => ?_)
      · have n19 := Int32.not_lt.mpr c19
        refine aw_iload_n dX2_limitAhead_24 rfl ?_
        refine aw_aload_n dX2_limitAhead_25 rfl ?_
        refine aw_get fl_X2_15 dX2_limitAhead_26 e_2 (l_2 hn) rfl ?_
        refine aw_iload_n dX2_limitAhead_29 rfl ?_
        refine aw_ialdk dX2_limitAhead_30 e_4 (l_4 hn) hk h4 rfl ?_
        refine aw_icmp_gt 39 dX2_limitAhead_31 (by decide) (fun c31 => ?_) (fun c31 => ?_)
        · have n31 := Int32.not_le.mpr c31
          refine aw_aload_n dX2_limitAhead_39 rfl ?_
          refine aw_get fl_X2_18 dX2_limitAhead_40 e_2 (l_2 hn) rfl ?_
          refine aw_iload_n dX2_limitAhead_43 rfl ?_
          refine aw_ialdk dX2_limitAhead_44 e_5 (l_5 hn) hk h4 rfl ?_
          refine aw_iret rfl dX2_limitAhead_45 (ble' rfl) (ble' rfl) ?_
          exact pd_i (by simp [limF, c19, n19, c31, n31])
        · have n31 := Int32.not_lt.mp c31
          refine aw_bipush (v := 16) dX2_limitAhead_34 (by decide) ?_
          refine aw_goto 45 dX2_limitAhead_36 (by decide) ?_
          refine aw_iret rfl dX2_limitAhead_45 (ble' rfl) (ble' rfl) ?_
          exact pd_i (by simp [limF, c19, n19, c31, n31])
      · have n19 := Int32.not_le.mp c19
        refine aw_iconst (v := 0) dX2_limitAhead_22 (by decide) ?_
        refine aw_iret rfl dX2_limitAhead_23 (ble' rfl) (ble' rfl) ?_
        exact pd_i (by simp [limF, c19, n19])

set_option maxRecDepth 100000 in
set_option maxHeartbeats 4000000 in
theorem c_X2_windowOf {G : AG} {M : Nat → Nat → Int32} {n : Nat} (hn : 72 ≤ n) {nc : Nat} (hc : M 2 3 = nI nc) (hle : nc ≤ 4) {c : Int32} {k : Nat} (hk : c = nI k) (hkc : k < nc) : AMet tX2_windowOf yX2_windowOf [Cond.code yX2_windowOf cX2_windowOf 2 (some .int)] [.ref 2, .int c] (wld G M) n (PD (.inl (some (.int (M 3 k)))) (wld G M) n) := by
  refine am_of (lo := [_, _]) (by decide) rfl (fun q => by cases q) rfl rfl rfl ?_
  refine aw_iload_n dX2_windowOf_0 rfl ?_
  refine aw_if_lt 12 dX2_windowOf_1 (by decide) (fun c1 => ?_) (fun c1 => ?_)
  · have n1 := Int32.not_le.mpr c1
    refine aw_iconst (v := 0) dX2_windowOf_12 (by decide) ?_
    refine aw_goto 22 dX2_windowOf_13 (by decide) ?_
    refine aw_iret rfl dX2_windowOf_22 (ble' rfl) (ble' rfl) ?_
    exact absurd c1 (by rw [hk]; exact nI_pos (by omega))
  · have n1 := Int32.not_lt.mp c1
    refine aw_iload_n dX2_windowOf_4 rfl ?_
    refine aw_aload_n dX2_windowOf_5 rfl ?_
    refine aw_get fl_X2_21 dX2_windowOf_6 e_2 (l_2 hn) rfl ?_
    refine aw_icmp_lt 16 dX2_windowOf_9 (by decide) (fun c9 => ?_) (fun c9 => ?_)
    · have n9 := Int32.not_le.mpr c9
      have h4 : k < 4 := by omega
      refine aw_aload_n dX2_windowOf_16 rfl ?_
      refine aw_get fl_X2_9 dX2_windowOf_17 e_2 (l_2 hn) rfl ?_
      refine aw_iload_n dX2_windowOf_20 rfl ?_
      refine aw_ialdk dX2_windowOf_21 e_3 (l_3 hn) hk h4 rfl ?_
      refine aw_iret rfl dX2_windowOf_22 (ble' rfl) (ble' rfl) ?_
      exact pd_i rfl
    · have n9 := Int32.not_lt.mp c9
      refine aw_iconst (v := 0) dX2_windowOf_12 (by decide) ?_
      refine aw_goto 22 dX2_windowOf_13 (by decide) ?_
      refine aw_iret rfl dX2_windowOf_22 (ble' rfl) (ble' rfl) ?_
      exact absurd (by rw [hk, hc]; exact nI_lt hkc (by omega)) c9

set_option maxRecDepth 100000 in
set_option maxHeartbeats 4000000 in
theorem c_X4_isBetter {G : AG} {M : Nat → Nat → Int32} {n : Nat} (hn : 72 ≤ n) {r q : Int32} {k o : Nat} (hr : r = nI k) (hk : k < 20) (ho : q = nI o) (hk2 : o < 20) : AMet tX4_isBetter yX4_isBetter [Cond.code yX4_isBetter cX4_isBetter 3 (some .boolean)] [.ref 22, .int r, .int q] (wld G M) n (PD (.inl (some (.int (bI (if M 25 k = M 25 o then M 24 k < M 24 o else M 25 o < M 25 k))))) (wld G M) n) := by
  refine am_of (lo := [_, _, _]) (by decide) rfl (fun q => by cases q) rfl rfl rfl ?_
  refine aw_aload_n dX4_isBetter_0 rfl ?_
  refine aw_get fl_X4_18 dX4_isBetter_1 e_22 (l_22 hn) rfl ?_
  refine aw_iload_n dX4_isBetter_4 rfl ?_
  refine aw_ialdk dX4_isBetter_5 e_25 (l_25 hn) hr hk rfl ?_
  refine aw_aload_n dX4_isBetter_6 rfl ?_
  refine aw_get fl_X4_18 dX4_isBetter_7 e_22 (l_22 hn) rfl ?_
  refine aw_iload_n dX4_isBetter_10 rfl ?_
  refine aw_ialdk dX4_isBetter_11 e_25 (l_25 hn) ho hk2 rfl ?_
  refine aw_icmp_eq 36 dX4_isBetter_12 (by decide) (fun c12 => ?_) (fun c12 => ?_)
  · refine aw_aload_n dX4_isBetter_36 rfl ?_
    refine aw_get fl_X4_15 dX4_isBetter_37 e_22 (l_22 hn) rfl ?_
    refine aw_iload_n dX4_isBetter_40 rfl ?_
    refine aw_ialdk dX4_isBetter_41 e_24 (l_24 hn) hr hk rfl ?_
    refine aw_aload_n dX4_isBetter_42 rfl ?_
    refine aw_get fl_X4_15 dX4_isBetter_43 e_22 (l_22 hn) rfl ?_
    refine aw_iload_n dX4_isBetter_46 rfl ?_
    refine aw_ialdk dX4_isBetter_47 e_24 (l_24 hn) ho hk2 rfl ?_
    refine aw_icmp_ge 55 dX4_isBetter_48 (by decide) (fun c48 => ?_) (fun c48 => ?_)
    · have n48 := Int32.not_lt.mpr c48
      refine aw_iconst (v := 0) dX4_isBetter_55 (by decide) ?_
      refine aw_zret rfl dX4_isBetter_56 rfl (ble' rfl) (ble' rfl) ?_
      exact pd_i (by simp [bI, c12, c48, n48])
    · have n48 := Int32.not_le.mp c48
      refine aw_iconst (v := 1) dX4_isBetter_51 (by decide) ?_
      refine aw_goto 56 dX4_isBetter_52 (by decide) ?_
      refine aw_zret rfl dX4_isBetter_56 rfl (ble' rfl) (ble' rfl) ?_
      exact pd_i (by simp [bI, c12, c48, n48])
  · refine aw_aload_n dX4_isBetter_15 rfl ?_
    refine aw_get fl_X4_18 dX4_isBetter_16 e_22 (l_22 hn) rfl ?_
    refine aw_iload_n dX4_isBetter_19 rfl ?_
    refine aw_ialdk dX4_isBetter_20 e_25 (l_25 hn) hr hk rfl ?_
    refine aw_aload_n dX4_isBetter_21 rfl ?_
    refine aw_get fl_X4_18 dX4_isBetter_22 e_22 (l_22 hn) rfl ?_
    refine aw_iload_n dX4_isBetter_25 rfl ?_
    refine aw_ialdk dX4_isBetter_26 e_25 (l_25 hn) ho hk2 rfl ?_
    refine aw_icmp_le 34 dX4_isBetter_27 (by decide) (fun c27 => ?_) (fun c27 => ?_)
    · have n27 := Int32.not_lt.mpr c27
      refine aw_iconst (v := 0) dX4_isBetter_34 (by decide) ?_
      refine aw_zret rfl dX4_isBetter_35 rfl (ble' rfl) (ble' rfl) ?_
      exact pd_i (by simp [bI, c12, c27, n27])
    · have n27 := Int32.not_le.mp c27
      refine aw_iconst (v := 1) dX4_isBetter_30 (by decide) ?_
      refine aw_goto 35 dX4_isBetter_31 (by decide) ?_
      refine aw_zret rfl dX4_isBetter_35 rfl (ble' rfl) (ble' rfl) ?_
      exact pd_i (by simp [bI, c12, c27, n27])
