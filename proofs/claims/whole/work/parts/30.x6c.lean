theorem nI_sb {a b : Nat} (h : a ≤ b) : nI b - nI a = nI (b - a) := by
  have e : nI b = nI (b - a) + nI a := by rw [nI_add]; congr 1; omega
  rw [e, Int32.sub_eq_add_neg, Int32.add_assoc, Int32.add_right_neg, Int32.add_zero]
theorem nI_any (v : Int32) : ∃ k, v = nI k := ⟨v.toBitVec.toNat, Int32.toBitVec_inj.mp (by show v.toBitVec = BitVec.ofNat 32 v.toBitVec.toNat; simp)⟩
def wEq (x : Nat → Int32) (s k : Nat) : Nat → Bool
  | 0 => true
  | j + 1 => wEq x s k j && decide (x (s + j) = wB k j)
theorem wEq_f {x : Nat → Int32} {s k j : Nat} (h : ¬ x (s + j) = wB k j) : ∀ m, j < m → wEq x s k m = false
  | 0, q => absurd q (Nat.not_lt_zero j)
  | m + 1, q => by
    unfold wEq
    rcases Nat.lt_or_ge j m with r | r
    · rw [wEq_f h m r]; rfl
    · have : j = m := by omega
      subst this; simp [h]
/-- the word k stands there -/
def isW (x : Nat → Int32) (t : RT) (k : Nat) : Bool := decide (t.1 = 1 ∧ t.2.2.1 - t.2.1 = wLen k) && wEq x t.2.1 k (wLen k)
set_option maxRecDepth 100000 in
set_option maxHeartbeats 4000000 in
theorem lp_X6_isWord {G : AG} {M : Nat → Nat → Int32} {n : Nat} (hn : 72 ≤ n) {L : Nat} (hL : L ≤ 500) {t : RT} (hS : t.2.1 ≤ t.2.2.1) (hE : t.2.2.1 ≤ L) {k : Nat} (hk : k < 4) (h1 : t.1 = 1) (hd : t.2.2.1 - t.2.1 = wLen k) : ∀ (j i : Nat) (x2 : Int32), wLen k - i < j → i ≤ wLen k → x2 = nI i → wEq (M 61) t.2.1 k i = true →  AW tX6_isWord (AQm tX6_isWord (PD (.inl (some (.int (bI (isW (M 61) t k = true))))) (wld G (rd M L t)) n)) C0 28 [some (.ref 62), some (.ref (900000 + k)), some (.int x2)] [] (wld G (rd M L t)) n 0 0 := by
  intro j
  induction j with
  | zero => intro i x2 h0; omega
  | succ j ih =>
    intro i x2 h0 hi9 h2 hw
    refine aw_iload_n dX6_isWord_28 rfl ?_
    refine aw_aload_n dX6_isWord_29 rfl ?_
    refine aw_callW kv_X6_132 rfl ko_J0_length_8abf5 (c_J0_length_8abf5 hk) dX6_isWord_30 hk rfl rfl (ble' rfl) (by decide) ?_
    refine aw_icmp_ge 63 dX6_isWord_33 (by decide) (fun c33 => ?_) (fun c33 => ?_)
    · have n33 := Int32.not_lt.mpr c33
      refine aw_iconst (v := 1) dX6_isWord_63 (by decide) ?_
      refine aw_zret rfl dX6_isWord_64 rfl (ble' rfl) (ble' rfl) ?_
      have hie : i = wLen k := Nat.le_antisymm hi9 (le_of_le rfl h2 (by have := wL9 hk; omega) (by have := wL9 hk; omega) c33)
      exact pd_i (bI_t (by unfold isW; rw [← hie, hw]; simp [h1, hd, hie])).symm
    · have n33 := Int32.not_le.mp c33
      have hlt : i < wLen k := lt_of_nle rfl h2 (by have := wL9 hk; omega) (by have := wL9 hk; omega) c33
      refine aw_aload_n dX6_isWord_36 rfl ?_
      refine aw_get fl_X6_33 dX6_isWord_37 er_62 (l_62 hn) rfl ?_
      refine aw_aload_n dX6_isWord_40 rfl ?_
      refine aw_get fl_X6_18 dX6_isWord_41 er_62 (l_62 hn) rfl ?_
      refine aw_iload_n dX6_isWord_44 rfl ?_
      refine aw_iadd dX6_isWord_45 ?_
      refine aw_baldk dX6_isWord_46 er_61 (l_61 hn) (by rw [h2, nI_add]) (show t.2.1 + i < 500 by omega) rfl ?_
      refine aw_aload_n dX6_isWord_47 rfl ?_
      refine aw_iload_n dX6_isWord_48 rfl ?_
      refine aw_callW kv_X6_137 rfl ko_J0_charAt_5068e (c_J0_charAt_5068e hk h2 hlt) dX6_isWord_49 hk rfl rfl (ble' rfl) (by decide) ?_
      refine aw_icmp_eq 57 dX6_isWord_52 (by decide) (fun c52 => ?_) (fun c52 => ?_)
      · refine aw_iinc (lo' := [_, _, some (.int _)]) dX6_isWord_57 rfl (by decide) rfl ?_
        refine aw_goto 28 dX6_isWord_60 (by decide) ?_
        exact ih (i + 1) _ (by omega) (by omega) (by rw [h2]; exact inc1 i) (by unfold wEq; rw [hw]; simp [c52])
      · refine aw_iconst (v := 0) dX6_isWord_55 (by decide) ?_
        refine aw_zret rfl dX6_isWord_56 rfl (ble' rfl) (ble' rfl) ?_
        exact pd_i (bI_f (by unfold isW; rw [wEq_f c52 _ hlt]; simp)).symm

set_option maxRecDepth 100000 in
set_option maxHeartbeats 4000000 in
theorem c_X6_isWord {G : AG} {M : Nat → Nat → Int32} {n : Nat} (hn : 72 ≤ n) {L : Nat} (hL : L ≤ 500) {t : RT} (hS : t.2.1 ≤ t.2.2.1) (hE : t.2.2.1 ≤ L) {k : Nat} (hk : k < 4) : AMet tX6_isWord yX6_isWord [Cond.code yX6_isWord cX6_isWord 3 (some .boolean)] [.ref 62, .ref (900000 + k)] (wld G (rd M L t)) n (PD (.inl (some (.int (bI (isW (M 61) t k = true))))) (wld G (rd M L t)) n) := by
  refine am_of (lo := [_, _, _]) (by decide) rfl (fun q => by cases q) rfl rfl rfl ?_
  refine aw_aload_n dX6_isWord_0 rfl ?_
  refine aw_get fl_X6_15 dX6_isWord_1 er_62 (l_62 hn) rfl ?_
  refine aw_iconst (v := 1) dX6_isWord_4 (by decide) ?_
  refine aw_icmp_ne 24 dX6_isWord_5 (by decide) (fun c5 => ?_) (fun c5 => ?_)
  · refine aw_iconst (v := 0) dX6_isWord_24 (by decide) ?_
    refine aw_zret rfl dX6_isWord_25 rfl (ble' rfl) (ble' rfl) ?_
    exact pd_i (bI_f (by unfold isW; simp [c5])).symm
  · refine aw_aload_n dX6_isWord_8 rfl ?_
    refine aw_get fl_X6_21 dX6_isWord_9 er_62 (l_62 hn) rfl ?_
    refine aw_aload_n dX6_isWord_12 rfl ?_
    refine aw_get fl_X6_18 dX6_isWord_13 er_62 (l_62 hn) rfl ?_
    refine aw_isub dX6_isWord_16 ?_
    refine aw_aload_n dX6_isWord_17 rfl ?_
    refine aw_callW kv_X6_132 rfl ko_J0_length_8abf5 (c_J0_length_8abf5 hk) dX6_isWord_18 hk rfl rfl (ble' rfl) (by decide) ?_
    refine aw_icmp_eq 26 dX6_isWord_21 (by decide) (fun c21 => ?_) (fun c21 => ?_)
    · refine aw_iconst (v := 0) dX6_isWord_26 (by decide) ?_
      refine aw_istore_n (lo' := [_, _, some (.int _)]) dX6_isWord_27 (by decide) rfl ?_
      have hd : t.2.2.1 - t.2.1 = wLen k := (nI_eq (by omega) (by have := wL9 hk; omega)).mp ((nI_sb hS).symm.trans c21)
      exact lp_X6_isWord hn hL hS hE hk c5 hd (wLen k + 1) 0 _ (by omega) (by omega) rfl rfl
    · refine aw_iconst (v := 0) dX6_isWord_24 (by decide) ?_
      refine aw_zret rfl dX6_isWord_25 rfl (ble' rfl) (ble' rfl) ?_
      exact pd_i (bI_f (by unfold isW; have : ¬ t.2.2.1 - t.2.1 = wLen k := fun q => c21 (by rw [← q]; exact nI_sb hS); simp [this])).symm

set_option maxRecDepth 100000 in
set_option maxHeartbeats 4000000 in
theorem c_X7_add_df {G : AG} {M : Nat → Nat → Int32} {n : Nat} (hn : 72 ≤ n) {l k s e v c p : Int32} (hk : M 33 2 = nI 16) (x : Int32) : AMet tX7_add yX7_add [Cond.code yX7_add cX7_add 2 (some .int)] [.ref 33, .int x] (wld G (rsM M l k s e v c p)) n (PD (.inl (some (.int (-1)))) (wld G (rsM M l k s e v c p)) n) := by
  refine am_of (lo := [_, _]) (by decide) rfl (fun q => by cases q) rfl rfl rfl ?_
  refine aw_aload_n dX7_add_0 rfl ?_
  refine aw_get fl_X7_18 dX7_add_1 er_33 (l_33 hn) rfl ?_
  refine aw_bipush (v := 16) dX7_add_4 (by decide) ?_
  refine aw_icmp_lt 11 dX7_add_6 (by decide) (fun q => absurd q (by rw [hk]; decide)) (fun _ => ?_)
  refine aw_iconst (v := -1) dX7_add_9 (by decide) ?_
  refine aw_iret rfl dX7_add_10 (ble' rfl) (ble' rfl) ?_
  exact pd_i rfl

set_option maxRecDepth 100000 in
set_option maxHeartbeats 4000000 in
theorem sites_end {G : AG} {n : Nat} (hn : 72 ≤ n) {L : Nat} (hL : L ≤ 500) {M : Nat → Nat → Int32} {t : RT} {i : Nat} {x1 : Int32} (hi : i < 100) (h1 : x1 = nI i) (hk : ¬ t.1 = 2) : AW tX6_readSites (AQm tX6_readSites (PD (.inl (some (.int (bI (true = true))))) (wld G (rd M L t)) n)) C0 6 [some (.ref 62), some (.int (x1 + Int32.ofInt 1)), none, none] [] (wld G (rd M L t)) n 0 0 := by
  refine aw_iload_n dX6_readSites_6 rfl ?_
  refine aw_bipush (v := 16) dX6_readSites_7 (by decide) ?_
  have fin : AW tX6_readSites (AQm tX6_readSites (PD (.inl (some (.int (bI (true = true))))) (wld G (rd M L t)) n)) C0 82 [some (.ref 62), some (.int (x1 + Int32.ofInt 1)), none, none] [] (wld G (rd M L t)) n 0 0 := by
    refine aw_iconst (v := 1) dX6_readSites_82 (by decide) ?_
    refine aw_zret rfl dX6_readSites_83 rfl (ble' rfl) (ble' rfl) ?_
    exact pd_ih rfl rfl
  refine aw_icmp_gt 82 dX6_readSites_9 (by decide) (fun _ => fin) (fun _ => ?_)
  refine aw_iload_n dX6_readSites_12 rfl ?_
  refine aw_if_eq 24 dX6_readSites_13 (by decide) (fun q => absurd q (by rw [h1, inc1]; exact nI_ne0 (by omega) (by omega))) (fun _ => ?_)
  refine aw_aload_n dX6_readSites_16 rfl ?_
  refine aw_get fl_X6_15 dX6_readSites_17 er_62 (l_62 hn) rfl ?_
  refine aw_iconst (v := 2) dX6_readSites_20 (by decide) ?_
  exact aw_icmp_ne 82 dX6_readSites_21 (by decide) (fun _ => fin) (fun q => absurd q hk)
set_option maxRecDepth 100000 in
set_option maxHeartbeats 4000000 in
theorem lp_X6_readSites {G : AG} {n : Nat} (hn : 72 ≤ n) {L : Nat} (hL : L ≤ 500) : ∀ (f i : Nat) (x1 : Int32) (M : Nat → Nat → Int32) (t : RT) (ks : Nat), i + f = 17 → x1 = nI i → (i = 0 ∨ t.1 = 2) → t.2.2.1 ≤ L → M 33 2 = nI ks → ks ≤ 16 → AW tX6_readSites (AQm tX6_readSites (PD (.inl (some (.int (bI ((siT L f M t).1 = true))))) (wld G (rd (siT L f M t).2.1 L (siT L f M t).2.2)) n)) C0 6 [some (.ref 62), some (.int x1), none, none] [] (wld G (rd M L t)) n 0 0 := by
  intro f
  induction f with
  | zero =>
    intro i x1 M t ks hif h1 hk2 hE hs hs4
    refine aw_iload_n dX6_readSites_6 rfl ?_
    refine aw_bipush (v := 16) dX6_readSites_7 (by decide) ?_
    refine aw_icmp_gt 82 dX6_readSites_9 (by decide) (fun _ => ?_) (fun q => absurd (show (16 : Int32) < x1 by rw [h1, show i = 17 by omega]; decide) q)
    refine aw_iconst (v := 1) dX6_readSites_82 (by decide) ?_
    refine aw_zret rfl dX6_readSites_83 rfl (ble' rfl) (ble' rfl) ?_
    exact pd_ih rfl rfl
  | succ f ih =>
    intro i x1 M t ks hif h1 hk2 hE hs hs4
    refine aw_iload_n dX6_readSites_6 rfl ?_
    refine aw_bipush (v := 16) dX6_readSites_7 (by decide) ?_
    refine aw_icmp_gt 82 dX6_readSites_9 (by decide) (fun q => absurd (lt_of_lt (show (16 : Int32) = nI 16 from rfl) h1 (by decide) (by omega) q) (by omega)) (fun _ => ?_)
    have body : AW tX6_readSites (AQm tX6_readSites (PD (.inl (some (.int (bI ((siT L (f + 1) M t).1 = true))))) (wld G (rd (siT L (f + 1) M t).2.1 L (siT L (f + 1) M t).2.2)) n)) C0 24 [some (.ref 62), some (.int x1), none, none] [] (wld G (rd M L t)) n 0 0 := by
      refine aw_aload_n dX6_readSites_24 rfl ?_
      refine aw_get fl_X6_18 dX6_readSites_25 er_62 (l_62 hn) rfl ?_
      refine aw_istore_n (lo' := [_, _, some (.int _), _]) dX6_readSites_28 (by decide) rfl ?_
      refine aw_aload_n dX6_readSites_29 rfl ?_
      refine aw_iconst (v := 0) dX6_readSites_30 (by decide) ?_
      refine aw_aload_n dX6_readSites_31 rfl ?_
      refine aw_get fl_X6_37 dX6_readSites_32 er_62 (l_62 hn) rfl ?_
      refine aw_get fl_X6_90 dX6_readSites_35 er_28 (l_28 hn) rfl ?_
      refine aw_get fl_X6_94 dX6_readSites_38 er_29 (l_29 hn) rfl ?_
      refine aw_iconst (v := 1) dX6_readSites_41 (by decide) ?_
      refine aw_isub dX6_readSites_42 ?_
      refine ap_callVi kv_X6_99 ko_X6_readNumber (c_X6_readNumber (M := M) hn hL hE _ _) dX6_readSites_43 er_62 (l_62 hn) rfl rfl rfl rfl (ble' rfl) (by decide) ?_
      refine aw_istore_n (lo' := [_, _, _, some (.int _)]) dX6_readSites_46 (by decide) rfl ?_
      refine aw_iload_n dX6_readSites_47 rfl ?_
      refine aw_iconst (v := -1) dX6_readSites_48 (by decide) ?_
      refine aw_icmp_ne 54 dX6_readSites_49 (by decide) (fun c49 => ?_) (fun c49 => ?_)
      · refine aw_aload_n dX6_readSites_54 rfl ?_
        refine aw_get fl_X6_37 dX6_readSites_55 er_62 (l_62 hn) rfl ?_
        refine aw_get fl_X6_106 dX6_readSites_58 er_28 (l_28 hn) rfl ?_
        refine aw_iload_n dX6_readSites_61 rfl ?_
        rcases Nat.lt_or_ge ks 16 with hlt | hge
        · refine ap_callVi kv_X6_110 ko_X7_add (c_X7_add_d (M := rd M L (numT (M 61) L 0 (M 29 3 - 1) t).2) hn hs hlt _) dX6_readSites_62 er_33 (l_33 hn) rfl rfl rfl rfl (ble' rfl) (by decide) ?_
          rw [rd_S]
          refine aw_iconst (v := -1) dX6_readSites_65 (by decide) ?_
          refine aw_icmp_ne 76 dX6_readSites_66 (by decide) (fun _ => ?_) (fun q => absurd q (nI_neg1 (by omega)))
          refine aw_iinc (lo' := [_, some (.int _), _, _]) dX6_readSites_76 rfl (by decide) rfl ?_
          refine aw_goto 6 dX6_readSites_79 (by decide) ?_
          refine aw_lo2 (lo' := [some (.ref 62), some (.int _), none, none]) ⟨rfl, rfl, trivial⟩ ?_
          by_cases hk : (numT (M 61) L 0 (M 29 3 - 1) t).2.1 = 2
          · have e : siT L (f + 1) M t = siT L f (addS_d M ks (numT (M 61) L 0 (M 29 3 - 1) t).1) (numT (M 61) L 0 (M 29 3 - 1) t).2 := by rw [siT, if_neg c49, if_neg (by rw [hs]; exact fun q => absurd (le_of_le (show (16 : Int32) = nI 16 from rfl) rfl (by decide) (by omega) q) (by omega)), if_pos hk, cl_of hs (by omega)]
            rw [e]
            exact ih (i + 1) _ (addS_d M ks (numT (M 61) L 0 (M 29 3 - 1) t).1) (numT (M 61) L 0 (M 29 3 - 1) t).2 (ks + 1) (by omega) (by rw [h1]; exact inc1 i) (Or.inr hk) (num_E hE) (by show M 33 2 + 1 = _; rw [hs]; exact nI_1 ks) (by omega)
          · have e : siT L (f + 1) M t = (true, (addS_d M ks (numT (M 61) L 0 (M 29 3 - 1) t).1), (numT (M 61) L 0 (M 29 3 - 1) t).2) := by rw [siT, if_neg c49, if_neg (by rw [hs]; exact fun q => absurd (le_of_le (show (16 : Int32) = nI 16 from rfl) rfl (by decide) (by omega) q) (by omega)), if_neg hk, cl_of hs (by omega)]
            rw [e]
            exact sites_end hn hL (by omega) h1 hk
        · have h16 : ks = 16 := by omega
          rw [h16] at hs
          refine ap_callVi kv_X6_110 ko_X7_add (c_X7_add_df (M := M) (l := nI L) hn hs _) dX6_readSites_62 er_33 (l_33 hn) rfl rfl rfl rfl (ble' rfl) (by decide) ?_
          refine aw_iconst (v := -1) dX6_readSites_65 (by decide) ?_
          refine aw_icmp_ne 76 dX6_readSites_66 (by decide) (fun q => absurd rfl q) (fun _ => ?_)
          refine aw_aload_n dX6_readSites_69 rfl ?_
          refine aw_iload_n dX6_readSites_70 rfl ?_
          refine aw_iconst (v := 3) dX6_readSites_71 (by decide) ?_
          refine ap_callVi kv_X6_115 ko_X6_failAt (c_X6_failAt (M := M) (l := nI L) hn _ _) dX6_readSites_72 er_62 (l_62 hn) rfl rfl rfl rfl (ble' rfl) (by decide) ?_
          refine aw_zret rfl dX6_readSites_75 rfl (ble' rfl) (ble' rfl) ?_
          exact pd_ih (by rw [siT, if_neg c49, if_pos (by rw [hs]; decide)]; rfl) (by rw [siT, if_neg c49, if_pos (by rw [hs]; decide)]; rfl)
      · refine aw_iconst (v := 0) dX6_readSites_52 (by decide) ?_
        refine aw_zret rfl dX6_readSites_53 rfl (ble' rfl) (ble' rfl) ?_
        exact pd_ih (by rw [siT, if_pos c49]; rfl) (by rw [siT, if_pos c49])
    refine aw_iload_n dX6_readSites_12 rfl ?_
    refine aw_if_eq 24 dX6_readSites_13 (by decide) (fun _ => body) (fun c13 => ?_)
    refine aw_aload_n dX6_readSites_16 rfl ?_
    refine aw_get fl_X6_15 dX6_readSites_17 er_62 (l_62 hn) rfl ?_
    refine aw_iconst (v := 2) dX6_readSites_20 (by decide) ?_
    exact aw_icmp_ne 82 dX6_readSites_21 (by decide) (fun q => absurd (hk2.resolve_left (fun q => c13 (by rw [h1, q]; rfl))) q) (fun _ => body)

set_option maxRecDepth 100000 in
set_option maxHeartbeats 4000000 in
theorem c_X6_readSites {G : AG} {M : Nat → Nat → Int32} {n : Nat} (hn : 72 ≤ n) {L : Nat} (hL : L ≤ 500) {t : RT} (hE : t.2.2.1 ≤ L) {ks : Nat} (hs : M 33 2 = nI ks) (hs4 : ks ≤ 16) : AMet tX6_readSites yX6_readSites [Cond.code yX6_readSites cX6_readSites 4 (some .boolean)] [.ref 62] (wld G (rd M L t)) n (PD (.inl (some (.int (bI ((siT L 17 M (stepT (M 61) L t)).1 = true))))) (wld G (rd (siT L 17 M (stepT (M 61) L t)).2.1 L (siT L 17 M (stepT (M 61) L t)).2.2)) n) := by
  refine am_of (lo := [_, _, _, _]) (by decide) rfl (fun q => by cases q) rfl rfl rfl ?_
  refine aw_aload_n dX6_readSites_0 rfl ?_
  refine ap_callVv kv_X6_52 ko_X6_step (c_X6_step (M := M) (t := t) hn hL hE) dX6_readSites_1 er_62 (l_62 hn) rfl rfl rfl rfl (ble' rfl) (by decide) ?_
  refine aw_iconst (v := 0) dX6_readSites_4 (by decide) ?_
  refine aw_istore_n (lo' := [_, some (.int _), _, _]) dX6_readSites_5 (by decide) rfl ?_
  refine aw_lo2 (lo' := [some (.ref 62), some (.int _), none, none]) ⟨rfl, rfl, trivial⟩ ?_
  exact lp_X6_readSites hn hL 17 0 _ M _ ks rfl rfl (Or.inl rfl) (step_E hE) hs hs4
