theorem lg_z {x y : Int64} : lg_cmp x y = 0 ↔ x = y := by
  unfold lg_cmp
  by_cases h : x > y
  · rw [if_pos h]; exact ⟨fun q => absurd q (by decide), fun q => absurd h (by rw [q]; exact Int64.lt_irrefl)⟩
  · rw [if_neg h]
    by_cases h2 : x = y
    · rw [if_pos h2]; exact ⟨fun _ => h2, fun _ => rfl⟩
    · rw [if_neg h2]; exact ⟨fun q => absurd q (by decide), fun q => absurd q h2⟩
def pkW (k : Nat) : Nat → Int64
  | 0 => 0
  | j + 1 => 27 * pkW k j + (wB k j).toInt64 - 96
/-- the word k has been read -/
def isWV (t : RV) (k : Nat) : Bool := decide (t.1 = 2 ∧ t.2.2.2.1 = nI (wLen k) ∧ t.2.2.2.2.2.2.2 = pkW k (wLen k))
def rqG (g c : Int32) (t : RV) : RV := if g = 0 ∧ t.2.2.2.2.2.1 = 0 then (t.1, t.2.1, t.2.2.1, t.2.2.2.1, t.2.2.2.2.1, c, nI t.2.1, t.2.2.2.2.2.2.2) else t
def rqV (P : Prop) [Decidable P] (c : Int32) (t : RV) : RV := if ¬ P ∧ t.2.2.2.2.2.1 = 0 then (t.1, t.2.1, t.2.2.1, t.2.2.2.1, t.2.2.2.2.1, c, nI t.2.1, t.2.2.2.2.2.2.2) else t
theorem rq_1 {P : Prop} [Decidable P] (h : P) {c : Int32} {t : RV} : rqG 1 c t = rqV P c t := by
  unfold rqG rqV
  rw [if_neg (fun q => absurd q.1 (by decide)), if_neg (fun q => q.1 h)]
theorem rq_0 {P : Prop} [Decidable P] (h : ¬ P) {c : Int32} {t : RV} : rqG 0 c t = rqV P c t := by
  unfold rqG rqV
  by_cases q : t.2.2.2.2.2.1 = 0
  · rw [if_pos ⟨rfl, q⟩, if_pos ⟨h, q⟩]
  · rw [if_neg (fun r => q r.2), if_neg (fun r => q r.2)]
theorem rq_b {P : Prop} [Decidable P] {c : Int32} {t : RV} : rqG (bI P) c t = rqV P c t := by
  by_cases h : P
  · rw [bI_t h]; exact rq_1 h
  · rw [bI_f h]; exact rq_0 h
theorem rq_nu {P : Prop} [Decidable P] {c : Int32} {t : RV} : (rqV P c t).2.2.2.2.1 = t.2.2.2.2.1 := by unfold rqV; split <;> rfl
theorem rq_tk {P : Prop} [Decidable P] {c : Int32} {t : RV} : (rqV P c t).1 = t.1 := by unfold rqV; split <;> rfl
theorem rq_po {P : Prop} [Decidable P] {c : Int32} {t : RV} : (rqV P c t).2.2.1 = t.2.2.1 := by unfold rqV; split <;> rfl
theorem rq_ec {P : Prop} [Decidable P] {c : Int32} {t : RV} (hc : ¬ c = 0) (h : (rqV P c t).2.2.2.2.2.1 = 0) : P ∧ t.2.2.2.2.2.1 = 0 := by
  unfold rqV at h
  split at h
  · exact absurd h hc
  · rename_i q
    exact ⟨Classical.byContradiction (fun r => q ⟨r, h⟩), h⟩
def advV (x : Nat → Int32) (L : Nat) (t : RV) : RV := if t.2.2.2.2.2.1 = 0 then stpV x L t else t
def pnV (x : Nat → Int32) (L : Nat) (lo hi : Int32) (t : RV) : RV := advV x L (rqV (lo ≤ t.2.2.2.2.1 ∧ t.2.2.2.2.1 ≤ hi) 2 (rqV (t.1 = 3) 1 t))
theorem tok_vE {x : Nat → Int32} {L s : Nat} {t : RV} (h : s ≤ L) : (tokV x L s t).2.2.1 ≤ L := by
  unfold tokV
  split
  · exact h
  · split
    · exact (run_le h).2
    · split
      · exact (run_le h).2
      · show s + 1 ≤ L; omega
theorem stp_E {x : Nat → Int32} {L : Nat} {t : RV} (h : t.2.2.1 ≤ L) : (stpV x L t).2.2.1 ≤ L := tok_vE (run_le h).2
theorem adv_E {x : Nat → Int32} {L : Nat} {t : RV} (h : t.2.2.1 ≤ L) : (advV x L t).2.2.1 ≤ L := by
  unfold advV
  split
  · exact stp_E h
  · exact h
theorem rq_E {L : Nat} {P : Prop} [Decidable P] {c : Int32} {t : RV} (h : t.2.2.1 ≤ L) : (rqV P c t).2.2.1 ≤ L := by rw [rq_po]; exact h
theorem pn_E {x : Nat → Int32} {L : Nat} {lo hi : Int32} {t : RV} (h : t.2.2.1 ≤ L) : (pnV x L lo hi t).2.2.1 ≤ L := adv_E (rq_E (rq_E h))
theorem tok_ec {x : Nat → Int32} {L s : Nat} {t : RV} : (tokV x L s t).2.2.2.2.2.1 = t.2.2.2.2.2.1 := by
  unfold tokV
  split
  · rfl
  · split
    · rfl
    · split <;> rfl
theorem adv_ec {x : Nat → Int32} {L : Nat} {t : RV} : (advV x L t).2.2.2.2.2.1 = t.2.2.2.2.2.1 := by
  unfold advV
  split
  · exact tok_ec
  · rfl
theorem pn_ec {x : Nat → Int32} {L : Nat} {lo hi : Int32} {t : RV} (h : (pnV x L lo hi t).2.2.2.2.2.1 = 0) : (t.1 = 3 ∧ lo ≤ t.2.2.2.2.1 ∧ t.2.2.2.2.1 ≤ hi) ∧ t.2.2.2.2.2.1 = 0 := by
  unfold pnV at h
  rw [adv_ec] at h
  obtain ⟨h1, h2⟩ := rq_ec (by decide) h
  obtain ⟨h3, h4⟩ := rq_ec (by decide) h2
  exact ⟨⟨h3, h1⟩, h4⟩
theorem w64_rv {M : Nat → Nat → Int32} {t : RV} {i : Nat} {x : Int32} : w64 (rv M t) i x = rv (w64 M i x) t := by
  funext j
  unfold w64 rv rvM updM
  by_cases h : j = 64
  · subst h; rfl
  · by_cases h2 : j = 63
    · subst h2; rfl
    · simp [h, h2]
set_option maxRecDepth 100000 in
set_option maxHeartbeats 4000000 in
theorem lp_X10_isWord {G : AG} {M : Nat → Nat → Int32} {n : Nat} (hn : 72 ≤ n) {t : RV} {k : Nat} (hk : k < 4) (h1 : t.1 = 2) (hl9 : t.2.2.2.1 = nI (wLen k)) : ∀ (j i : Nat) (x2 : Int64) (x4 : Int32), wLen k - i < j → i ≤ wLen k → x4 = nI i → x2 = pkW k i →  AW tX10_isWord (AQm tX10_isWord (PD (.inl (some (.int (bI (isWV t k = true))))) (wld (gv G t) (rv M t)) n)) C0 26 [some (.ref 63), some (.ref (900000 + k)), some (.long x2), none, some (.int x4)] [] (wld (gv G t) (rv M t)) n 0 0 := by
  intro j
  induction j with
  | zero => intro i x2 x4 h0; omega
  | succ j ih =>
    intro i x2 x4 h0 hi9 h4 h2
    refine aw_iload dX10_isWord_26 rfl ?_
    refine aw_aload_n dX10_isWord_28 rfl ?_
    refine aw_callW kv_X10_248 rfl ko_J0_length_8abf5 (c_J0_length_8abf5 hk) dX10_isWord_29 hk rfl rfl (ble' rfl) (by decide) ?_
    refine aw_icmp_ge 59 dX10_isWord_32 (by decide) (fun c32 => ?_) (fun c32 => ?_)
    · have n32 := Int32.not_lt.mpr c32
      refine aw_aload_n dX10_isWord_59 rfl ?_
      refine aw_get fl_X10_228 dX10_isWord_60 ev_63 (l_63 hn) rfl ?_
      refine aw_lload_n dX10_isWord_63 rfl ?_
      refine aw_lcmp dX10_isWord_64 ?_
      refine aw_if_ne 72 dX10_isWord_65 (by decide) (fun c65 => ?_) (fun c65 => ?_)
      · refine aw_iconst (v := 0) dX10_isWord_72 (by decide) ?_
        refine aw_zret rfl dX10_isWord_73 rfl (ble' rfl) (ble' rfl) ?_
        have hie : i = wLen k := Nat.le_antisymm hi9 (le_of_le rfl h4 (by have := wL9 hk; omega) (by have := wL9 hk; omega) c32)
        exact pd_i (bI_f (by unfold isWV; simp only [decide_eq_true_eq]; exact fun q => c65 (lg_z.mpr (q.2.2.trans (by rw [h2, hie]))))).symm
      · refine aw_iconst (v := 1) dX10_isWord_68 (by decide) ?_
        refine aw_goto 73 dX10_isWord_69 (by decide) ?_
        refine aw_zret rfl dX10_isWord_73 rfl (ble' rfl) (ble' rfl) ?_
        have hie : i = wLen k := Nat.le_antisymm hi9 (le_of_le rfl h4 (by have := wL9 hk; omega) (by have := wL9 hk; omega) c32)
        exact pd_i (bI_t (by unfold isWV; simp only [decide_eq_true_eq]; exact ⟨h1, hl9, (lg_z.mp c65).trans (by rw [h2, hie])⟩)).symm
    · have n32 := Int32.not_le.mp c32
      have hlt : i < wLen k := lt_of_nle rfl h4 (by have := wL9 hk; omega) (by have := wL9 hk; omega) c32
      refine aw_ldc2 (v := 27) (gw_at 1812 (by decide +kernel) rfl) dX10_isWord_35 ?_
      refine aw_lload_n dX10_isWord_38 rfl ?_
      refine aw_lmul dX10_isWord_39 ?_
      refine aw_aload_n dX10_isWord_40 rfl ?_
      refine aw_iload dX10_isWord_41 rfl ?_
      refine aw_callW kv_X10_254 rfl ko_J0_charAt_5068e (c_J0_charAt_5068e hk h4 hlt) dX10_isWord_43 hk rfl rfl (ble' rfl) (by decide) ?_
      refine aw_i2l dX10_isWord_46 ?_
      refine aw_ladd dX10_isWord_47 ?_
      refine aw_ldc2 (v := 96) (gw_at 1813 (by decide +kernel) rfl) dX10_isWord_48 ?_
      refine aw_lsub dX10_isWord_51 ?_
      refine aw_lstore_n (lo' := [_, _, some (.long _), _, _]) dX10_isWord_52 (by decide) rfl ?_
      refine aw_iinc (lo' := [_, _, _, _, some (.int _)]) dX10_isWord_53 rfl (by decide) rfl ?_
      refine aw_goto 26 dX10_isWord_56 (by decide) ?_
      exact ih (i + 1) _ _ (by omega) (by omega) (by rw [h4]; exact inc1 i) (by rw [h2]; rfl)

set_option maxRecDepth 100000 in
set_option maxHeartbeats 4000000 in
theorem c_X10_isWord {G : AG} {M : Nat → Nat → Int32} {n : Nat} (hn : 72 ≤ n) {t : RV} {k : Nat} (hk : k < 4) : AMet tX10_isWord yX10_isWord [Cond.code yX10_isWord cX10_isWord 5 (some .boolean)] [.ref 63, .ref (900000 + k)] (wld (gv G t) (rv M t)) n (PD (.inl (some (.int (bI (isWV t k = true))))) (wld (gv G t) (rv M t)) n) := by
  refine am_of (lo := [_, _, _, _, _]) (by decide) rfl (fun q => by cases q) rfl rfl rfl ?_
  refine aw_aload_n dX10_isWord_0 rfl ?_
  refine aw_get fl_X10_235 dX10_isWord_1 ev_63 (l_63 hn) rfl ?_
  refine aw_iconst (v := 2) dX10_isWord_4 (by decide) ?_
  refine aw_icmp_ne 19 dX10_isWord_5 (by decide) (fun c5 => ?_) (fun c5 => ?_)
  · refine aw_iconst (v := 0) dX10_isWord_19 (by decide) ?_
    refine aw_zret rfl dX10_isWord_20 rfl (ble' rfl) (ble' rfl) ?_
    exact pd_i (bI_f (by unfold isWV; simp only [decide_eq_true_eq]; exact fun q => c5 q.1)).symm
  · refine aw_aload_n dX10_isWord_8 rfl ?_
    refine aw_get fl_X10_225 dX10_isWord_9 ev_63 (l_63 hn) rfl ?_
    refine aw_aload_n dX10_isWord_12 rfl ?_
    refine aw_callW kv_X10_248 rfl ko_J0_length_8abf5 (c_J0_length_8abf5 hk) dX10_isWord_13 hk rfl rfl (ble' rfl) (by decide) ?_
    refine aw_icmp_eq 21 dX10_isWord_16 (by decide) (fun c16 => ?_) (fun c16 => ?_)
    · refine aw_lconst (v := 0) dX10_isWord_21 (by decide) ?_
      refine aw_lstore_n (lo' := [_, _, some (.long _), _, _]) dX10_isWord_22 (by decide) rfl ?_
      refine aw_iconst (v := 0) dX10_isWord_23 (by decide) ?_
      refine aw_istore (lo' := [_, _, _, _, some (.int _)]) dX10_isWord_24 (by decide) rfl ?_
      exact lp_X10_isWord hn hk c5 c16 (wLen k + 1) 0 _ _ (by omega) (by omega) rfl rfl
    · refine aw_iconst (v := 0) dX10_isWord_19 (by decide) ?_
      refine aw_zret rfl dX10_isWord_20 rfl (ble' rfl) (ble' rfl) ?_
      exact pd_i (bI_f (by unfold isWV; simp only [decide_eq_true_eq]; exact fun q => c16 q.2.1)).symm

set_option maxRecDepth 100000 in
set_option maxHeartbeats 4000000 in
theorem c_X10_require {G : AG} {M : Nat → Nat → Int32} {n : Nat} (hn : 72 ≤ n) {t : RV} (g c : Int32) : AMet tX10_require yX10_require [Cond.code yX10_require cX10_require 3 none] [.ref 63, .int g, .int c] (wld (gv G t) (rv M t)) n (PD (.inl none) (wld (gv G (rqG g c t)) (rv M (rqG g c t))) n) := by
  refine am_of (lo := [_, _, _]) (by decide) rfl (fun q => by cases q) rfl rfl rfl ?_
  refine aw_iload_n dX10_require_0 rfl ?_
  refine aw_if_ne 24 dX10_require_1 (by decide) (fun c1 => ?_) (fun c1 => ?_)
  · refine aw_vret rfl dX10_require_24 (ble' rfl) (ble' rfl) ?_
    exact pd_v (by rw [rqG, if_neg (fun q => c1 q.1)])
  · refine aw_aload_n dX10_require_4 rfl ?_
    refine aw_get fl_X10_258 dX10_require_5 ev_63 (l_63 hn) rfl ?_
    refine aw_if_ne 24 dX10_require_8 (by decide) (fun c8 => ?_) (fun c8 => ?_)
    · refine aw_vret rfl dX10_require_24 (ble' rfl) (ble' rfl) ?_
      exact pd_v (by rw [rqG, if_neg (fun q => c8 q.2)])
    · refine aw_aload_n dX10_require_11 rfl ?_
      refine aw_iload_n dX10_require_12 rfl ?_
      refine aw_put fp_X10_258_m dX10_require_13 ev_63 (l_63 hn) (ble' rfl) (fun _ => ⟨rfl, rfl⟩) (hv_16 rfl) ?_
      refine aw_aload_n dX10_require_16 rfl ?_
      refine aw_aload_n dX10_require_17 rfl ?_
      refine aw_get fl_X10_222 dX10_require_18 ev_63 (l_63 hn) rfl ?_
      refine aw_put fp_X10_32_m dX10_require_21 ev_63 (l_63 hn) (ble' rfl) (fun _ => ⟨rfl, rfl⟩) (hv_17 rfl) ?_
      refine aw_vret rfl dX10_require_24 (ble' rfl) (ble' rfl) ?_
      exact pd_v (by rw [rqG, if_pos ⟨c1, c8⟩]; rfl)

set_option maxRecDepth 100000 in
set_option maxHeartbeats 4000000 in
theorem c_X10_advanceToken {G : AG} {M : Nat → Nat → Int32} {n : Nat} (hn : 72 ≤ n) {L : Nat} (hl : M 63 10 = nI L) (hL : L ≤ 500) (hx : ∀ i, i < 500 → ¬ M 70 i = -1) {t : RV} (hE : t.2.2.1 ≤ L) : AMet tX10_advanceToken yX10_advanceToken [Cond.code yX10_advanceToken cX10_advanceToken 1 none] [.ref 63] (wld (gv G t) (rv M t)) n (PD (.inl none) (wld (gv G (advV (M 70) L t)) (rv M (advV (M 70) L t))) n) := by
  refine am_of (lo := [_]) (by decide) rfl (fun q => by cases q) rfl rfl rfl ?_
  refine aw_aload_n dX10_advanceToken_0 rfl ?_
  refine aw_get fl_X10_258 dX10_advanceToken_1 ev_63 (l_63 hn) rfl ?_
  refine aw_if_ne 11 dX10_advanceToken_4 (by decide) (fun c4 => ?_) (fun c4 => ?_)
  · refine aw_vret rfl dX10_advanceToken_11 (ble' rfl) (ble' rfl) ?_
    exact pd_v (by rw [advV, if_neg c4])
  · refine aw_aload_n dX10_advanceToken_7 rfl ?_
    refine ap_callVv kv_X10_261 ko_X10_nextToken (c_X10_nextToken hn hl hL hx hE) dX10_advanceToken_8 ev_63 (l_63 hn) rfl rfl rfl rfl (ble' rfl) (by decide) ?_
    refine aw_vret rfl dX10_advanceToken_11 (ble' rfl) (ble' rfl) ?_
    exact pd_v (by rw [advV, if_pos c4])

set_option maxRecDepth 100000 in
set_option maxHeartbeats 4000000 in
theorem c_X10_parseNumber {G : AG} {M : Nat → Nat → Int32} {n : Nat} (hn : 72 ≤ n) {L : Nat} (hl : M 63 10 = nI L) (hL : L ≤ 500) (hx : ∀ i, i < 500 → ¬ M 70 i = -1) {t : RV} (hE : t.2.2.1 ≤ L) (lo hi : Int32) : AMet tX10_parseNumber yX10_parseNumber [Cond.code yX10_parseNumber cX10_parseNumber 4 (some .int)] [.ref 63, .int lo, .int hi] (wld (gv G t) (rv M t)) n (PD (.inl (some (.int t.2.2.2.2.1))) (wld (gv G (pnV (M 70) L lo hi t)) (rv M (pnV (M 70) L lo hi t))) n) := by
  refine am_of (lo := [_, _, _, _]) (by decide) rfl (fun q => by cases q) rfl rfl rfl ?_
  refine aw_aload_n dX10_parseNumber_0 rfl ?_
  refine aw_aload_n dX10_parseNumber_1 rfl ?_
  refine aw_get fl_X10_235 dX10_parseNumber_2 ev_63 (l_63 hn) rfl ?_
  refine aw_iconst (v := 3) dX10_parseNumber_5 (by decide) ?_
  refine aw_icmp_ne 13 dX10_parseNumber_6 (by decide) (fun c6 => ?_) (fun c6 => ?_)
  · refine aw_iconst (v := 0) dX10_parseNumber_13 (by decide) ?_
    refine aw_iconst (v := 1) dX10_parseNumber_14 (by decide) ?_
    refine ap_callVv kv_X10_264 ko_X10_require (c_X10_require (t := t) hn _ 1) dX10_parseNumber_15 ev_63 (l_63 hn) rfl rfl rfl rfl (ble' rfl) (by decide) ?_
    rw [rq_0 (P := t.1 = 3) c6]
    refine aw_aload_n dX10_parseNumber_18 rfl ?_
    refine aw_aload_n dX10_parseNumber_19 rfl ?_
    refine aw_get fl_X10_232 dX10_parseNumber_20 ev_63 (l_63 hn) rfl ?_
    refine aw_iload_n dX10_parseNumber_23 rfl ?_
    refine aw_iload_n dX10_parseNumber_24 rfl ?_
    refine ap_callSi ks_X10_39 ko_X10_isBetween (c_X10_isBetween _ _ _) dX10_parseNumber_25 rfl rfl (ble' rfl) (by decide) ?_
    refine aw_iconst (v := 2) dX10_parseNumber_28 (by decide) ?_
    refine ap_callVv kv_X10_264 ko_X10_require (c_X10_require (t := (rqV (t.1 = 3) 1 t)) hn _ 2) dX10_parseNumber_29 ev_63 (l_63 hn) rfl rfl rfl rfl (ble' rfl) (by decide) ?_
    rw [rq_b (P := lo ≤ (rqV (t.1 = 3) 1 t).2.2.2.2.1 ∧ (rqV (t.1 = 3) 1 t).2.2.2.2.1 ≤ hi)]
    refine aw_aload_n dX10_parseNumber_32 rfl ?_
    refine aw_get fl_X10_232 dX10_parseNumber_33 ev_63 (l_63 hn) rfl ?_
    refine aw_istore_n (lo' := [_, _, _, some (.int _)]) dX10_parseNumber_36 (by decide) rfl ?_
    refine aw_aload_n dX10_parseNumber_37 rfl ?_
    simp only [rq_nu]
    refine ap_callVv kv_X10_268 ko_X10_advanceToken (c_X10_advanceToken hn hl hL hx (t := rqV (lo ≤ t.2.2.2.2.1 ∧ t.2.2.2.2.1 ≤ hi) 2 (rqV (t.1 = 3) 1 t)) (rq_E (rq_E hE))) dX10_parseNumber_38 ev_63 (l_63 hn) rfl rfl rfl rfl (ble' rfl) (by decide) ?_
    refine aw_iload_n dX10_parseNumber_41 rfl ?_
    refine aw_iret rfl dX10_parseNumber_42 (ble' rfl) (ble' rfl) ?_
    exact pd_ih rfl rfl
  · refine aw_iconst (v := 1) dX10_parseNumber_9 (by decide) ?_
    refine aw_goto 14 dX10_parseNumber_10 (by decide) ?_
    refine aw_iconst (v := 1) dX10_parseNumber_14 (by decide) ?_
    refine ap_callVv kv_X10_264 ko_X10_require (c_X10_require (t := t) hn _ 1) dX10_parseNumber_15 ev_63 (l_63 hn) rfl rfl rfl rfl (ble' rfl) (by decide) ?_
    rw [rq_1 (P := t.1 = 3) c6]
    refine aw_aload_n dX10_parseNumber_18 rfl ?_
    refine aw_aload_n dX10_parseNumber_19 rfl ?_
    refine aw_get fl_X10_232 dX10_parseNumber_20 ev_63 (l_63 hn) rfl ?_
    refine aw_iload_n dX10_parseNumber_23 rfl ?_
    refine aw_iload_n dX10_parseNumber_24 rfl ?_
    refine ap_callSi ks_X10_39 ko_X10_isBetween (c_X10_isBetween _ _ _) dX10_parseNumber_25 rfl rfl (ble' rfl) (by decide) ?_
    refine aw_iconst (v := 2) dX10_parseNumber_28 (by decide) ?_
    refine ap_callVv kv_X10_264 ko_X10_require (c_X10_require (t := (rqV (t.1 = 3) 1 t)) hn _ 2) dX10_parseNumber_29 ev_63 (l_63 hn) rfl rfl rfl rfl (ble' rfl) (by decide) ?_
    rw [rq_b (P := lo ≤ (rqV (t.1 = 3) 1 t).2.2.2.2.1 ∧ (rqV (t.1 = 3) 1 t).2.2.2.2.1 ≤ hi)]
    refine aw_aload_n dX10_parseNumber_32 rfl ?_
    refine aw_get fl_X10_232 dX10_parseNumber_33 ev_63 (l_63 hn) rfl ?_
    refine aw_istore_n (lo' := [_, _, _, some (.int _)]) dX10_parseNumber_36 (by decide) rfl ?_
    refine aw_aload_n dX10_parseNumber_37 rfl ?_
    simp only [rq_nu]
    refine ap_callVv kv_X10_268 ko_X10_advanceToken (c_X10_advanceToken hn hl hL hx (t := rqV (lo ≤ t.2.2.2.2.1 ∧ t.2.2.2.2.1 ≤ hi) 2 (rqV (t.1 = 3) 1 t)) (rq_E (rq_E hE))) dX10_parseNumber_38 ev_63 (l_63 hn) rfl rfl rfl rfl (ble' rfl) (by decide) ?_
    refine aw_iload_n dX10_parseNumber_41 rfl ?_
    refine aw_iret rfl dX10_parseNumber_42 (ble' rfl) (ble' rfl) ?_
    exact pd_ih rfl rfl
