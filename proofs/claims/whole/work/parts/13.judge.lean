set_option maxRecDepth 100000 in
set_option maxHeartbeats 4000000 in
theorem lp_fill_57 {G : AG} {M : Nat → Nat → Int32} {n : Nat} (hn : 72 ≤ n) (v : Int32) : ∀ (j : Nat) (k : Nat) (x2 : Int32), 999 - k < j → k ≤ 999 → x2 = nI k →  AW tJ7_fill_53178 (AQm tJ7_fill_53178 (PD (.inl none) (wld G (updM M 57 (mapK (fun _ => v) (M 57) 999))) n)) C0 5 [some (.ref 57), some (.int v), some (.int x2), some (.int 999)] [] (wld G (updM M 57 (mapK (fun _ => v) (M 57) k))) n 0 0 := by
  intro j
  induction j with
  | zero => intro k x2 h1 hk h2; omega
  | succ j ih =>
    intro k x2 h1 hk h2
    refine aw_iload_n dJ7_fill_53178_5 rfl ?_
    refine aw_iload_n dJ7_fill_53178_6 rfl ?_
    refine aw_icmp_ge 20 dJ7_fill_53178_7 (by decide) (fun c7 => ?_) (fun c7 => ?_)
    · have n7 := Int32.not_lt.mpr c7
      refine aw_vret rfl dJ7_fill_53178_20 (ble' rfl) (ble' rfl) ?_
      have hke : k = 999 := Nat.le_antisymm hk (le_of_le (show (999 : Int32) = nI 999 from rfl) h2 (by decide) (by omega) c7)
      subst hke
      exact pd_v rfl
    · have n7 := Int32.not_le.mp c7
      have hlt : k < 999 := lt_of_nle (b := k) (show (999 : Int32) = nI 999 from rfl) h2 (by decide) (by omega) c7
      refine aw_aload_n dJ7_fill_53178_10 rfl ?_
      refine aw_iload_n dJ7_fill_53178_11 rfl ?_
      refine aw_iload_n dJ7_fill_53178_12 rfl ?_
      refine aw_iastk dJ7_fill_53178_13 e_57 (l_57 hn) h2 hlt rfl (hwa rfl) ?_
      refine aw_iinc (lo' := [_, _, some (.int _), _]) dJ7_fill_53178_14 rfl (by decide) rfl ?_
      refine aw_goto 5 dJ7_fill_53178_17 (by decide) ?_
      refine aw_heq (mapW rfl) ?_
      exact ih (k + 1) _ (by omega) (by omega) (by rw [h2]; exact inc1 k)

set_option maxRecDepth 100000 in
set_option maxHeartbeats 4000000 in
theorem c_fill_57 {G : AG} {M : Nat → Nat → Int32} {n : Nat} (hn : 72 ≤ n) (v : Int32) : AMet tJ7_fill_53178 yJ7_fill_53178 [Cond.code yJ7_fill_53178 cJ7_fill_53178 4 none] [.ref 57, .int v] (wld G M) n (PD (.inl none) (wld G (updM M 57 (mapK (fun _ => v) (M 57) 999))) n) := by
  refine am_of (lo := [_, _, _, _]) (by decide) rfl (fun q => by cases q) rfl rfl rfl ?_
  refine aw_iconst (v := 0) dJ7_fill_53178_0 (by decide) ?_
  refine aw_istore_n (lo' := [_, _, some (.int _), _]) dJ7_fill_53178_1 (by decide) rfl ?_
  refine aw_aload_n dJ7_fill_53178_2 rfl ?_
  refine aw_alen (v := 999) dJ7_fill_53178_3 e_57 (l_57 hn) (by decide) (by decide) ?_
  refine aw_istore_n (lo' := [_, _, _, some (.int _)]) dJ7_fill_53178_4 (by decide) rfl ?_
  refine aw_heq (show wld G M = (wld G (updM M 57 (mapK (fun _ => v) (M 57) 0))) by rw [mapK_0, updM_id]) ?_
  exact lp_fill_57 hn v 1000 0 _ (by omega) (by omega) rfl

set_option maxRecDepth 100000 in
set_option maxHeartbeats 4000000 in
theorem lp_fill_59 {G : AG} {M : Nat → Nat → Int32} {n : Nat} (hn : 72 ≤ n) (v : Int32) : ∀ (j : Nat) (k : Nat) (x2 : Int32), 60 - k < j → k ≤ 60 → x2 = nI k →  AW tJ7_fill_53178 (AQm tJ7_fill_53178 (PD (.inl none) (wld G (updM M 59 (mapK (fun _ => v) (M 59) 60))) n)) C0 5 [some (.ref 59), some (.int v), some (.int x2), some (.int 60)] [] (wld G (updM M 59 (mapK (fun _ => v) (M 59) k))) n 0 0 := by
  intro j
  induction j with
  | zero => intro k x2 h1 hk h2; omega
  | succ j ih =>
    intro k x2 h1 hk h2
    refine aw_iload_n dJ7_fill_53178_5 rfl ?_
    refine aw_iload_n dJ7_fill_53178_6 rfl ?_
    refine aw_icmp_ge 20 dJ7_fill_53178_7 (by decide) (fun c7 => ?_) (fun c7 => ?_)
    · have n7 := Int32.not_lt.mpr c7
      refine aw_vret rfl dJ7_fill_53178_20 (ble' rfl) (ble' rfl) ?_
      have hke : k = 60 := Nat.le_antisymm hk (le_of_le (show (60 : Int32) = nI 60 from rfl) h2 (by decide) (by omega) c7)
      subst hke
      exact pd_v rfl
    · have n7 := Int32.not_le.mp c7
      have hlt : k < 60 := lt_of_nle (b := k) (show (60 : Int32) = nI 60 from rfl) h2 (by decide) (by omega) c7
      refine aw_aload_n dJ7_fill_53178_10 rfl ?_
      refine aw_iload_n dJ7_fill_53178_11 rfl ?_
      refine aw_iload_n dJ7_fill_53178_12 rfl ?_
      refine aw_iastk dJ7_fill_53178_13 e_59 (l_59 hn) h2 hlt rfl (hwa rfl) ?_
      refine aw_iinc (lo' := [_, _, some (.int _), _]) dJ7_fill_53178_14 rfl (by decide) rfl ?_
      refine aw_goto 5 dJ7_fill_53178_17 (by decide) ?_
      refine aw_heq (mapW rfl) ?_
      exact ih (k + 1) _ (by omega) (by omega) (by rw [h2]; exact inc1 k)

set_option maxRecDepth 100000 in
set_option maxHeartbeats 4000000 in
theorem c_fill_59 {G : AG} {M : Nat → Nat → Int32} {n : Nat} (hn : 72 ≤ n) (v : Int32) : AMet tJ7_fill_53178 yJ7_fill_53178 [Cond.code yJ7_fill_53178 cJ7_fill_53178 4 none] [.ref 59, .int v] (wld G M) n (PD (.inl none) (wld G (updM M 59 (mapK (fun _ => v) (M 59) 60))) n) := by
  refine am_of (lo := [_, _, _, _]) (by decide) rfl (fun q => by cases q) rfl rfl rfl ?_
  refine aw_iconst (v := 0) dJ7_fill_53178_0 (by decide) ?_
  refine aw_istore_n (lo' := [_, _, some (.int _), _]) dJ7_fill_53178_1 (by decide) rfl ?_
  refine aw_aload_n dJ7_fill_53178_2 rfl ?_
  refine aw_alen (v := 60) dJ7_fill_53178_3 e_59 (l_59 hn) (by decide) (by decide) ?_
  refine aw_istore_n (lo' := [_, _, _, some (.int _)]) dJ7_fill_53178_4 (by decide) rfl ?_
  refine aw_heq (show wld G M = (wld G (updM M 59 (mapK (fun _ => v) (M 59) 0))) by rw [mapK_0, updM_id]) ?_
  exact lp_fill_59 hn v 61 0 _ (by omega) (by omega) rfl

set_option maxRecDepth 100000 in
set_option maxHeartbeats 4000000 in
theorem lp_fill_60 {G : AG} {M : Nat → Nat → Int32} {n : Nat} (hn : 72 ≤ n) (v : Int32) : ∀ (j : Nat) (k : Nat) (x2 : Int32), 16 - k < j → k ≤ 16 → x2 = nI k →  AW tJ7_fill_53178 (AQm tJ7_fill_53178 (PD (.inl none) (wld G (updM M 60 (mapK (fun _ => v) (M 60) 16))) n)) C0 5 [some (.ref 60), some (.int v), some (.int x2), some (.int 16)] [] (wld G (updM M 60 (mapK (fun _ => v) (M 60) k))) n 0 0 := by
  intro j
  induction j with
  | zero => intro k x2 h1 hk h2; omega
  | succ j ih =>
    intro k x2 h1 hk h2
    refine aw_iload_n dJ7_fill_53178_5 rfl ?_
    refine aw_iload_n dJ7_fill_53178_6 rfl ?_
    refine aw_icmp_ge 20 dJ7_fill_53178_7 (by decide) (fun c7 => ?_) (fun c7 => ?_)
    · have n7 := Int32.not_lt.mpr c7
      refine aw_vret rfl dJ7_fill_53178_20 (ble' rfl) (ble' rfl) ?_
      have hke : k = 16 := Nat.le_antisymm hk (le_of_le (show (16 : Int32) = nI 16 from rfl) h2 (by decide) (by omega) c7)
      subst hke
      exact pd_v rfl
    · have n7 := Int32.not_le.mp c7
      have hlt : k < 16 := lt_of_nle (b := k) (show (16 : Int32) = nI 16 from rfl) h2 (by decide) (by omega) c7
      refine aw_aload_n dJ7_fill_53178_10 rfl ?_
      refine aw_iload_n dJ7_fill_53178_11 rfl ?_
      refine aw_iload_n dJ7_fill_53178_12 rfl ?_
      refine aw_iastk dJ7_fill_53178_13 e_60 (l_60 hn) h2 hlt rfl (hwa rfl) ?_
      refine aw_iinc (lo' := [_, _, some (.int _), _]) dJ7_fill_53178_14 rfl (by decide) rfl ?_
      refine aw_goto 5 dJ7_fill_53178_17 (by decide) ?_
      refine aw_heq (mapW rfl) ?_
      exact ih (k + 1) _ (by omega) (by omega) (by rw [h2]; exact inc1 k)

set_option maxRecDepth 100000 in
set_option maxHeartbeats 4000000 in
theorem c_fill_60 {G : AG} {M : Nat → Nat → Int32} {n : Nat} (hn : 72 ≤ n) (v : Int32) : AMet tJ7_fill_53178 yJ7_fill_53178 [Cond.code yJ7_fill_53178 cJ7_fill_53178 4 none] [.ref 60, .int v] (wld G M) n (PD (.inl none) (wld G (updM M 60 (mapK (fun _ => v) (M 60) 16))) n) := by
  refine am_of (lo := [_, _, _, _]) (by decide) rfl (fun q => by cases q) rfl rfl rfl ?_
  refine aw_iconst (v := 0) dJ7_fill_53178_0 (by decide) ?_
  refine aw_istore_n (lo' := [_, _, some (.int _), _]) dJ7_fill_53178_1 (by decide) rfl ?_
  refine aw_aload_n dJ7_fill_53178_2 rfl ?_
  refine aw_alen (v := 16) dJ7_fill_53178_3 e_60 (l_60 hn) (by decide) (by decide) ?_
  refine aw_istore_n (lo' := [_, _, _, some (.int _)]) dJ7_fill_53178_4 (by decide) rfl ?_
  refine aw_heq (show wld G M = (wld G (updM M 60 (mapK (fun _ => v) (M 60) 0))) by rw [mapK_0, updM_id]) ?_
  exact lp_fill_60 hn v 17 0 _ (by omega) (by omega) rfl

/-- the night d of the class c is available (as the class tells it) -/
def frC (M : Nat → Nat → Int32) (kc ns nb : Nat) (c d : Int32) : Bool := decide (0 < (relC (M 1 5) (M 3 kc) (M 4 kc) (M 5 kc) (nI (cnt (opB (M 7) (M 8) c d) ns)) d) ∧ (nI (cnt (tkB (M 16) (M 17) (M 18) (M 20) c d) nb)) < (relC (M 1 5) (M 3 kc) (M 4 kc) (M 5 kc) (nI (cnt (opB (M 7) (M 8) c d) ns)) d))
/-- what the judge remembers is true -/
def KN (fr : Int32 → Bool) (r : Nat → Int32) : Prop := ∀ k, k < 999 → r k = 0 ∨ (r k = 1 ∧ fr (nI k) = true) ∨ (r k = 2 ∧ fr (nI k) = false)
def PJ (v : Int32) (G : AG) (M : Nat → Nat → Int32) (n : Nat) (K : (Nat → Int32) → Prop) : APost := fun o h' n' => o = .inl (some (.int v)) ∧ n' = n ∧ ∃ r, h' = wld G (updM M 57 r) ∧ K r
theorem ap_callJ {T Tc : ATy} {Q : AQ} {CX : AC} {pc : Nat} {lo : List (Option Value)} {st : List Value} {h : Nat → AE} {n ce sl : Nat} {y : MethodName} {index : Nat} {sk as : List Value} {i ci na : Nat} {fs : List Value} {rr : vw_C} {v : Int32} {G : AG} {M : Nat → Nat → Int32} {K : (Nat → Int32) → Prop} (hL : KV T.1 index y) (hK : KO y Tc.2.1 Tc.2.2.1 Tc.2.2.2.1 na) (hM : AMet Tc y [Cond.code y Tc.2.1 Tc.2.2.1 Tc.2.2.2.1] (.ref i :: as) h n (PJ v G M n K)) (hd : decode T.2.1 pc = .ok (.invokevirtual index, 3)) (he : h i = .inr (ci, fs)) (hi : i < n) (hcl : vwCl[ci]? = some rr) (hr1 : rr.1 = y.cls) (hst : sk = as.reverse ++ .ref i :: st) (hna9 : as.length = na) (hw : (st.map fun v => v.category).sum ≤ 8) (hR : RmOk T Tc ce sl)
    (kk : ∀ r, K r → AW T Q CX (pc + 3) lo (.int v :: st) (wld G (updM M 57 r)) n (ce + Tc.2.2.2.2.1.cells) (sl + Tc.2.2.2.2.1.slots)) : AW T Q CX pc lo sk h n ce sl :=
  aw_callV hL hK hM hd he hi hcl hr1 hst hna9 hw hR (fun _ _ _ q => by cases q.1) (fun _ _ _ q => q.2.1) (fun v' h' q => by
    obtain ⟨q1, -, r, q2, q3⟩ := q
    cases q1; subst q2; exact kk r q3)
theorem pj_i {v w : Int32} {G : AG} {M : Nat → Nat → Int32} {n : Nat} {K : (Nat → Int32) → Prop} {r : Nat → Int32} (e : v = w) (hk : K r) : PJ w G M n K (.inl (some (.int v))) (wld G (updM M 57 r)) n := ⟨by rw [e], rfl, r, rfl, hk⟩
theorem nat_of {x : Int32} (h0 : ¬ x < 0) : ∃ k : Nat, k < 2 ^ 31 ∧ x = nI k := nI_of h0

theorem j_rel {G : AG} {M : Nat → Nat → Int32} {n : Nat} (hn : 72 ≤ n) (r : Nat → Int32) {nc : Nat} (hc : M 2 3 = nI nc) (hcl : nc ≤ 4) {c : Int32} {kc : Nat} (hk : c = nI kc) (hkc : kc < nc) {ns : Nat} (hs : M 6 2 = nI ns) (hsl : ns ≤ 16) {nb : Nat} (hb : M 15 6 = nI nb) (hbl : nb ≤ 60) {nz : Nat} (hz : M 9 5 = nI nz) (hzl : nz ≤ 12) (hjc : M 56 2 = c) {t : Nat} (ht : M 1 5 = nI t) (htl : t ≤ 999) (d : Int32) : AMet tX1_releasedOn yX1_releasedOn [Cond.code yX1_releasedOn cX1_releasedOn 3 (some .int)] [.ref 1, .int c, .int d] (wld G (updM M 57 r)) n (PD (.inl (some (.int (relC (M 1 5) (M 3 kc) (M 4 kc) (M 5 kc) (nI (cnt (opB (M 7) (M 8) c d) ns)) d)))) (wld G (updM M 57 r)) n) := c_X1_releasedOn (M := updM M 57 r) hn hc hcl hk hkc hs hsl d

theorem j_tk {G : AG} {M : Nat → Nat → Int32} {n : Nat} (hn : 72 ≤ n) (r : Nat → Int32) {nc : Nat} (hc : M 2 3 = nI nc) (hcl : nc ≤ 4) {c : Int32} {kc : Nat} (hk : c = nI kc) (hkc : kc < nc) {ns : Nat} (hs : M 6 2 = nI ns) (hsl : ns ≤ 16) {nb : Nat} (hb : M 15 6 = nI nb) (hbl : nb ≤ 60) {nz : Nat} (hz : M 9 5 = nI nz) (hzl : nz ≤ 12) (hjc : M 56 2 = c) {t : Nat} (ht : M 1 5 = nI t) (htl : t ≤ 999) (d : Int32) : AMet tX0_takenOn yX0_takenOn [Cond.code yX0_takenOn cX0_takenOn 5 (some .int)] [.ref 15, .int c, .int d] (wld G (updM M 57 r)) n (PD (.inl (some (.int (nI (cnt (tkB (M 16) (M 17) (M 18) (M 20) c d) nb))))) (wld G (updM M 57 r)) n) := c_X0_takenOn (M := updM M 57 r) hn hb hbl c d

theorem j_min {G : AG} {M : Nat → Nat → Int32} {n : Nat} (hn : 72 ≤ n) (r : Nat → Int32) {nc : Nat} (hc : M 2 3 = nI nc) (hcl : nc ≤ 4) {c : Int32} {kc : Nat} (hk : c = nI kc) (hkc : kc < nc) {ns : Nat} (hs : M 6 2 = nI ns) (hsl : ns ≤ 16) {nb : Nat} (hb : M 15 6 = nI nb) (hbl : nb ≤ 60) {nz : Nat} (hz : M 9 5 = nI nz) (hzl : nz ≤ 12) (hjc : M 56 2 = c) {t : Nat} (ht : M 1 5 = nI t) (htl : t ≤ 999) (d : Int32) : AMet tX5_minimumOn yX5_minimumOn [Cond.code yX5_minimumOn cX5_minimumOn 4 (some .int)] [.ref 9, .int c, .int d] (wld G (updM M 57 r)) n (PD (.inl (some (.int (sval (seasN (M 10) (M 11) (M 12) c d nz) (M 13) 1)))) (wld G (updM M 57 r)) n) := c_X5_minimumOn (M := updM M 57 r) hn hz hzl c d

theorem j_win {G : AG} {M : Nat → Nat → Int32} {n : Nat} (hn : 72 ≤ n) (r : Nat → Int32) {nc : Nat} (hc : M 2 3 = nI nc) (hcl : nc ≤ 4) {c : Int32} {kc : Nat} (hk : c = nI kc) (hkc : kc < nc) {ns : Nat} (hs : M 6 2 = nI ns) (hsl : ns ≤ 16) {nb : Nat} (hb : M 15 6 = nI nb) (hbl : nb ≤ 60) {nz : Nat} (hz : M 9 5 = nI nz) (hzl : nz ≤ 12) (hjc : M 56 2 = c) {t : Nat} (ht : M 1 5 = nI t) (htl : t ≤ 999)  : AMet tX2_windowOf yX2_windowOf [Cond.code yX2_windowOf cX2_windowOf 2 (some .int)] [.ref 2, .int c] (wld G (updM M 57 r)) n (PD (.inl (some (.int (M 3 kc)))) (wld G (updM M 57 r)) n) := c_X2_windowOf (M := updM M 57 r) hn hc hcl hk hkc

set_option maxRecDepth 100000 in
set_option maxHeartbeats 4000000 in
theorem c_X8_turnTo {G : AG} {M : Nat → Nat → Int32} {n : Nat} (hn : 72 ≤ n) (v : Int32) : AMet tX8_turnTo yX8_turnTo [Cond.code yX8_turnTo cX8_turnTo 2 none] [.ref 56, .int v] (wld G M) n (PD (.inl none) (wld G (updM (updM M 56 (upd (M 56) 2 v)) 57 (mapK (fun _ => 0) (M 57) 999))) n) := by
  refine am_of (lo := [_, _]) (by decide) rfl (fun q => by cases q) rfl rfl rfl ?_
  refine aw_aload_n dX8_turnTo_0 rfl ?_
  refine aw_iload_n dX8_turnTo_1 rfl ?_
  refine aw_put fp_X8_15_m dX8_turnTo_2 e_56 (l_56 hn) (ble' rfl) (fun _ => ⟨rfl, rfl⟩) (hwf rfl) ?_
  refine aw_aload_n dX8_turnTo_5 rfl ?_
  refine aw_get fl_X8_9 dX8_turnTo_6 e_56 (l_56 hn) rfl ?_
  refine aw_iconst (v := 0) dX8_turnTo_9 (by decide) ?_
  refine ap_callSv ks_X8_23 ko_J7_fill_53178 (c_fill_57 (M := updM M 56 _) hn 0) dX8_turnTo_10 rfl rfl (ble' rfl) (by decide) ?_
  refine aw_vret rfl dX8_turnTo_13 (ble' rfl) (ble' rfl) ?_
  exact pd_v rfl

theorem KN_put1 {fr : Int32 → Bool} {r : Nat → Int32} {k : Nat} (h : KN fr r) (hf : fr (nI k) = true) : KN fr (upd r k 1) := by
  intro j hj
  unfold upd
  by_cases e : j = k
  · subst e; rw [if_pos rfl]; exact Or.inr (Or.inl ⟨rfl, hf⟩)
  · rw [if_neg e]; exact h j hj
theorem KN_put2 {fr : Int32 → Bool} {r : Nat → Int32} {k : Nat} (h : KN fr r) (hf : fr (nI k) = false) : KN fr (upd r k 2) := by
  intro j hj
  unfold upd
  by_cases e : j = k
  · subst e; rw [if_pos rfl]; exact Or.inr (Or.inr ⟨rfl, hf⟩)
  · rw [if_neg e]; exact h j hj
theorem frC_out {M : Nat → Nat → Int32} {kc ns nb t : Nat} {c d : Int32} (ht : M 1 5 = nI t) (htl : t ≤ 999) (h : d < 0 ∨ 998 < d) : frC M kc ns nb c d = false := by
  have h1 : d < M 1 5 ∨ 998 < d := by
    rcases h with q | q
    · exact Or.inl (by rw [ht]; exact Int32.lt_of_lt_of_le q (nI_pos' (by omega)))
    · exact Or.inr q
  simp [frC, relC, h1]

set_option maxRecDepth 100000 in
set_option maxHeartbeats 4000000 in
theorem c_X8_isFree {G : AG} {M : Nat → Nat → Int32} {n : Nat} (hn : 72 ≤ n) (r : Nat → Int32) {nc : Nat} (hc : M 2 3 = nI nc) (hcl : nc ≤ 4) {c : Int32} {kc : Nat} (hk : c = nI kc) (hkc : kc < nc) {ns : Nat} (hs : M 6 2 = nI ns) (hsl : ns ≤ 16) {nb : Nat} (hb : M 15 6 = nI nb) (hbl : nb ≤ 60) {nz : Nat} (hz : M 9 5 = nI nz) (hzl : nz ≤ 12) (hjc : M 56 2 = c) {t : Nat} (ht : M 1 5 = nI t) (htl : t ≤ 999) (hK : KN (frC M kc ns nb c) r) (d : Int32) : AMet tX8_isFree yX8_isFree [Cond.code yX8_isFree cX8_isFree 4 (some .boolean)] [.ref 56, .int d] (wld G (updM M 57 r)) n (PJ (bI ((frC M kc ns nb c) d = true)) G M n (KN (frC M kc ns nb c))) := by
  subst hjc
  refine am_of (lo := [_, _, _, _]) (by decide) rfl (fun q => by cases q) rfl rfl rfl ?_
  refine aw_iload_n dX8_isFree_0 rfl ?_
  refine aw_if_lt 11 dX8_isFree_1 (by decide) (fun c1 => ?_) (fun c1 => ?_)
  · have n1 := Int32.not_le.mpr c1
    refine aw_iconst (v := 0) dX8_isFree_11 (by decide) ?_
    refine aw_zret rfl dX8_isFree_12 rfl (ble' rfl) (ble' rfl) ?_
    exact pj_i (bI_f (by rw [frC_out ht htl (Or.inl c1)]; decide)).symm hK
  · have n1 := Int32.not_lt.mp c1
    refine aw_iload_n dX8_isFree_4 rfl ?_
    refine aw_sipush (v := 998) dX8_isFree_5 (by decide) ?_
    refine aw_icmp_le 13 dX8_isFree_8 (by decide) (fun c8 => ?_) (fun c8 => ?_)
    · have n8 := Int32.not_lt.mpr c8
      obtain ⟨k, hk2, he⟩ := nI_of c1
      have hk9 : k < 999 := by have := le_of_le (b := 998) he (show (998 : Int32) = nI 998 from rfl) hk2 (by decide) c8; omega
      refine aw_aload_n dX8_isFree_13 rfl ?_
      refine aw_get fl_X8_9 dX8_isFree_14 e_56 (l_56 hn) rfl ?_
      refine aw_iload_n dX8_isFree_17 rfl ?_
      refine aw_ialdk dX8_isFree_18 e_57 (l_57 hn) he hk9 rfl ?_
      refine aw_if_ne 79 dX8_isFree_19 (by decide) (fun c19 => ?_) (fun c19 => ?_)
      · refine aw_aload_n dX8_isFree_79 rfl ?_
        refine aw_get fl_X8_9 dX8_isFree_80 e_56 (l_56 hn) rfl ?_
        refine aw_iload_n dX8_isFree_83 rfl ?_
        refine aw_ialdk dX8_isFree_84 e_57 (l_57 hn) he hk9 rfl ?_
        refine aw_iconst (v := 1) dX8_isFree_85 (by decide) ?_
        refine aw_icmp_ne 93 dX8_isFree_86 (by decide) (fun c86 => ?_) (fun c86 => ?_)
        · refine aw_iconst (v := 0) dX8_isFree_93 (by decide) ?_
          refine aw_zret rfl dX8_isFree_94 rfl (ble' rfl) (ble' rfl) ?_
          have q19 : ¬ r k = 0 := c19
          have q86 : ¬ r k = 1 := c86
          rcases hK k hk9 with q | ⟨q, w⟩ | ⟨q, w⟩
          · exact absurd q q19
          · exact absurd q q86
          exact pj_i (bI_f (by rw [he, w]; decide)).symm hK
        · refine aw_iconst (v := 1) dX8_isFree_89 (by decide) ?_
          refine aw_goto 94 dX8_isFree_90 (by decide) ?_
          refine aw_zret rfl dX8_isFree_94 rfl (ble' rfl) (ble' rfl) ?_
          have q19 : ¬ r k = 0 := c19
          have q86 : r k = 1 := c86
          rcases hK k hk9 with q | ⟨q, w⟩ | ⟨q, w⟩
          · exact absurd q q19
          · exact pj_i (bI_t (by rw [he]; exact w)).symm hK
          rw [q] at q86; exact absurd q86 (by decide)
      · refine aw_aload_n dX8_isFree_22 rfl ?_
        refine aw_get fl_X8_19 dX8_isFree_23 e_56 (l_56 hn) rfl ?_
        refine aw_aload_n dX8_isFree_26 rfl ?_
        refine aw_get fl_X8_15 dX8_isFree_27 e_56 (l_56 hn) rfl ?_
        refine aw_iload_n dX8_isFree_30 rfl ?_
        refine ap_callVi kv_X8_29 ko_X1_releasedOn (j_rel hn r hc hcl hk hkc hs hsl hb hbl hz hzl rfl ht htl _) dX8_isFree_31 e_1 (l_1 hn) rfl rfl rfl rfl (ble' rfl) (by decide) ?_
        refine aw_istore_n (lo' := [_, _, some (.int _), _]) dX8_isFree_34 (by decide) rfl ?_
        refine aw_iload_n dX8_isFree_35 rfl ?_
        refine aw_if_le 62 dX8_isFree_36 (by decide) (fun c36 => ?_) (fun c36 => ?_)
        · have n36 := Int32.not_lt.mpr c36
          refine aw_iconst (v := 0) dX8_isFree_62 (by decide) ?_
          refine aw_istore_n (lo' := [_, _, _, some (.int _)]) dX8_isFree_63 (by decide) rfl ?_
          refine aw_aload_n dX8_isFree_64 rfl ?_
          refine aw_get fl_X8_9 dX8_isFree_65 e_56 (l_56 hn) rfl ?_
          refine aw_iload_n dX8_isFree_68 rfl ?_
          refine aw_iload_n dX8_isFree_69 rfl ?_
          refine aw_if_eq 77 dX8_isFree_70 (by decide) (fun _ => ?_) (fun q => absurd q (by decide))
          refine aw_iconst (v := 2) dX8_isFree_77 (by decide) ?_
          refine aw_iastk dX8_isFree_78 e_57 (l_57 hn) he hk9 rfl (hwa rfl) ?_
          rw [updM_2, updM_s]
          refine aw_aload_n dX8_isFree_79 rfl ?_
          refine aw_get fl_X8_9 dX8_isFree_80 e_56 (l_56 hn) rfl ?_
          refine aw_iload_n dX8_isFree_83 rfl ?_
          refine aw_ialdk dX8_isFree_84 e_57 (l_57 hn) he hk9 rfl ?_
          refine aw_iconst (v := 1) dX8_isFree_85 (by decide) ?_
          refine aw_icmp_ne 93 dX8_isFree_86 (by decide) (fun c86 => ?_) (fun c86 => ?_)
          · refine aw_iconst (v := 0) dX8_isFree_93 (by decide) ?_
            refine aw_zret rfl dX8_isFree_94 rfl (ble' rfl) (ble' rfl) ?_
            have hf : (frC M kc ns nb (M 56 2)) d = false := by simp [frC, c36, n36]
            exact pj_i (bI_f (by rw [hf]; decide)).symm (KN_put2 hK (by rw [← he]; exact hf))
          · refine aw_iconst (v := 1) dX8_isFree_89 (by decide) ?_
            refine aw_goto 94 dX8_isFree_90 (by decide) ?_
            refine aw_zret rfl dX8_isFree_94 rfl (ble' rfl) (ble' rfl) ?_
            exact absurd c86 (by simp [updM, upd])
        · have n36 := Int32.not_le.mp c36
          refine aw_iload_n dX8_isFree_39 rfl ?_
          refine aw_aload_n dX8_isFree_40 rfl ?_
          refine aw_get fl_X8_19 dX8_isFree_41 e_56 (l_56 hn) rfl ?_
          refine aw_get fl_X8_35 dX8_isFree_44 e_1 (l_1 hn) rfl ?_
          refine aw_aload_n dX8_isFree_47 rfl ?_
          refine aw_get fl_X8_15 dX8_isFree_48 e_56 (l_56 hn) rfl ?_
          refine aw_iload_n dX8_isFree_51 rfl ?_
          refine ap_callVi kv_X8_39 ko_X0_takenOn (j_tk hn r hc hcl hk hkc hs hsl hb hbl hz hzl rfl ht htl _) dX8_isFree_52 e_15 (l_15 hn) rfl rfl rfl rfl (ble' rfl) (by decide) ?_
          refine aw_icmp_le 62 dX8_isFree_55 (by decide) (fun c55 => ?_) (fun c55 => ?_)
          · have n55 := Int32.not_lt.mpr c55
            refine aw_iconst (v := 0) dX8_isFree_62 (by decide) ?_
            refine aw_istore_n (lo' := [_, _, _, some (.int _)]) dX8_isFree_63 (by decide) rfl ?_
            refine aw_aload_n dX8_isFree_64 rfl ?_
            refine aw_get fl_X8_9 dX8_isFree_65 e_56 (l_56 hn) rfl ?_
            refine aw_iload_n dX8_isFree_68 rfl ?_
            refine aw_iload_n dX8_isFree_69 rfl ?_
            refine aw_if_eq 77 dX8_isFree_70 (by decide) (fun _ => ?_) (fun q => absurd q (by decide))
            refine aw_iconst (v := 2) dX8_isFree_77 (by decide) ?_
            refine aw_iastk dX8_isFree_78 e_57 (l_57 hn) he hk9 rfl (hwa rfl) ?_
            rw [updM_2, updM_s]
            refine aw_aload_n dX8_isFree_79 rfl ?_
            refine aw_get fl_X8_9 dX8_isFree_80 e_56 (l_56 hn) rfl ?_
            refine aw_iload_n dX8_isFree_83 rfl ?_
            refine aw_ialdk dX8_isFree_84 e_57 (l_57 hn) he hk9 rfl ?_
            refine aw_iconst (v := 1) dX8_isFree_85 (by decide) ?_
            refine aw_icmp_ne 93 dX8_isFree_86 (by decide) (fun c86 => ?_) (fun c86 => ?_)
            · refine aw_iconst (v := 0) dX8_isFree_93 (by decide) ?_
              refine aw_zret rfl dX8_isFree_94 rfl (ble' rfl) (ble' rfl) ?_
              have hf : (frC M kc ns nb (M 56 2)) d = false := by simp [frC, c36, n36, c55, n55]
              exact pj_i (bI_f (by rw [hf]; decide)).symm (KN_put2 hK (by rw [← he]; exact hf))
            · refine aw_iconst (v := 1) dX8_isFree_89 (by decide) ?_
              refine aw_goto 94 dX8_isFree_90 (by decide) ?_
              refine aw_zret rfl dX8_isFree_94 rfl (ble' rfl) (ble' rfl) ?_
              exact absurd c86 (by simp [updM, upd])
          · have n55 := Int32.not_le.mp c55
            refine aw_iconst (v := 1) dX8_isFree_58 (by decide) ?_
            refine aw_goto 63 dX8_isFree_59 (by decide) ?_
            refine aw_istore_n (lo' := [_, _, _, some (.int _)]) dX8_isFree_63 (by decide) rfl ?_
            refine aw_aload_n dX8_isFree_64 rfl ?_
            refine aw_get fl_X8_9 dX8_isFree_65 e_56 (l_56 hn) rfl ?_
            refine aw_iload_n dX8_isFree_68 rfl ?_
            refine aw_iload_n dX8_isFree_69 rfl ?_
            refine aw_if_eq 77 dX8_isFree_70 (by decide) (fun q => absurd q (by decide)) (fun _ => ?_)
            refine aw_iconst (v := 1) dX8_isFree_73 (by decide) ?_
            refine aw_goto 78 dX8_isFree_74 (by decide) ?_
            refine aw_iastk dX8_isFree_78 e_57 (l_57 hn) he hk9 rfl (hwa rfl) ?_
            rw [updM_2, updM_s]
            refine aw_aload_n dX8_isFree_79 rfl ?_
            refine aw_get fl_X8_9 dX8_isFree_80 e_56 (l_56 hn) rfl ?_
            refine aw_iload_n dX8_isFree_83 rfl ?_
            refine aw_ialdk dX8_isFree_84 e_57 (l_57 hn) he hk9 rfl ?_
            refine aw_iconst (v := 1) dX8_isFree_85 (by decide) ?_
            refine aw_icmp_ne 93 dX8_isFree_86 (by decide) (fun c86 => ?_) (fun c86 => ?_)
            · refine aw_iconst (v := 0) dX8_isFree_93 (by decide) ?_
              refine aw_zret rfl dX8_isFree_94 rfl (ble' rfl) (ble' rfl) ?_
              exact absurd (by simp [updM, upd]) c86
            · refine aw_iconst (v := 1) dX8_isFree_89 (by decide) ?_
              refine aw_goto 94 dX8_isFree_90 (by decide) ?_
              refine aw_zret rfl dX8_isFree_94 rfl (ble' rfl) (ble' rfl) ?_
              have hf : (frC M kc ns nb (M 56 2)) d = true := by simp [frC, c36, n36, c55, n55]
              exact pj_i (bI_t hf).symm (KN_put1 hK (by rw [← he]; exact hf))
    · have n8 := Int32.not_le.mp c8
      refine aw_iconst (v := 0) dX8_isFree_11 (by decide) ?_
      refine aw_zret rfl dX8_isFree_12 rfl (ble' rfl) (ble' rfl) ?_
      exact pj_i (bI_f (by rw [frC_out ht htl (Or.inr n8)]; decide)).symm hK

set_option maxRecDepth 100000 in
set_option maxHeartbeats 4000000 in
theorem c_X8_leavesWindow {G : AG} {M : Nat → Nat → Int32} {n : Nat} (hn : 72 ≤ n) (r : Nat → Int32) {nc : Nat} (hc : M 2 3 = nI nc) (hcl : nc ≤ 4) {c : Int32} {kc : Nat} (hk : c = nI kc) (hkc : kc < nc) {ns : Nat} (hs : M 6 2 = nI ns) (hsl : ns ≤ 16) {nb : Nat} (hb : M 15 6 = nI nb) (hbl : nb ≤ 60) {nz : Nat} (hz : M 9 5 = nI nz) (hzl : nz ≤ 12) (hjc : M 56 2 = c) {t : Nat} (ht : M 1 5 = nI t) (htl : t ≤ 999) (a m : Int32) : AMet tX8_leavesWindow yX8_leavesWindow [Cond.code yX8_leavesWindow cX8_leavesWindow 4 (some .boolean)] [.ref 56, .int a, .int m] (wld G (updM M 57 r)) n (PD (.inl (some (.int (bI (lvC (M 1 5) (M 3 kc) a m))))) (wld G (updM M 57 r)) n) := by
  subst hjc
  refine am_of (lo := [_, _, _, _]) (by decide) rfl (fun q => by cases q) rfl rfl rfl ?_
  refine aw_iload_n dX8_leavesWindow_0 rfl ?_
  refine aw_aload_n dX8_leavesWindow_1 rfl ?_
  refine aw_get fl_X8_19 dX8_leavesWindow_2 e_56 (l_56 hn) rfl ?_
  refine aw_get fl_X8_44 dX8_leavesWindow_5 e_1 (l_1 hn) rfl ?_
  refine aw_icmp_lt 18 dX8_leavesWindow_8 (by decide) (fun c8 => ?_) (fun c8 => ?_)
  · have n8 := Int32.not_le.mpr c8
    refine aw_iconst (v := 1) dX8_leavesWindow_18 (by decide) ?_
    refine aw_zret rfl dX8_leavesWindow_19 rfl (ble' rfl) (ble' rfl) ?_
    exact pd_i (bI_t (Or.inl c8)).symm
  · have n8 := Int32.not_lt.mp c8
    refine aw_iload_n dX8_leavesWindow_11 rfl ?_
    refine aw_sipush (v := 998) dX8_leavesWindow_12 (by decide) ?_
    refine aw_icmp_le 20 dX8_leavesWindow_15 (by decide) (fun c15 => ?_) (fun c15 => ?_)
    · have n15 := Int32.not_lt.mpr c15
      refine aw_iload_n dX8_leavesWindow_20 rfl ?_
      refine aw_iload_n dX8_leavesWindow_21 rfl ?_
      refine aw_iadd dX8_leavesWindow_22 ?_
      refine aw_iconst (v := 1) dX8_leavesWindow_23 (by decide) ?_
      refine aw_isub dX8_leavesWindow_24 ?_
      refine aw_istore_n (lo' := [_, _, _, some (.int _)]) dX8_leavesWindow_25 (by decide) rfl ?_
      refine aw_iload_n dX8_leavesWindow_26 rfl ?_
      refine aw_sipush (v := 998) dX8_leavesWindow_27 (by decide) ?_
      refine aw_icmp_gt 59 dX8_leavesWindow_30 (by decide) (fun c30 => ?_) (fun c30 => ?_)
      · have n30 := Int32.not_le.mpr c30
        refine aw_iconst (v := 1) dX8_leavesWindow_59 (by decide) ?_
        refine aw_goto 64 dX8_leavesWindow_60 (by decide) ?_
        refine aw_zret rfl dX8_leavesWindow_64 rfl (ble' rfl) (ble' rfl) ?_
        exact pd_i (bI_t (Or.inr (Or.inr (Or.inl c30)))).symm
      · have n30 := Int32.not_lt.mp c30
        refine aw_iload_n dX8_leavesWindow_33 rfl ?_
        refine aw_aload_n dX8_leavesWindow_34 rfl ?_
        refine aw_get fl_X8_19 dX8_leavesWindow_35 e_56 (l_56 hn) rfl ?_
        refine aw_get fl_X8_44 dX8_leavesWindow_38 e_1 (l_1 hn) rfl ?_
        refine aw_isub dX8_leavesWindow_41 ?_
        refine aw_aload_n dX8_leavesWindow_42 rfl ?_
        refine aw_get fl_X8_19 dX8_leavesWindow_43 e_56 (l_56 hn) rfl ?_
        refine aw_get fl_X8_47 dX8_leavesWindow_46 e_1 (l_1 hn) rfl ?_
        refine aw_aload_n dX8_leavesWindow_49 rfl ?_
        refine aw_get fl_X8_15 dX8_leavesWindow_50 e_56 (l_56 hn) rfl ?_
        refine ap_callVi kv_X8_51 ko_X2_windowOf (j_win hn r hc hcl hk hkc hs hsl hb hbl hz hzl rfl ht htl) dX8_leavesWindow_53 e_2 (l_2 hn) rfl rfl rfl rfl (ble' rfl) (by decide) ?_
        refine aw_icmp_le 63 dX8_leavesWindow_56 (by decide) (fun c56 => ?_) (fun c56 => ?_)
        · have n56 := Int32.not_lt.mpr c56
          refine aw_iconst (v := 0) dX8_leavesWindow_63 (by decide) ?_
          refine aw_zret rfl dX8_leavesWindow_64 rfl (ble' rfl) (ble' rfl) ?_
          exact pd_i (bI_f (by rintro (q | q | q | q); exact c8 q; exact n15 q; exact c30 q; exact n56 q)).symm
        · have n56 := Int32.not_le.mp c56
          refine aw_iconst (v := 1) dX8_leavesWindow_59 (by decide) ?_
          refine aw_goto 64 dX8_leavesWindow_60 (by decide) ?_
          refine aw_zret rfl dX8_leavesWindow_64 rfl (ble' rfl) (ble' rfl) ?_
          exact pd_i (bI_t (Or.inr (Or.inr (Or.inr n56)))).symm
    · have n15 := Int32.not_le.mp c15
      refine aw_iconst (v := 1) dX8_leavesWindow_18 (by decide) ?_
      refine aw_zret rfl dX8_leavesWindow_19 rfl (ble' rfl) (ble' rfl) ?_
      exact pd_i (bI_t (Or.inr (Or.inl n15))).symm
