/-- a request granted -/
def grR (M : Nat → Nat → Int32) (c : Int32) (k : Nat) : Nat → Nat → Int32 := w64 (w64 (appendBookingM M (nbR M) c (V M 24 k) (V M 25 k) (prR M c (V M 24 k) (V M 25 k))) (472 + 5 * k + 3) 1) (472 + 5 * k + 4) (nI (nbR M))
def flR (c : Int32) : Nat → (Nat → Nat → Int32) → Option (Nat × (Nat → Nat → Int32))
  | 0, _ => none
  | f + 1, M => if rqR M c = -1 ∨ 60 ≤ M 64 4 then some (0, M) else (flR c f (grR M c (rqR M c).toNatClampNeg)).map (fun x => (x.1 + 1, x.2))
theorem grR_c {M : Nat → Nat → Int32} {c : Int32} {k p : Nat} (hp : p < 8) (h4 : p ≠ 4) : grR M c k 64 p = M 64 p := by
  unfold grR appendBookingM
  rw [w64_at (by omega), w64_at (by omega), w64_at (by omega), w64_at (by omega), w64_at (by omega), w64_at (by omega), w64_at (by omega), w64_at (by omega), w64_at (by omega)]
theorem grR_4 {M : Nat → Nat → Int32} {c : Int32} {k : Nat} : grR M c k 64 4 = nI (nbR M + 1) := by
  unfold grR appendBookingM
  rw [w64_at (by omega), w64_at (by omega), w64_s]
theorem grR_63 {M : Nat → Nat → Int32} {c : Int32} {k : Nat} : grR M c k 63 = M 63 := by
  unfold grR appendBookingM
  rw [w64_63, w64_63, w64_63, w64_63, w64_63, w64_63, w64_63, w64_63, w64_63]
theorem grR_V24 {M : Nat → Nat → Int32} {c : Int32} {k : Nat} (hk : k < 20) (hb : nbR M < 60) : V (grR M c k) 24 = V M 24 := by
  unfold grR appendBookingM
  rw [vw_472_24 hk (by decide), if_neg (by decide), vw_472_24 hk (by decide), if_neg (by decide), vw_0_24 (by decide), vw_112_24 hb (by decide), vw_112_24 hb (by decide), vw_112_24 hb (by decide), vw_112_24 hb (by decide), vw_112_24 hb (by decide), vw_112_24 hb (by decide)]
theorem grR_V25 {M : Nat → Nat → Int32} {c : Int32} {k : Nat} (hk : k < 20) (hb : nbR M < 60) : V (grR M c k) 25 = V M 25 := by
  unfold grR appendBookingM
  rw [vw_472_25 hk (by decide), if_neg (by decide), vw_472_25 hk (by decide), if_neg (by decide), vw_0_25 (by decide), vw_112_25 hb (by decide), vw_112_25 hb (by decide), vw_112_25 hb (by decide), vw_112_25 hb (by decide), vw_112_25 hb (by decide), vw_112_25 hb (by decide)]
theorem rqN_eq {A B : Nat → Nat → Int32} (h : A 64 = B 64) : rqN A = rqN B := by
  funext a b c d e
  unfold rqN
  rw [show rqOkR A a b c d e = rqOkR B a b c d e from by funext k; unfold rqOkR; rw [V_eq h, osV_eq h], V_eq h]
theorem rqR_eq {A B : Nat → Nat → Int32} (h : A 64 = B 64) : rqR A = rqR B := by funext c; unfold rqR; rw [rqN_eq h, nsR_eq h, nbR_eq h, nzR_eq h, nrR_eq h]
theorem rs_gr {A B : Nat → Nat → Int32} (h : RS A B) {c : Int32} {k : Nat} : RS (grR A c k) (grR B c k) := by
  have e : A 64 = B 64 := (h.1 64 (by decide) (by decide) (by decide)).symm
  unfold grR appendBookingM
  rw [V_eq e, nbR_eq e, prR_eq e]
  exact rs_w (rs_w (rs_w (rs_w (rs_w (rs_w (rs_w (rs_w (rs_w h))))))))
theorem rs_fl {c : Int32} : ∀ (f : Nat) {A B : Nat → Nat → Int32} {r : Nat × (Nat → Nat → Int32)}, RS A B → flR c f A = some r → ∃ C, flR c f B = some (r.1, C) ∧ RS r.2 C
  | 0, _, _, _, _, h2 => by cases h2
  | f + 1, A, B, r, h, h2 => by
    have e : A 64 = B 64 := (h.1 64 (by decide) (by decide) (by decide)).symm
    unfold flR at h2 ⊢
    rw [e, rqR_eq e] at h2
    by_cases q : rqR B c = -1 ∨ 60 ≤ B 64 4
    · rw [if_pos q] at h2 ⊢
      cases h2
      exact ⟨B, rfl, h⟩
    · rw [if_neg q] at h2 ⊢
      cases h3 : flR c f (grR A c (rqR B c).toNatClampNeg) with
      | none => rw [h3] at h2; cases h2
      | some r2 =>
        rw [h3] at h2
        cases h2
        obtain ⟨C, hC1, hC2⟩ := rs_fl f (rs_gr h) h3
        exact ⟨C, by rw [hC1]; rfl, hC2⟩
theorem fl_63 {c : Int32} : ∀ (f : Nat) {A : Nat → Nat → Int32} {r : Nat × (Nat → Nat → Int32)}, flR c f A = some r → r.2 63 = A 63
  | 0, _, _, h2 => by cases h2
  | f + 1, A, r, h2 => by
    unfold flR at h2
    by_cases q : rqR A c = -1 ∨ 60 ≤ A 64 4
    · rw [if_pos q] at h2
      cases h2
      rfl
    · rw [if_neg q] at h2
      cases h3 : flR c f (grR A c (rqR A c).toNatClampNeg) with
      | none => rw [h3] at h2; cases h2
      | some r2 =>
        rw [h3] at h2
        cases h2
        exact (fl_63 f h3).trans grR_63
set_option maxRecDepth 100000 in
set_option maxHeartbeats 4000000 in
theorem lp_X10_fill {G : AG} {n : Nat} (hn : 72 ≤ n) {ns nz nr tt : Nat} (hsl : ns ≤ 16) (hzl : nz ≤ 12) (hrl : nr ≤ 20) (htl : tt ≤ 999) {c : Int32} {kc : Nat} (hk : c = nI kc) (hkc : kc < 4) {Po : APost} : ∀ (f : Nat) {M : Nat → Nat → Int32} {nb : Nat} (hs : M 64 2 = nI ns) (hb : M 64 4 = nI nb) (hbl : nb ≤ 60) (hz : M 64 3 = nI nz) (hr : M 64 5 = nI nr) (ht : M 64 0 = nI tt) (hQ : RQV M nr) (x2 x3 : Int32) (gn : Nat) {r : Nat × (Nat → Nat → Int32)}, flR c f M = some r → x2 = nI gn → x3 = rqN M ns nb nz kc c nr → (∀ v h, v = nI (gn + r.1) → h = wld G r.2 → Po (.inl (some (.int v))) h n) →  AW tX10_fill (AQm tX10_fill (Po)) C0 27 [some (.ref 63), some (.int c), some (.int x2), some (.int x3), none] [] (wld G M) n 0 0 := by
  intro f
  induction f with
  | zero => intro M nb hs hb hbl hz hr ht hQ x2 x3 gn r hf; cases hf
  | succ f ih =>
    intro M nb hs hb hbl hz hr ht hQ x2 x3 gn r hf h2 h3 hR
    have ens : nsR M = ns := cl_of hs (by omega)
    have enb : nbR M = nb := cl_of hb (by omega)
    have enz : nzR M = nz := cl_of hz (by omega)
    have enr : nrR M = nr := cl_of hr (by omega)
    refine aw_iload_n dX10_fill_27 rfl ?_
    refine aw_iconst (v := -1) dX10_fill_28 (by decide) ?_
    refine aw_icmp_eq 89 dX10_fill_29 (by decide) (fun c29 => ?_) (fun c29 => ?_)
    · refine aw_iload_n dX10_fill_89 rfl ?_
      refine aw_iret rfl dX10_fill_90 (ble' rfl) (ble' rfl) ?_
      have hst : rqR M c = -1 ∨ 60 ≤ M 64 4 := Or.inl (by unfold rqR; rw [ens, enb, enz, enr, cl_of hk (by omega), ← h3]; exact c29)
      unfold flR at hf
      rw [if_pos hst] at hf
      cases hf
      exact hR _ _ h2 rfl
    · refine aw_aload_n dX10_fill_32 rfl ?_
      refine aw_get fl_X10_7 dX10_fill_33 e_63 (l_63 hn) rfl ?_
      refine aw_iconst (v := 4) dX10_fill_36 (by decide) ?_
      refine aw_ialdk dX10_fill_37 e_64 (l_64 hn) (show (4 : Int32) = nI 4 from rfl) (by decide) rfl ?_
      refine aw_bipush (v := 60) dX10_fill_38 (by decide) ?_
      refine aw_icmp_ge 89 dX10_fill_40 (by decide) (fun c40 => ?_) (fun c40 => ?_)
      · have n40 := Int32.not_lt.mpr c40
        refine aw_iload_n dX10_fill_89 rfl ?_
        refine aw_iret rfl dX10_fill_90 (ble' rfl) (ble' rfl) ?_
        have hst : rqR M c = -1 ∨ 60 ≤ M 64 4 := Or.inr c40
        unfold flR at hf
        rw [if_pos hst] at hf
        cases hf
        exact hR _ _ h2 rfl
      · have n40 := Int32.not_le.mp c40
        obtain ⟨kr, hkr, hx3, hok⟩ : ∃ k, k < nr ∧ x3 = nI k ∧ rqOkR M ns nb nz kc c k = true := by rw [h3]; exact (best_in _ _ nr).resolve_left (fun q => c29 (h3.trans q))
        simp only [rqOkR, decide_eq_true_eq] at hok
        obtain ⟨ra, mm, ha9, hm1, hm9, hra, hm⟩ := hQ kr hkr
        have hno := os0_lv hok.2.2
        obtain ⟨x, hxa, hx1, hx2⟩ := lv_natR ht htl hm hm1 hm9 (fun q => hno (Or.inl q)) (fun q => hno (Or.inr (Or.inl q)))
        have hb60 : nb < 60 := lt_of_nle (show (60 : Int32) = nI 60 from rfl) hb (by decide) (by omega) c40
        refine aw_aload_n dX10_fill_43 rfl ?_
        refine aw_iload_n dX10_fill_44 rfl ?_
        refine aw_aload_n dX10_fill_45 rfl ?_
        refine aw_iload_n dX10_fill_46 rfl ?_
        refine aw_iconst (v := 1) dX10_fill_47 (by decide) ?_
        refine ap_callVi kv_X10_156 ko_X10_requestField (c_X10_requestField_1 hn hx3 (by omega)) dX10_fill_48 e_63 (l_63 hn) rfl rfl rfl rfl (ble' rfl) (by decide) ?_
        refine aw_aload_n dX10_fill_51 rfl ?_
        refine aw_iload_n dX10_fill_52 rfl ?_
        refine aw_iconst (v := 2) dX10_fill_53 (by decide) ?_
        refine ap_callVi kv_X10_156 ko_X10_requestField (c_X10_requestField_2 hn hx3 (by omega)) dX10_fill_54 e_63 (l_63 hn) rfl rfl rfl rfl (ble' rfl) (by decide) ?_
        refine ap_callVi kv_X10_138 ko_X10_appendBooking (c_X10_appendBooking hn hb hb60 hz hzl hxa hm (by omega)) dX10_fill_57 e_63 (l_63 hn) rfl rfl rfl rfl (ble' rfl) (by decide) ?_
        refine aw_istore (lo' := [_, _, _, _, some (.int _)]) dX10_fill_60 (by decide) rfl ?_
        refine aw_aload_n dX10_fill_62 rfl ?_
        refine aw_iload_n dX10_fill_63 rfl ?_
        refine aw_iconst (v := 3) dX10_fill_64 (by decide) ?_
        refine aw_iconst (v := 1) dX10_fill_65 (by decide) ?_
        refine ap_callVv kv_X10_159 ko_X10_setRequest (c_X10_setRequest hn hx3 (by omega) (show (3 : Int32) = nI 3 from rfl) (by decide) _) dX10_fill_66 e_63 (l_63 hn) rfl rfl rfl rfl (ble' rfl) (by decide) ?_
        refine aw_aload_n dX10_fill_69 rfl ?_
        refine aw_iload_n dX10_fill_70 rfl ?_
        refine aw_iconst (v := 4) dX10_fill_71 (by decide) ?_
        refine aw_iload dX10_fill_72 rfl ?_
        refine ap_callVv kv_X10_159 ko_X10_setRequest (c_X10_setRequest hn hx3 (by omega) (show (4 : Int32) = nI 4 from rfl) (by decide) _) dX10_fill_74 e_63 (l_63 hn) rfl rfl rfl rfl (ble' rfl) (by decide) ?_
        refine aw_heq (h' := wld G (grR M c kr)) (by unfold grR prR; rw [enb, enz, cl_of hxa (by omega), cl_of hm (by omega)]) ?_
        have hs2 : grR M c kr 64 2 = nI ns := (grR_c (by decide) (by decide)).trans hs
        have hb2 : grR M c kr 64 4 = nI (nb + 1) := grR_4.trans (by rw [enb])
        have hz2 : grR M c kr 64 3 = nI nz := (grR_c (by decide) (by decide)).trans hz
        have hr2 : grR M c kr 64 5 = nI nr := (grR_c (by decide) (by decide)).trans hr
        have ht2 : grR M c kr 64 0 = nI tt := (grR_c (by decide) (by decide)).trans ht
        have hQ2 : RQV (grR M c kr) nr := by unfold RQV; rw [grR_V24 (by omega) (by omega), grR_V25 (by omega) (by omega)]; exact hQ
        have hrq : rqR M c = nI kr := by unfold rqR; rw [ens, enb, enz, enr, cl_of hk (by omega), ← h3]; exact hx3
        have hns : ¬ (rqR M c = -1 ∨ 60 ≤ M 64 4) := fun q => q.elim (fun q => c29 (hx3.trans (hrq.symm.trans q))) c40
        have hf2 := hf
        unfold flR at hf2
        rw [if_neg hns, hrq, cl_of (rfl : nI kr = nI kr) (by omega)] at hf2
        generalize grR M c kr = M2 at hs2 hb2 hz2 hr2 ht2 hQ2 hf2 ⊢
        refine aw_iinc (lo' := [_, _, some (.int _), _, _]) dX10_fill_77 rfl (by decide) rfl ?_
        refine aw_aload_n dX10_fill_80 rfl ?_
        refine aw_iload_n dX10_fill_81 rfl ?_
        refine ap_callVi kv_X10_177 ko_X10_nextRequest (c_X10_nextRequest (M := M2) hn hs2 hsl hb2 (by omega) hz2 hzl hr2 hrl ht2 htl hk hkc hQ2) dX10_fill_82 e_63 (l_63 hn) rfl rfl rfl rfl (ble' rfl) (by decide) ?_
        refine aw_istore_n (lo' := [_, _, _, some (.int _), _]) dX10_fill_85 (by decide) rfl ?_
        refine aw_goto 27 dX10_fill_86 (by decide) ?_
        refine aw_lo2 (lo' := [some (.ref 63), some (.int c), some (.int _), some (.int _), none]) ⟨rfl, rfl, rfl, rfl, trivial⟩ ?_
        cases hf3 : flR c f M2 with
        | none => rw [hf3] at hf2; cases hf2
        | some r2 =>
          rw [hf3] at hf2
          cases hf2
          exact ih (M := M2) (nb := nb + 1) hs2 hb2 (by omega) hz2 hr2 ht2 hQ2 _ _ (gn + 1) hf3 (by rw [h2]; exact inc1 _) rfl (fun v h q1 q2 => hR v h (by rw [q1, show gn + 1 + r2.1 = gn + (r2.1 + 1) by omega]) q2)

def cr_fill (M : Nat → Nat → Int32) (c : Int32) : Nat := if ¬ (0 ≤ c ∧ c ≤ M 64 1 - 1) then 1 else 0
set_option maxRecDepth 100000 in
set_option maxHeartbeats 4000000 in
theorem c_X10_fill {G : AG} {M : Nat → Nat → Int32} {n : Nat} (hn : 72 ≤ n) {nc ns nz nb nr tt : Nat} (hI : CR M nc ns nz nb nr tt) (hQ : RQV M nr) {f : Nat} {r : Nat × (Nat → Nat → Int32)} (c : Int32) (hf : cr_fill M c = 0 → flR c f M = some r) : AMet tX10_fill yX10_fill [Cond.code yX10_fill cX10_fill 5 (some .int)] [.ref 63, .int c] (wld G M) n (PR (cr_fill M c) (nI r.1) G M r.2 n) := by
  refine am_of (lo := [_, _, _, _, _]) (by decide) rfl (fun q => by cases q) rfl rfl rfl ?_
  refine aw_aload_n dX10_fill_0 rfl ?_
  refine aw_iconst (v := 0) dX10_fill_1 (by decide) ?_
  refine aw_put fp_X10_36_m dX10_fill_2 e_63 (l_63 hn) (ble' rfl) (fun _ => ⟨rfl, rfl⟩) (hwf rfl) ?_
  obtain ⟨M', e64, e63, eRS, e4, eW⟩ : ∃ M', M 64 = M' 64 ∧ (∀ j, j ≠ 4 → M 63 j = M' 63 j) ∧ RS M M' ∧ M' 63 4 = 0 ∧ wld G (updM M 63 (upd (M 63) 4 0)) = wld G M' := ⟨_, rfl, fun j h => (if_neg h).symm, rs_1, rfl, rfl⟩
  refine aw_heq eW ?_
  rw [show cr_fill M c = cr_fill M' c from by unfold cr_fill; simp only [e64, V_eq e64, rlV_eq e64, avV_eq e64, frR_eq e64, onV_eq e64, mnV_eq e64, osV_eq e64, vaV_eq e64, nsR_eq e64, nbR_eq e64, nzR_eq e64, nrR_eq e64]]
  have hI' : CR M' nc ns nz nb nr tt := by unfold CR at hI ⊢; rw [← e64]; exact hI
  clear hI eW
  obtain ⟨hc, hcl, hs, hsl, hz, hzl, hb, hbl, hr, hrl, ht, htl⟩ := id hI'
  have ens : nsR M' = ns := cl_of hs (by omega)
  have enb : nbR M' = nb := cl_of hb (by omega)
  have enz : nzR M' = nz := cl_of hz (by omega)
  have enr : nrR M' = nr := cl_of hr (by omega)
  refine aw_aload_n dX10_fill_5 rfl ?_
  refine aw_iload_n dX10_fill_6 rfl ?_
  refine ap_callVi kv_X10_51 ko_X10_isClass (c_X10_isClass hn _) dX10_fill_7 e_63 (l_63 hn) rfl rfl rfl rfl (ble' rfl) (by decide) ?_
  refine aw_if_ne 19 dX10_fill_10 (by decide) (fun c10 => ?_) (fun c10 => ?_)
  · have n10 := bI_nz.mp c10
    obtain ⟨kc, hkc, hk⟩ := cls_of hc (by omega) n10
    have hQ' : RQV M' nr := by unfold RQV; rw [← V_eq e64]; exact hQ
    obtain ⟨C, hC1, hC2⟩ := rs_fl f eRS (hf (by rw [show cr_fill M c = cr_fill M' c from by unfold cr_fill; simp only [e64]]; exact (by rw [cr_fill, if_neg (fun q => q n10)])))
    refine aw_iconst (v := 0) dX10_fill_19 (by decide) ?_
    refine aw_istore_n (lo' := [_, _, some (.int _), _, _]) dX10_fill_20 (by decide) rfl ?_
    refine aw_aload_n dX10_fill_21 rfl ?_
    refine aw_iload_n dX10_fill_22 rfl ?_
    refine ap_callVi kv_X10_177 ko_X10_nextRequest (c_X10_nextRequest hn hs hsl hb hbl hz hzl hr hrl ht htl hk (by omega) hQ') dX10_fill_23 e_63 (l_63 hn) rfl rfl rfl rfl (ble' rfl) (by decide) ?_
    refine aw_istore_n (lo' := [_, _, _, some (.int _), _]) dX10_fill_26 (by decide) rfl ?_
    refine aw_lo2 (lo' := [some (.ref 63), some (.int c), some (.int _), some (.int _), none]) ⟨rfl, rfl, rfl, rfl, trivial⟩ ?_
    exact lp_X10_fill hn hsl hzl hrl htl hk (by omega) f hs hb hbl hz hr ht hQ' _ _ 0 hC1 rfl rfl (fun v h q1 q2 => by rw [q2]; exact pr_ok (by rw [cr_fill, if_neg (fun q => q n10)]) (by rw [q1, Nat.zero_add]) hC2 (by rw [fl_63 f hC1]; exact e4))
  · have n10 := bI_z.mp c10
    refine aw_aload_n dX10_fill_13 rfl ?_
    refine aw_iconst (v := 1) dX10_fill_14 (by decide) ?_
    refine ap_callVi kv_X10_43 ko_X10_fail (c_X10_fail hn _) dX10_fill_15 e_63 (l_63 hn) rfl rfl rfl rfl (ble' rfl) (by decide) ?_
    refine aw_iret rfl dX10_fill_18 (ble' rfl) (ble' rfl) ?_
    exact pr_no (k := 0) (by rw [cr_fill, if_pos n10]) (rs_tr eRS rs_1) rfl
