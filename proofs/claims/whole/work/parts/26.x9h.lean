/-- what lies below row 56 decides -/
def tr (M : Nat → Nat → Int32) : Nat → Nat → Int32 := fun i => if i < 56 then M i else fun _ => 0
theorem tr_seq {M M' : Nat → Nat → Int32} (h : SEq M M') : tr M = tr M' := by
  funext i; unfold tr; split
  · exact h i (by unfold scr; omega)
  · rfl
theorem cg {α : Sort _} (f : (Nat → Nat → Int32) → α) (hf : ∀ M, f M = f (tr M)) {M M' : Nat → Nat → Int32} (h : SEq M M') : f M = f M' := by rw [hf M, hf M', tr_seq h]
theorem seq_tr {A B C : Nat → Nat → Int32} (h : SEq A B) (h2 : SEq B C) : SEq A C := fun i hi => (h i hi).trans (h2 i hi)
theorem seq_sy {A B : Nat → Nat → Int32} (h : SEq A B) : SEq B A := fun i hi => (h i hi).symm
/-- the request that is booked next -/
def rqOk (M : Nat → Nat → Int32) (ns nb nz : Nat) (c : Int32) (k : Nat) : Bool := decide (M 26 k = 0 ∧ M 23 k = c ∧ obsC M ns nb nz c (M 24 k) (M 25 k) = 0)
def rqBt (ar ni : Nat → Int32) (k b : Nat) : Bool := decide (if ni k = ni b then ar k < ar b else ni b < ni k)
def BRQ (M : Nat → Nat → Int32) (ns nb nz nr : Nat) (c : Int32) : Int32 := bestN (rqOk M ns nb nz c) (rqBt (M 24) (M 25)) nr
def bkReqM (M : Nat → Nat → Int32) (k : Nat) : Nat → Nat → Int32 := bkReq M k (nbM M) (M 24 k).toNatClampNeg (M 25 k).toNatClampNeg (psum (prM M (nzM M) (M 23 k)) (M 24 k).toNatClampNeg (M 25 k).toNatClampNeg)
def flM (c : Int32) : Nat → (Nat → Nat → Int32) → Nat × (Nat → Nat → Int32)
  | 0, M => (0, M)
  | f + 1, M => if 60 ≤ M 15 6 then (0, M) else if BRQ M (nsM M) (nbM M) (nzM M) (nrM M) c = -1 then (0, M) else ((flM c f (bkReqM M (BRQ M (nsM M) (nbM M) (nzM M) (nrM M) c).toNatClampNeg)).1 + 1, (flM c f (bkReqM M (BRQ M (nsM M) (nbM M) (nzM M) (nrM M) c).toNatClampNeg)).2)
theorem bkReq_seq {A B : Nat → Nat → Int32} (h : SEq A B) (k nb a m : Nat) (p : Int32) : SEq (bkReq A k nb a m p) (bkReq B k nb a m p) := by
  intro i hi
  have e := h i hi
  have e15 := h 15 (by unfold scr; omega)
  have e16 := h 16 (by unfold scr; omega)
  have e17 := h 17 (by unfold scr; omega)
  have e18 := h 18 (by unfold scr; omega)
  have e19 := h 19 (by unfold scr; omega)
  have e20 := h 20 (by unfold scr; omega)
  have e21 := h 21 (by unfold scr; omega)
  have e23 := h 23 (by unfold scr; omega)
  have e26 := h 26 (by unfold scr; omega)
  have e27 := h 27 (by unfold scr; omega)
  simp only [bkReq, addB, updM, e, e15, e16, e17, e18, e19, e20, e21, e23, e26, e27]
theorem bkReqM_seq {A B : Nat → Nat → Int32} (h : SEq A B) (k : Nat) : SEq (bkReqM A k) (bkReqM B k) := by
  have e : ∀ M : Nat → Nat → Int32, bkReqM M k = bkReq M k (nbM M) (M 24 k).toNatClampNeg (M 25 k).toNatClampNeg (psum (prM M (nzM M) (M 23 k)) (M 24 k).toNatClampNeg (M 25 k).toNatClampNeg) := fun _ => rfl
  rw [e A, e B]
  have e1 := cg (fun M => (nbM M, (M 24 k).toNatClampNeg, (M 25 k).toNatClampNeg, psum (prM M (nzM M) (M 23 k)) (M 24 k).toNatClampNeg (M 25 k).toNatClampNeg)) (fun _ => rfl) h
  simp only [Prod.mk.injEq] at e1
  rw [e1.2.2.2, e1.1, e1.2.1, e1.2.2.1]
  exact bkReq_seq h k _ _ _ _
theorem flM_seq {c : Int32} : ∀ (f : Nat) {A B : Nat → Nat → Int32}, SEq A B → (flM c f A).1 = (flM c f B).1 ∧ SEq (flM c f A).2 (flM c f B).2
  | 0, _, _, h => ⟨rfl, h⟩
  | f + 1, A, B, h => by
    have e1 := cg (fun M => M 15 6) (fun _ => rfl) h
    have e2 := cg (fun M => BRQ M (nsM M) (nbM M) (nzM M) (nrM M) c) (fun _ => rfl) h

    unfold flM
    rw [e1, e2]
    split
    · exact ⟨rfl, h⟩
    · split
      · exact ⟨rfl, h⟩
      · have := flM_seq (c := c) f (bkReqM_seq h (BRQ B (nsM B) (nbM B) (nzM B) (nrM B) c).toNatClampNeg)
        exact ⟨by rw [this.1], this.2⟩
/-- requests as they should be -/
def RQI (M : Nat → Nat → Int32) (nr : Nat) : Prop := ∀ k, k < nr → ∃ a m : Nat, a ≤ 998 ∧ m ≤ 28 ∧ M 24 k = nI a ∧ M 25 k = nI m
set_option maxRecDepth 100000 in
set_option maxHeartbeats 4000000 in
theorem lp_X9_bestRequest {G : AG} {M : Nat → Nat → Int32} {n : Nat} (hn : 72 ≤ n) {nc ns nz nb nr t : Nat} (hI : CI M nc ns nz nb nr t) (hQ : RQI M nr) {c : Int32} {kc : Nat} (hk : c = nI kc) (hkc : kc < nc) : ∀ (j k : Nat) (x3 x4 : Int32) (r : Nat → Int32), nr - k < j → k ≤ nr → x4 = nI k → x3 = (bestN (rqOk M ns nb nz c) (rqBt (M 24) (M 25)) k) → KN (frM M ns nb c) r →  AW tX9_bestRequest (AQm tX9_bestRequest (PJ (BRQ M ns nb nz nr c) G (jM M c) n (fun _ => True))) C0 21 [some (.ref 0), some (.int c), some (.ref 22), some (.int x3), some (.int x4)] [] (wld G (updM (jM M c) 57 r)) n 0 0 := by
  intro j
  induction j with
  | zero => intro k x3 x4 r h1; omega
  | succ j ih =>
    intro k x3 x4 r h1 hk9 h4 h3 hK
    obtain ⟨hc, hcl, hs, hsl, hz, hzl, hb, hbl, hr, hrl, ht, htl⟩ := id hI
    refine aw_iload dX9_bestRequest_21 rfl ?_
    refine aw_aload_n dX9_bestRequest_23 rfl ?_
    refine aw_get fl_X9_232 dX9_bestRequest_24 e_22 (l_22 hn) rfl ?_
    refine aw_icmp_ge 105 dX9_bestRequest_27 (by decide) (fun c27 => ?_) (fun c27 => ?_)
    · have n27 := Int32.not_lt.mpr c27
      refine aw_iload_n dX9_bestRequest_105 rfl ?_
      refine aw_iret rfl dX9_bestRequest_106 (ble' rfl) (ble' rfl) ?_
      have hke : k = nr := Nat.le_antisymm hk9 (le_of_le hr h4 (by omega) (by omega) c27)
      exact pj_i (by rw [h3, hke]; rfl) trivial
    · have n27 := Int32.not_le.mp c27
      have hlt : k < nr := lt_of_nle hr h4 (by omega) (by omega) c27
      refine aw_aload_n dX9_bestRequest_30 rfl ?_
      refine aw_get fl_X9_241 dX9_bestRequest_31 e_22 (l_22 hn) rfl ?_
      refine aw_iload dX9_bestRequest_34 rfl ?_
      refine aw_ialdk dX9_bestRequest_36 e_26 (l_26 hn) h4 (by omega) rfl ?_
      refine aw_if_ne 99 dX9_bestRequest_37 (by decide) (fun c37 => ?_) (fun c37 => ?_)
      · refine aw_iinc (lo' := [_, _, _, _, some (.int _)]) dX9_bestRequest_99 rfl (by decide) rfl ?_
        refine aw_goto 21 dX9_bestRequest_102 (by decide) ?_
        exact ih (k + 1) _ _ r (by omega) (by omega) (by rw [h4]; exact inc1 k) (by rw [h3, best_n (by simp only [rqOk, decide_eq_false_iff_not]; exact fun q => c37 q.1)]) hK
      · refine aw_aload_n dX9_bestRequest_40 rfl ?_
        refine aw_get fl_X9_318 dX9_bestRequest_41 e_22 (l_22 hn) rfl ?_
        refine aw_iload dX9_bestRequest_44 rfl ?_
        refine aw_ialdk dX9_bestRequest_46 e_23 (l_23 hn) h4 (by omega) rfl ?_
        refine aw_iload_n dX9_bestRequest_47 rfl ?_
        refine aw_icmp_eq 54 dX9_bestRequest_48 (by decide) (fun c48 => ?_) (fun c48 => ?_)
        · refine aw_iload_n dX9_bestRequest_54 rfl ?_
          refine aw_iconst (v := -1) dX9_bestRequest_55 (by decide) ?_
          refine aw_icmp_eq 72 dX9_bestRequest_56 (by decide) (fun c56 => ?_) (fun c56 => ?_)
          · obtain ⟨ra, rm, hra9, hrm9, hra, hrm⟩ := hQ k hlt
            refine aw_aload_n dX9_bestRequest_72 rfl ?_
            refine aw_get fl_X9_28 dX9_bestRequest_73 e_0 (l_0 hn) rfl ?_
            refine aw_aload_n dX9_bestRequest_76 rfl ?_
            refine aw_get fl_X9_322 dX9_bestRequest_77 e_22 (l_22 hn) rfl ?_
            refine aw_iload dX9_bestRequest_80 rfl ?_
            refine aw_ialdk dX9_bestRequest_82 e_24 (l_24 hn) h4 (by omega) rfl ?_
            refine aw_aload_n dX9_bestRequest_83 rfl ?_
            refine aw_get fl_X9_323 dX9_bestRequest_84 e_22 (l_22 hn) rfl ?_
            refine aw_iload dX9_bestRequest_87 rfl ?_
            refine aw_ialdk dX9_bestRequest_89 e_25 (l_25 hn) h4 (by omega) rfl ?_
            refine ap_callJ kv_X9_145 ko_X8_obstacleToStay (cj_stay hn hI hk hkc hK _ hrm (by omega)) dX9_bestRequest_90 e_56 (l_56 hn) rfl rfl rfl rfl (ble' rfl) (by decide) (fun r2 hK2 => ?_)
            refine aw_if_ne 99 dX9_bestRequest_93 (by decide) (fun c93 => ?_) (fun c93 => ?_)
            · refine aw_iinc (lo' := [_, _, _, _, some (.int _)]) dX9_bestRequest_99 rfl (by decide) rfl ?_
              refine aw_goto 21 dX9_bestRequest_102 (by decide) ?_
              exact ih (k + 1) _ _ r2 (by omega) (by omega) (by rw [h4]; exact inc1 k) (by rw [h3, best_n (by simp only [rqOk, decide_eq_false_iff_not]; exact fun q => c93 q.2.2)]) hK2
            · refine aw_iload dX9_bestRequest_96 rfl ?_
              refine aw_istore_n (lo' := [_, _, _, some (.int _), _]) dX9_bestRequest_98 (by decide) rfl ?_
              refine aw_iinc (lo' := [_, _, _, _, some (.int _)]) dX9_bestRequest_99 rfl (by decide) rfl ?_
              refine aw_goto 21 dX9_bestRequest_102 (by decide) ?_
              exact ih (k + 1) _ _ r2 (by omega) (by omega) (by rw [h4]; exact inc1 k) (by rw [h4, best_t (by simp only [rqOk, decide_eq_true_eq]; exact ⟨c37, c48, c93⟩) (Or.inl (by rw [← h3]; exact c56))]) hK2
          · obtain ⟨b0, hb0, hx3, -⟩ := (best_in (rqOk M ns nb nz c) (rqBt (M 24) (M 25)) k).resolve_left (by rw [← h3]; exact c56)
            rw [← h3] at hx3
            refine aw_aload_n dX9_bestRequest_59 rfl ?_
            refine aw_iload dX9_bestRequest_60 rfl ?_
            refine aw_iload_n dX9_bestRequest_62 rfl ?_
            refine ap_callVi kv_X9_319 ko_X4_isBetter (c_X4_isBetter (M := updM (jM M c) 57 r) hn h4 (by omega) hx3 (by omega)) dX9_bestRequest_63 e_22 (l_22 hn) rfl rfl rfl rfl (ble' rfl) (by decide) ?_
            refine aw_if_ne 72 dX9_bestRequest_66 (by decide) (fun c66 => ?_) (fun c66 => ?_)
            · have n66 := bI_nz.mp c66
              obtain ⟨ra, rm, hra9, hrm9, hra, hrm⟩ := hQ k hlt
              refine aw_aload_n dX9_bestRequest_72 rfl ?_
              refine aw_get fl_X9_28 dX9_bestRequest_73 e_0 (l_0 hn) rfl ?_
              refine aw_aload_n dX9_bestRequest_76 rfl ?_
              refine aw_get fl_X9_322 dX9_bestRequest_77 e_22 (l_22 hn) rfl ?_
              refine aw_iload dX9_bestRequest_80 rfl ?_
              refine aw_ialdk dX9_bestRequest_82 e_24 (l_24 hn) h4 (by omega) rfl ?_
              refine aw_aload_n dX9_bestRequest_83 rfl ?_
              refine aw_get fl_X9_323 dX9_bestRequest_84 e_22 (l_22 hn) rfl ?_
              refine aw_iload dX9_bestRequest_87 rfl ?_
              refine aw_ialdk dX9_bestRequest_89 e_25 (l_25 hn) h4 (by omega) rfl ?_
              refine ap_callJ kv_X9_145 ko_X8_obstacleToStay (cj_stay hn hI hk hkc hK _ hrm (by omega)) dX9_bestRequest_90 e_56 (l_56 hn) rfl rfl rfl rfl (ble' rfl) (by decide) (fun r2 hK2 => ?_)
              refine aw_if_ne 99 dX9_bestRequest_93 (by decide) (fun c93 => ?_) (fun c93 => ?_)
              · refine aw_iinc (lo' := [_, _, _, _, some (.int _)]) dX9_bestRequest_99 rfl (by decide) rfl ?_
                refine aw_goto 21 dX9_bestRequest_102 (by decide) ?_
                exact ih (k + 1) _ _ r2 (by omega) (by omega) (by rw [h4]; exact inc1 k) (by rw [h3, best_n (by simp only [rqOk, decide_eq_false_iff_not]; exact fun q => c93 q.2.2)]) hK2
              · refine aw_iload dX9_bestRequest_96 rfl ?_
                refine aw_istore_n (lo' := [_, _, _, some (.int _), _]) dX9_bestRequest_98 (by decide) rfl ?_
                refine aw_iinc (lo' := [_, _, _, _, some (.int _)]) dX9_bestRequest_99 rfl (by decide) rfl ?_
                refine aw_goto 21 dX9_bestRequest_102 (by decide) ?_
                exact ih (k + 1) _ _ r2 (by omega) (by omega) (by rw [h4]; exact inc1 k) (by rw [h4, best_b (by simp only [rqOk, decide_eq_true_eq]; exact ⟨c37, c48, c93⟩) (h3.symm.trans hx3) (by omega) (by simp only [rqBt, decide_eq_true_eq]; exact n66)]) hK2
            · have n66 := bI_z.mp c66
              refine aw_goto 99 dX9_bestRequest_69 (by decide) ?_
              refine aw_iinc (lo' := [_, _, _, _, some (.int _)]) dX9_bestRequest_99 rfl (by decide) rfl ?_
              refine aw_goto 21 dX9_bestRequest_102 (by decide) ?_
              exact ih (k + 1) _ _ r (by omega) (by omega) (by rw [h4]; exact inc1 k) (by rw [h3, best_w (h3.symm.trans hx3) (by omega) (by simp only [rqBt, decide_eq_false_iff_not]; exact n66)]) hK
        · refine aw_goto 99 dX9_bestRequest_51 (by decide) ?_
          refine aw_iinc (lo' := [_, _, _, _, some (.int _)]) dX9_bestRequest_99 rfl (by decide) rfl ?_
          refine aw_goto 21 dX9_bestRequest_102 (by decide) ?_
          exact ih (k + 1) _ _ r (by omega) (by omega) (by rw [h4]; exact inc1 k) (by rw [h3, best_n (by simp only [rqOk, decide_eq_false_iff_not]; exact fun q => c48 q.2.1)]) hK

set_option maxRecDepth 100000 in
set_option maxHeartbeats 4000000 in
theorem c_X9_bestRequest {G : AG} {M : Nat → Nat → Int32} {n : Nat} (hn : 72 ≤ n) {nc ns nz nb nr t : Nat} (hI : CI M nc ns nz nb nr t) (hQ : RQI M nr) {c : Int32} {kc : Nat} (hk : c = nI kc) (hkc : kc < nc) : AMet tX9_bestRequest yX9_bestRequest [Cond.code yX9_bestRequest cX9_bestRequest 5 (some .int)] [.ref 0, .int c] (wld G M) n (PJ (BRQ M ns nb nz nr c) G (jM M c) n (fun _ => True)) := by
  obtain ⟨hc, hcl, hs, hsl, hz, hzl, hb, hbl, hr, hrl, ht, htl⟩ := id hI
  refine am_of (lo := [_, _, _, _, _]) (by decide) rfl (fun q => by cases q) rfl rfl rfl ?_
  refine aw_aload_n dX9_bestRequest_0 rfl ?_
  refine aw_get fl_X9_28 dX9_bestRequest_1 e_0 (l_0 hn) rfl ?_
  refine aw_iload_n dX9_bestRequest_4 rfl ?_
  refine ap_callVv kv_X9_142 ko_X8_turnTo (cj_turn hn c) dX9_bestRequest_5 e_56 (l_56 hn) rfl rfl rfl rfl (ble' rfl) (by decide) ?_
  refine aw_aload_n dX9_bestRequest_8 rfl ?_
  refine aw_get fl_X9_10 dX9_bestRequest_9 e_0 (l_0 hn) rfl ?_
  refine aw_get fl_X9_228 dX9_bestRequest_12 e_1 (l_1 hn) rfl ?_
  refine aw_astore_n (lo' := [_, _, some (.ref _), _, _]) dX9_bestRequest_15 (by decide) rfl ?_
  refine aw_iconst (v := -1) dX9_bestRequest_16 (by decide) ?_
  refine aw_istore_n (lo' := [_, _, _, some (.int _), _]) dX9_bestRequest_17 (by decide) rfl ?_
  refine aw_iconst (v := 0) dX9_bestRequest_18 (by decide) ?_
  refine aw_istore (lo' := [_, _, _, _, some (.int _)]) dX9_bestRequest_19 (by decide) rfl ?_
  exact lp_X9_bestRequest hn hI hQ hk hkc 21 0 _ _ _ (by omega) (by omega) rfl rfl (kn0 _ _)

set_option maxRecDepth 100000 in
set_option maxHeartbeats 4000000 in
theorem lp_X9_fill {G : AG} {n : Nat} (hn : 72 ≤ n) {nc ns nz nr t : Nat} {c : Int32} {kc : Nat} (hk : c = nI kc) (hkc : kc < nc) {Po : APost} : ∀ (j f i : Nat) (x2 : Int32) (M : Nat → Nat → Int32) (nb : Nat), f < j → i + f = 20 → x2 = nI i → CI M nc ns nz nb nr t → RQI M nr → (∀ (v : Int32) (M3 : Nat → Nat → Int32), v = nI (i + (flM c f M).1) → SEq M3 (flM c f M).2 → Po (.inl (some (.int v))) (wld G M3) n) →  AW tX9_fill (AQm tX9_fill (Po)) C0 7 [some (.ref 0), some (.int c), some (.int x2), none] [] (wld G M) n 1 6 := by
  intro j
  induction j with
  | zero => intro f i x2 M nb h1; omega
  | succ j ih =>
    intro f i x2 M nb h1 hif h2 hI hQ hR
    obtain ⟨hc, hcl, hs, hsl, hz, hzl, hb, hbl, hr, hrl, ht, htl⟩ := id hI
    have ens : nsM M = ns := cl_of hs (by omega)
    have enb : nbM M = nb := cl_of hb (by omega)
    have enz : nzM M = nz := cl_of hz (by omega)
    have enr : nrM M = nr := cl_of hr (by omega)
    refine aw_iload_n dX9_fill_7 rfl ?_
    refine aw_bipush (v := 20) dX9_fill_8 (by decide) ?_
    refine aw_icmp_ge 53 dX9_fill_10 (by decide) (fun c10 => ?_) (fun c10 => ?_)
    · have n10 := Int32.not_lt.mpr c10
      refine aw_iload_n dX9_fill_53 rfl ?_
      refine aw_iret rfl dX9_fill_54 (ble' rfl) (ble' rfl) ?_
      have h0 : f = 0 := by have := le_of_le (show (20 : Int32) = nI 20 from rfl) h2 (by decide) (by omega) c10; omega
      subst h0
      exact hR _ _ (by rw [h2]; rfl) seq_rf
    · have n10 := Int32.not_le.mp c10
      cases f with
      | zero => exact absurd (by rw [h2]; rw [show i = 20 by omega]; decide) c10
      | succ k =>
        refine aw_aload_n dX9_fill_13 rfl ?_
        refine aw_get fl_X9_10 dX9_fill_14 e_0 (l_0 hn) rfl ?_
        refine aw_get fl_X9_128 dX9_fill_17 e_1 (l_1 hn) rfl ?_
        refine ap_callVi kv_X9_155 ko_X0_isFull (c_X0_isFull hn) dX9_fill_20 e_15 (l_15 hn) rfl rfl rfl rfl (ble' rfl) (by decide) ?_
        refine aw_if_ne 53 dX9_fill_23 (by decide) (fun c23 => ?_) (fun c23 => ?_)
        · have n23 := bI_nz.mp c23
          refine aw_iload_n dX9_fill_53 rfl ?_
          refine aw_iret rfl dX9_fill_54 (ble' rfl) (ble' rfl) ?_
          exact hR _ _ (by rw [h2, flM, if_pos n23]; rfl) (by rw [flM, if_pos n23]; exact seq_rf)
        · have n23 := bI_z.mp c23
          refine aw_aload_n dX9_fill_26 rfl ?_
          refine aw_iload_n dX9_fill_27 rfl ?_
          refine ap_callJ kv_X9_245 ko_X9_bestRequest (c_X9_bestRequest hn hI hQ hk hkc) dX9_fill_28 e_0 (l_0 hn) rfl rfl rfl rfl (ble' rfl) (by decide) (fun r2 _ => ?_)
          refine aw_istore_n (lo' := [_, _, _, some (.int _)]) dX9_fill_31 (by decide) rfl ?_
          refine aw_iload_n dX9_fill_32 rfl ?_
          refine aw_iconst (v := -1) dX9_fill_33 (by decide) ?_
          refine aw_icmp_ne 39 dX9_fill_34 (by decide) (fun c34 => ?_) (fun c34 => ?_)
          · obtain ⟨rq, hrq, hx3, -⟩ := (best_in (rqOk M ns nb nz c) (rqBt (M 24) (M 25)) nr).resolve_left c34
            obtain ⟨ra, rm, hra9, hrm9, hra, hrm⟩ := hQ rq hrq
            have hb60 : nb < 60 := lt_of_nle (show (60 : Int32) = nI 60 from rfl) hb (by decide) (by omega) n23
            refine aw_aload_n dX9_fill_39 rfl ?_
            refine aw_get fl_X9_10 dX9_fill_40 e_0 (l_0 hn) rfl ?_
            refine aw_iload_n dX9_fill_43 rfl ?_
            refine ap_callVv kv_X9_248 ko_X1_bookRequest (c_X1_bookRequest (M := updM (jM M c) 57 r2) hn hb hb60 hz hzl hx3 (by omega) (by omega) (by omega) hra hrm) dX9_fill_44 e_1 (l_1 hn) rfl rfl rfl rfl (ble' rfl) (by decide) ?_
            refine aw_iinc (lo' := [_, _, some (.int _), _]) dX9_fill_47 rfl (by decide) rfl ?_
            refine aw_goto 7 dX9_fill_50 (by decide) ?_
            refine aw_lo2 (lo' := [some (.ref 0), some (.int c), some (.int _), none]) ⟨rfl, rfl, rfl, trivial⟩ ?_
            have hbq : BRQ M (nsM M) (nbM M) (nzM M) (nrM M) c = nI rq := by rw [ens, enb, enz, enr]; exact hx3
            have hst : flM c (k + 1) M = ((flM c k (bkReqM M rq)).1 + 1, (flM c k (bkReqM M rq)).2) := by rw [flM, if_neg n23, if_neg (by rw [hbq]; exact nI_neg1 (by omega)), hbq, nI_clamp (by omega)]
            have hsq : SEq (bkReq (updM (jM M c) 57 r2) rq nb ra rm (psum (fun d => sval (seasN (M 10) (M 11) (M 12) (M 23 rq) d nz) (M 14) 20) ra rm)) (bkReqM M rq) := by
              have e : bkReqM M rq = bkReq M rq nb ra rm (psum (fun d => sval (seasN (M 10) (M 11) (M 12) (M 23 rq) d nz) (M 14) 20) ra rm) := by rw [bkReqM, enb, enz, cl_of hra (by omega), cl_of hrm (by omega)]; rfl
              rw [e]; exact bkReq_seq (seq_57 (seq_56 seq_rf)) _ _ _ _ _
            have hfq := flM_seq (c := c) k hsq
            exact ih k (i + 1) _ (bkReq (updM (jM M c) 57 r2) rq nb ra rm (psum (fun d => sval (seasN (M 10) (M 11) (M 12) (M 23 rq) d nz) (M 14) 20) ra rm)) (nb + 1) (by omega) (by omega) (by rw [h2]; exact inc1 i) ⟨hc, hcl, hs, hsl, hz, hzl, (show M 15 6 + 1 = nI (nb + 1) by rw [hb]; exact nI_1 nb), by omega, hr, hrl, ht, htl⟩ hQ (fun v M3 q1 q2 => hR v M3 (by rw [q1, hst, hfq.1, show i + 1 + (flM c k (bkReqM M rq)).1 = i + ((flM c k (bkReqM M rq)).1 + 1) by omega]) (by rw [hst]; exact seq_tr q2 hfq.2))
          · refine aw_iload_n dX9_fill_37 rfl ?_
            refine aw_iret rfl dX9_fill_38 (ble' rfl) (ble' rfl) ?_
            exact hR _ _ (by rw [h2, flM, if_neg n23, if_pos (by rw [ens, enb, enz, enr]; exact c34)]; rfl) (by rw [flM, if_neg n23, if_pos (by rw [ens, enb, enz, enr]; exact c34)]; exact seq_57 (seq_56 seq_rf))

def cd_fill (M : Nat → Nat → Int32) (c : Int32) : Nat := if (c < 0 ∨ M 2 3 ≤ c) then 1 else 0
set_option maxRecDepth 100000 in
set_option maxHeartbeats 4000000 in
theorem c_X9_fill {G : AG} {M : Nat → Nat → Int32} {n : Nat} (hn : 72 ≤ n) {nc ns nz nb nr t : Nat} (hI : CI M nc ns nz nb nr t) (hQ : RQI M nr) (c : Int32) : AMet tX9_fill yX9_fill [Cond.code yX9_fill cX9_fill 4 (some .int)] [.ref 0, .int c] (wld G M) n (PO ["java/lang/IndexOutOfBoundsException"] (cd_fill M c) (some (.int (nI (flM c 20 M).1))) G M (flM c 20 M).2 n) := by
  obtain ⟨hc, hcl, hs, hsl, hz, hzl, hb, hbl, hr, hrl, ht, htl⟩ := id hI
  refine am_of (lo := [_, _, _, _]) (by decide) rfl (fun q => by cases q) rfl rfl rfl ?_
  refine aw_aload_n dX9_fill_0 rfl ?_
  refine aw_iload_n dX9_fill_1 rfl ?_
  refine ap_chkV kw_X9_80 kv_X9_80 ko_X9_checkClass (c_X9_checkClass hn _) dX9_fill_2 e_0 (l_0 hn) rfl rfl rfl rfl (ble' rfl) (by decide) (fun q => po_e 0 (by rw [cd_fill, if_pos q]) rfl (seq_rf)) (fun b2 => ?_)
  obtain ⟨kc, hkc, hk⟩ := ck_ix hc (by omega) b2
  refine aw_iconst (v := 0) dX9_fill_5 (by decide) ?_
  refine aw_istore_n (lo' := [_, _, some (.int _), _]) dX9_fill_6 (by decide) rfl ?_
  exact lp_X9_fill hn hk hkc 21 20 0 _ M nb (by omega) (by omega) rfl hI hQ (fun v M3 q1 q2 => po_i (by rw [cd_fill, if_neg b2]) (by rw [q1, Nat.zero_add]) q2)
