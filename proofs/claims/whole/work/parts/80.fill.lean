theorem sm_26_27 {A B : Nat → Nat → Int32} {nc ns nz nb nr t : Nat} (h : Same A B nc ns nz nb nr t) {k : Nat} (hk : k < 20) (u v : Int32) : Same (updM (updM A 27 (upd (A 27) k u)) 26 (upd (A 26) k v)) (w64 (w64 B (472 + 5 * k + 3) v) (472 + 5 * k + 4) u) nc ns nz nb nr t := by
  obtain ⟨⟨a1, a2, a3, a4, a5, a6, a7, a8, a9, a10, a11, a12⟩, ⟨b1, -, b3, -, b5, -, b7, -, b9, -, b11, -⟩, ⟨r3, r4, r5⟩, ⟨r7, r8⟩, ⟨r10, r11, r12, r13, r14⟩, ⟨r16, r17, r18, r19, r20, r21⟩, ⟨r23, r24, r25, r26, r27⟩⟩ := h
  exact ⟨⟨a1, a2, a3, a4, a5, a6, a7, a8, a9, a10, a11, a12⟩, ⟨(by skip; rw [w64_at (by omega), w64_at (by omega)]; exact b1), a2, (by skip; rw [w64_at (by omega), w64_at (by omega)]; exact b3), a4, (by skip; rw [w64_at (by omega), w64_at (by omega)]; exact b5), a6, (by skip; rw [w64_at (by omega), w64_at (by omega)]; exact b7), a8, (by skip; rw [w64_at (by omega), w64_at (by omega)]; exact b9), a10, (by skip; rw [w64_at (by omega), w64_at (by omega)]; exact b11), a12⟩, ⟨rw_kp r3 rfl (by skip; rw [vw_472_3 hk (by decide), vw_472_3 hk (by decide)]), rw_kp r4 rfl (by skip; rw [vw_472_4 hk (by decide), vw_472_4 hk (by decide)]), rw_kp r5 rfl (by skip; rw [vw_472_5 hk (by decide), vw_472_5 hk (by decide)])⟩, ⟨rw_kp r7 rfl (by skip; rw [vw_472_7 hk (by decide), vw_472_7 hk (by decide)]), rw_kp r8 rfl (by skip; rw [vw_472_8 hk (by decide), vw_472_8 hk (by decide)])⟩, ⟨rw_kp r10 rfl (by skip; rw [vw_472_10 hk (by decide), vw_472_10 hk (by decide)]), rw_kp r11 rfl (by skip; rw [vw_472_11 hk (by decide), vw_472_11 hk (by decide)]), rw_kp r12 rfl (by skip; rw [vw_472_12 hk (by decide), vw_472_12 hk (by decide)]), rw_kp r13 rfl (by skip; rw [vw_472_13 hk (by decide), vw_472_13 hk (by decide)]), rw_kp r14 rfl (by skip; rw [vw_472_14 hk (by decide), vw_472_14 hk (by decide)])⟩, ⟨rw_kp r16 rfl (by skip; rw [vw_472_16 hk (by decide), vw_472_16 hk (by decide)]), rw_kp r17 rfl (by skip; rw [vw_472_17 hk (by decide), vw_472_17 hk (by decide)]), rw_kp r18 rfl (by skip; rw [vw_472_18 hk (by decide), vw_472_18 hk (by decide)]), rw_kp r19 rfl (by skip; rw [vw_472_19 hk (by decide), vw_472_19 hk (by decide)]), rw_kp r20 rfl (by skip; rw [vw_472_20 hk (by decide), vw_472_20 hk (by decide)]), rw_kp r21 rfl (by skip; rw [vw_472_21 hk (by decide), vw_472_21 hk (by decide)])⟩, ⟨rw_kp r23 rfl (by skip; rw [vw_472_23 hk (by decide), if_neg (by decide), vw_472_23 hk (by decide), if_neg (by decide)]), rw_kp r24 rfl (by skip; rw [vw_472_24 hk (by decide), if_neg (by decide), vw_472_24 hk (by decide), if_neg (by decide)]), rw_kp r25 rfl (by skip; rw [vw_472_25 hk (by decide), if_neg (by decide), vw_472_25 hk (by decide), if_neg (by decide)]), rw_set r26 rfl (by skip; rw [vw_472_26 hk (by decide), if_neg (by decide), vw_472_26 hk (by decide), if_pos rfl]), rw_set r27 rfl (by skip; rw [vw_472_27 hk (by decide), if_pos rfl, vw_472_27 hk (by decide), if_neg (by decide)])⟩⟩
section Fill
variable {A B : Nat → Nat → Int32} {nc ns nz nb nr t : Nat}
theorem s_rqi (hi : Inv A nc ns nb nr t) : RQI A nr := fun k hk => by
  obtain ⟨a, m, h1, -, h3, h4, h5⟩ := hi.2.2.2.2 k hk
  exact ⟨a, m, h1, h3, h4, h5⟩
theorem s_rqv (h : Same A B nc ns nz nb nr t) (hi : Inv A nc ns nb nr t) : RQV B nr := fun k hk => by
  obtain ⟨a, m, h1, h2, h3, h4, h5⟩ := hi.2.2.2.2 k hk
  have hr := h.2.2.2.2.2.2
  exact ⟨a, m, h1, h2, h3, (hr.2.1 k hk).symm.trans h4, (hr.2.2.1 k hk).symm.trans h5⟩
theorem s_brq (h : Same A B nc ns nz nb nr t) (hi : Inv A nc ns nb nr t) {kc : Nat} (hk : kc < nc) : BRQ A ns nb nz nr (nI kc) = rqN B ns nb nz kc (nI kc) nr := by
  have hr := h.2.2.2.2.2.2
  have hnr := h.1.2.2.2.2.2.2.2.2.2.1
  have hnc := h.1.2.1
  unfold BRQ rqN
  refine best_cg (by omega) (fun k hk2 => ?_) (fun k b hk2 hb => ?_)
  · unfold rqOk rqOkR
    obtain ⟨a, m, h1, h2, h3, h4, h5⟩ := hi.2.2.2.2 k hk2
    rw [← hr.1 k hk2, ← hr.2.1 k hk2, ← hr.2.2.1 k hk2, ← hr.2.2.2.1 k hk2, s_os h hi hk (nI_clamp (by omega)) h5 h2 h3]
  · unfold rqBt
    rw [hr.2.1 k hk2, hr.2.2.1 k hk2, hr.2.1 b hb, hr.2.2.1 b hb]
theorem s_rqR (h : Same A B nc ns nz nb nr t) (hi : Inv A nc ns nb nr t) {kc : Nat} (hk : kc < nc) : rqR B (nI kc) = BRQ A ns nb nz nr (nI kc) := by
  have hnc := h.1.2.1
  unfold rqR
  rw [(s_ns h).1, (s_nb h).1, (s_nz2 h).1, (s_nr h).1, nI_clamp (by omega), s_brq h hi hk]
theorem s_gr (h : Same A B nc ns nz nb nr t) (hi : Inv A nc ns nb nr t) {kc k : Nat} (hk : kc < nc) (hk2 : k < nr) (hb60 : nb < 60) (hok : rqOk A ns nb nz (nI kc) k = true) : Same (bkReqM A k) (grR B (nI kc) k) nc ns nz (nb + 1) nr t ∧ Inv (bkReqM A k) nc ns (nb + 1) nr t ∧ bkReqM A k 26 = upd (A 26) k 1 := by
  have hr := h.2.2.2.2.2.2
  have hnr := h.1.2.2.2.2.2.2.2.2.2.1
  have hs := h.1.2.2.2.1
  have ht := h.1.2.2.2.2.2.2.2.2.2.2.2
  have hnc := h.1.2.1
  unfold rqOk at hok
  obtain ⟨o1, o2, o3⟩ := of_decide_eq_true hok
  obtain ⟨a, m, h1, h2, h3, h4, h5⟩ := hi.2.2.2.2 k hk2
  obtain ⟨x, ex, hx1, hx2, hfr⟩ := on_free h hk h5 h2 h3 (os_on o3)
  have hxa : a = x := (nI_eq (by omega) (by omega)).mp (h4.symm.trans ex)
  subst hxa
  have eA : bkReqM A k = updM (updM (addB A nb (nI kc) (nI a) (nI a + nI m) (prR B (nI kc) (V B 24 k) (V B 25 k))) 27 (upd (A 27) k (nI nb))) 26 (upd (A 26) k 1) := by
    unfold bkReqM bkReq
    rw [(s_nb h).2, (s_nz2 h).2, h4, h5, nI_clamp (by omega), nI_clamp (by omega), o2, nI_add]
    have e1 := s_prs h (nI kc) (nI a) (nI m)
    rw [nI_clamp (by omega), nI_clamp (by omega)] at e1
    rw [e1, ← hr.2.1 k hk2, ← hr.2.2.1 k hk2, h4, h5]
  have eB : grR B (nI kc) k = w64 (w64 (appendBookingM B nb (nI kc) (nI a) (nI m) (prR B (nI kc) (V B 24 k) (V B 25 k))) (472 + 5 * k + 3) 1) (472 + 5 * k + 4) (nI nb) := by
    unfold grR
    rw [(s_nb h).1, ← hr.2.1 k hk2, ← hr.2.2.1 k hk2, h4, h5]
  have hbk := sm_book h hb60 (nI kc) (nI a) (nI m) (prR B (nI kc) (V B 24 k) (V B 25 k))
  rw [eA, eB]
  refine ⟨sm_26_27 hbk (show k < 20 by omega) (nI nb) 1, ?_, rfl⟩
  have hbi := iv_book hi hs (by omega) ht hk hx1 h2 hx2 (prR B (nI kc) (V B 24 k) (V B 25 k)) hfr
  rw [nI_add]
  exact inv_cg hbi rfl rfl rfl rfl rfl rfl rfl rfl rfl rfl
theorem s_fill {kc : Nat} : ∀ (f : Nat) {A B : Nat → Nat → Int32} {nc ns nz nb nr t : Nat}, Same A B nc ns nz nb nr t → Inv A nc ns nb nr t → kc < nc → cnt (fun k => decide (A 26 k = 0)) nr ≤ f → ∃ r, flR (nI kc) (f + 1) B = some r ∧ (flM (nI kc) f A).1 = r.1 ∧ St (flM (nI kc) f A).2 r.2 := by
  intro f
  induction f with
  | zero =>
    intro A B nc ns nz nb nr t h hi hk hw
    refine ⟨(0, B), ?_, rfl, nc, ns, nz, nb, nr, t, h, hi⟩
    unfold flR
    rw [if_pos (Or.inl ?_)]
    rw [s_rqR h hi hk]
    unfold BRQ
    rcases best_in (rqOk A ns nb nz (nI kc)) (rqBt (A 24) (A 25)) nr with e | ⟨k, hk2, -, hok⟩
    · exact e
    · unfold rqOk at hok
      have q : cnt (fun j => decide (A 26 j = 0)) nr = cnt (fun j => decide (A 26 j = 0) && decide (j ≠ k)) nr + 1 := cnt_one (k := k) (decide_eq_true (of_decide_eq_true hok).1) (by simp) hk2 (fun j _ e => by simp [e])
      omega
  | succ f ih =>
    intro A B nc ns nz nb nr t h hi hk hw
    have hnr := h.1.2.2.2.2.2.2.2.2.2.1
    have hc := h.1.2.2.2.2.2.2.1; have hb := h.2.1.2.2.2.2.2.2.1; have hl := h.1.2.2.2.2.2.2.2.1
    have stop : (rqR B (nI kc) = -1 ∨ 60 ≤ B 64 4) → (flM (nI kc) (f + 1) A = (0, A)) → ∃ r, flR (nI kc) (f + 1 + 1) B = some r ∧ (flM (nI kc) (f + 1) A).1 = r.1 ∧ St (flM (nI kc) (f + 1) A).2 r.2 := by
      intro q e
      rw [e]
      exact ⟨(0, B), by rw [flR, if_pos q], rfl, nc, ns, nz, nb, nr, t, h, hi⟩
    by_cases q6 : 60 ≤ A 15 6
    · exact stop (Or.inr (by rw [hb, ← hc]; exact q6)) (by rw [flM, if_pos q6])
    · have hb60 : nb < 60 := lt_of_nle (show (60 : Int32) = nI 60 from rfl) hc (by decide) (by omega) q6
      by_cases qb : BRQ A ns nb nz nr (nI kc) = -1
      · exact stop (Or.inl (by rw [s_rqR h hi hk]; exact qb)) (by rw [flM, if_neg q6, (s_ns h).2, (s_nb h).2, (s_nz2 h).2, (s_nr h).2, if_pos qb])
      · obtain ⟨k, hk2, ek, hok⟩ := (best_in (rqOk A ns nb nz (nI kc)) (rqBt (A 24) (A 25)) nr).resolve_left qb
        have ek : BRQ A ns nb nz nr (nI kc) = nI k := ek
        obtain ⟨g1, g2, g3⟩ := s_gr h hi hk hk2 hb60 hok
        have hok2 := hok
        unfold rqOk at hok2
        have hw2 : cnt (fun j => decide (bkReqM A k 26 j = 0)) nr ≤ f := by
          have q : cnt (fun j => decide (A 26 j = 0)) nr = cnt (fun j => decide (bkReqM A k 26 j = 0)) nr + 1 := cnt_one (k := k) (decide_eq_true (of_decide_eq_true hok2).1) (by rw [g3, upd_s]; rfl) hk2 (fun j _ e => by rw [g3, upd_n e])
          omega
        obtain ⟨r, r1, r2, r3⟩ := ih g1 g2 hk hw2
        have ekc : (nI k).toNatClampNeg = k := nI_clamp (by omega)
        have eM : flM (nI kc) (f + 1) A = ((flM (nI kc) f (bkReqM A k)).1 + 1, (flM (nI kc) f (bkReqM A k)).2) := by
          rw [flM, if_neg q6, (s_ns h).2, (s_nb h).2, (s_nz2 h).2, (s_nr h).2, if_neg qb, ek, ekc]
        refine ⟨(r.1 + 1, r.2), ?_, ?_, ?_⟩
        · rw [flR, if_neg ?_, s_rqR h hi hk, ek, ekc, r1]
          · rfl
          · rw [s_rqR h hi hk]
            exact fun q => q.elim qb (fun q => q6 (by rw [hc, ← hb]; exact q))
        · rw [eM, ← r2]
        · rw [eM]; exact r3
theorem u_fill (h : Same A B nc ns nz nb nr t) (hi : Inv A nc ns nb nr t) (c : Int32) : cd_fill A c = cr_fill B c ∧ (cr_fill B c = 0 → ∃ r, flR c 21 B = some r ∧ (flM c 20 A).1 = r.1 ∧ St (flM c 20 A).2 r.2) := by
  have hnr := h.1.2.2.2.2.2.2.2.2.2.1
  refine ⟨ifc (k_cls h c) rfl (fun _ => rfl), fun z => ?_⟩
  obtain ⟨k, hk, ek, -⟩ := o_cls h (Classical.not_not.mp (if0 (by decide) z).1)
  rw [ek]
  exact s_fill 20 h hi hk (Nat.le_trans (cnt_le _ _) hnr)
end Fill