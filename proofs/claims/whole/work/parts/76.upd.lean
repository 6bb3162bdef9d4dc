section Ups
variable {A B : Nat → Nat → Int32} {nc ns nz nb nr t : Nat}
theorem u_addClass (h : Same A B nc ns nz nb nr t) (hi : Inv A nc ns nb nr t) (w s q : Int32) : cd_addClass A w s q = cr_addClass B w s q ∧ (cr_addClass B w s q = 0 → St (addC A nc w s q) (appendClassM B nc w s q)) := by
  have hc := h.1.1; have hb := h.2.1.1; have hl := h.1.2.1
  refine ⟨?_, fun z => ?_⟩
  · unfold cd_addClass cr_addClass
    rw [ifo, ifo]
    exact ifc (by rw [k_rg, k_rg, k_rg]; simp only [Classical.not_and_iff_not_or_not, or_assoc]) rfl (fun _ => ifc (k_ful hc hb (show (4 : Int32) = nI 4 from rfl) (by decide) hl) rfl (fun _ => rfl))
  · obtain ⟨z1, z2⟩ := if0 (by decide) z
    have z3 := Classical.not_not.mp (if0 (by decide) z2).1
    have hk : nc < 4 := by rcases Nat.lt_or_ge nc 4 with r | r; exact r; exact absurd (by rw [hb, show nc = 4 by omega]; rfl) z3
    exact ⟨_, _, _, _, _, _, sm_addClass h hk w s q, iv_addClass hi w s q (Classical.not_not.mp z1).2.2.1⟩
theorem u_addSite (h : Same A B nc ns nz nb nr t) (hi : Inv A nc ns nb nr t) (c : Int32) : cd_addSite A c = cr_addSite B c ∧ (cr_addSite B c = 0 → St (addS A ns c) (appendSiteM B ns c)) := by
  have hc := h.1.2.2.1; have hb := h.2.1.2.2.1; have hl := h.1.2.2.2.1
  refine ⟨ifc (k_cls h c) rfl (fun _ => ifc (k_ful hc hb (show (16 : Int32) = nI 16 from rfl) (by decide) hl) rfl (fun _ => rfl)), fun z => ?_⟩
  obtain ⟨z1, z2⟩ := if0 (by decide) z
  have z3 := Classical.not_not.mp (if0 (by decide) z2).1
  have hk : ns < 16 := by rcases Nat.lt_or_ge ns 16 with r | r; exact r; exact absurd (by rw [hb, show ns = 16 by omega]; rfl) z3
  exact ⟨_, _, _, _, _, _, sm_addSite h hk c, iv_addSite hi c⟩
theorem u_addSeason (h : Same A B nc ns nz nb nr t) (hi : Inv A nc ns nb nr t) (c f l m p : Int32) : cd_addSeason A c f l m p = cr_addSeason B c f l m p ∧ (cr_addSeason B c f l m p = 0 → St (addZ A nz c f l m p) (appendSeasonM B nz c f l m p)) := by
  have hc := h.1.2.2.2.2.1; have hb := h.2.1.2.2.2.2.1; have hl := h.1.2.2.2.2.2.1
  refine ⟨?_, fun z => ?_⟩
  · unfold cd_addSeason cr_addSeason
    refine ifc (k_cls h c) rfl (fun _ => ?_)
    rw [ifo, ifo, ifo]
    exact ifc (by rw [k_rg, k_rg, k_rg, k_rg]; simp only [Classical.not_and_iff_not_or_not, or_assoc]) rfl (fun _ => ifc (k_ful hc hb (show (12 : Int32) = nI 12 from rfl) (by decide) hl) rfl (fun _ => rfl))
  · obtain ⟨z1, z2⟩ := if0 (by decide) z
    obtain ⟨-, z4⟩ := if0 (by decide) z2
    have z3 := Classical.not_not.mp (if0 (by decide) z4).1
    have hk : nz < 12 := by rcases Nat.lt_or_ge nz 12 with r | r; exact r; exact absurd (by rw [hb, show nz = 12 by omega]; rfl) z3
    exact ⟨_, _, _, _, _, _, sm_addSeason h hk c f l m p, inv_cg hi rfl rfl rfl rfl rfl rfl rfl rfl rfl rfl⟩
theorem u_request (h : Same A B nc ns nz nb nr t) (hi : Inv A nc ns nb nr t) (c a m : Int32) : cd_request A c a m = cr_request B c a m ∧ (cr_request B c a m = 0 → St (addR A nr c a m) (appendRequestM B nr c a m)) := by
  have hc := h.1.2.2.2.2.2.2.2.2.1; have hb := h.2.1.2.2.2.2.2.2.2.2.1; have hl := h.1.2.2.2.2.2.2.2.2.2.1
  have ht := h.2.1.2.2.2.2.2.2.2.2.2.2
  refine ⟨?_, fun z => ?_⟩
  · unfold cd_request cr_request
    refine ifc (k_cls h c) rfl (fun _ => ?_)
    rw [ifo, s_t h]
    exact ifc (by rw [k_rg, k_rg]; exact Classical.not_and_iff_not_or_not.symm) rfl (fun _ => ifc (k_ful hc hb (show (20 : Int32) = nI 20 from rfl) (by decide) hl) rfl (fun _ => rfl))
  · obtain ⟨z1, z2⟩ := if0 (by decide) z
    obtain ⟨z5, z4⟩ := if0 (by decide) z2
    have z5 := Classical.not_not.mp z5
    have z3 := Classical.not_not.mp (if0 (by decide) z4).1
    have hk : nr < 20 := by rcases Nat.lt_or_ge nr 20 with r | r; exact r; exact absurd (by rw [hb, show nr = 20 by omega]; rfl) z3
    obtain ⟨x, -, hx, ex⟩ := rng_of ht.1 (by omega) (show (998 : Int32) = nI 998 from rfl) (by decide) z5.1
    obtain ⟨mm, hm1, hm9, hm⟩ := stay_of z5.2
    exact ⟨_, _, _, _, _, _, sm_request h hk c a m, by rw [ex, hm]; exact iv_request hi c hx hm1 hm9⟩
theorem u_withdraw (h : Same A B nc ns nz nb nr t) (hi : Inv A nc ns nb nr t) (x : Int32) : cd_withdraw A x = cr_withdraw B x ∧ (cr_withdraw B x = 0 → St (updM A 26 (upd (A 26) x.toNatClampNeg 2)) (w64 B (472 + 5 * x.toNatClampNeg + 3) 2)) := by
  have hl := h.1.2.2.2.2.2.2.2.2.2.1
  refine ⟨ifc (k_req h x) rfl (fun z => ?_), fun z => ?_⟩
  · obtain ⟨k, hk, -, e⟩ := o_req h (Classical.not_not.mp z)
    rw [e, h.2.2.2.2.2.2.2.2.2.1 k hk]
  · obtain ⟨k, hk, -, e⟩ := o_req h (Classical.not_not.mp (if0 (by decide) z).1)
    rw [e]
    exact ⟨_, _, _, _, _, _, sm_26 h (by omega) 2, inv_cg hi rfl rfl rfl rfl rfl rfl rfl rfl rfl rfl⟩
theorem u_cancel (h : Same A B nc ns nz nb nr t) (hi : Inv A nc ns nb nr t) (x : Int32) : cd_cancel A x = cr_cancel B x ∧ (cr_cancel B x = 0 → rcF (A 17 x.toNatClampNeg - A 1 5) (A 19 x.toNatClampNeg) = rcF (V B 17 x.toNatClampNeg - B 64 0) (V B 19 x.toNatClampNeg) ∧ St (cnlM A x.toNatClampNeg) (w64 (w64 B (112 + 6 * x.toNatClampNeg + 3) (V B 19 x.toNatClampNeg - (rcF (V B 17 x.toNatClampNeg - B 64 0) (V B 19 x.toNatClampNeg)))) (112 + 6 * x.toNatClampNeg + 4) 3)) := by
  have hl := h.1.2.2.2.2.2.2.2.1
  have hr := h.2.2.2.2.2.1
  refine ⟨ifc (k_bkg h x) rfl (fun z => ?_), fun z => ?_⟩
  · obtain ⟨k, hk, -, e⟩ := o_bkg h (Classical.not_not.mp z)
    rw [e, hr.2.2.2.2.1 k hk]
  · obtain ⟨k, hk, -, e⟩ := o_bkg h (Classical.not_not.mp (if0 (by decide) z).1)
    rw [e]
    have e1 : rcF (A 17 k - A 1 5) (A 19 k) = rcF (V B 17 k - B 64 0) (V B 19 k) := by rw [s_t h, hr.2.1 k hk, hr.2.2.2.1 k hk]
    refine ⟨e1, nc, ns, nz, nb, nr, t, ?_, iv_cancel hi hk _⟩
    unfold cnlM
    rw [e1, hr.2.2.2.1 k hk]
    exact sm_19_20 h (by omega) _ _
theorem u_open (h : Same A B nc ns nz nb nr t) (hi : Inv A nc ns nb nr t) (x : Int32) : cd_open A x = cr_open B x ∧ (cr_open B x = 0 → A 8 x.toNatClampNeg = V B 8 x.toNatClampNeg ∧ St (updM A 8 (upd (A 8) x.toNatClampNeg 0)) (w64 B (20 + 2 * x.toNatClampNeg + 1) 0)) := by
  have hl := h.1.2.2.2.1
  have hr := h.2.2.2.1
  refine ⟨ifc (k_sit h x) rfl (fun z => ?_), fun z => ?_⟩
  · obtain ⟨k, hk, -, e⟩ := o_sit h (Classical.not_not.mp z)
    rw [e, hr.2 k hk, s_t h]
    exact ifc (not_congr (Int32.not_le.symm)) rfl (fun _ => rfl)
  · obtain ⟨k, hk, -, e⟩ := o_sit h (Classical.not_not.mp (if0 (by decide) z).1)
    rw [e]
    exact ⟨hr.2 k hk, _, _, _, _, _, _, sm_8 h (by omega) 0, iv_open hi⟩
theorem on_free (h : Same A B nc ns nz nb nr t) {kc : Nat} {a m : Int32} {mm : Nat} (hk : kc < nc) (hm : m = nI mm) (hm1 : 1 ≤ mm) (hm9 : mm ≤ 28) (h0 : obnC A ns nb (nI kc) a m = 0) : ∃ x, a = nI x ∧ t ≤ x ∧ x + mm ≤ 999 ∧ ∀ i, i < mm → frC A kc ns nb (nI kc) (nI (x + i)) = true := by
  have hnc := h.1.2.1
  have ht := h.1.2.2.2.2.2.2.2.2.2.2
  have ec : (nI kc).toNatClampNeg = kc := nI_clamp (by omega)
  unfold obnC frM obN at h0
  rw [ec] at h0
  by_cases hlv : lvC (A 1 5) (A 3 kc) a m
  · rw [if_pos hlv] at h0; exact absurd h0 (by decide)
  · rw [if_neg hlv] at h0
    by_cases hall : allN (fun i => frC A kc ns nb (nI kc) (nI i)) a.toNatClampNeg m.toNatClampNeg = true
    · have hlr : ¬ lvR (A 1 5) (A 3 kc) a m := fun q => hlv ((lv_eq ht.1 ht.2 hm hm1 hm9).mpr q)
      obtain ⟨x, hx, hx1, hx2⟩ := lv_natR ht.1 ht.2 hm hm1 hm9 (fun q => hlr (Or.inl q)) (fun q => hlr (Or.inr (Or.inl q)))
      refine ⟨x, hx, hx1, hx2, fun i hi => ?_⟩
      rw [cl_of hx (by omega), cl_of hm (by omega)] at hall
      exact all_t hall hi
    · rw [if_neg hall] at h0; exact absurd h0 (by decide)
theorem os_on {c a m : Int32} (h0 : obsC A ns nb nz c a m = 0) : obnC A ns nb c a m = 0 := by
  unfold obsC obS at h0
  by_cases q : obnC A ns nb c a m = 0
  · exact q
  · rw [if_pos q] at h0; exact absurd h0 q
theorem s_prs (h : Same A B nc ns nz nb nr t) (c a m : Int32) : psum (prM A nz c) a.toNatClampNeg m.toNatClampNeg = prR B c a m := by
  unfold prR
  rw [(s_nz2 h).1]
  have e2 : prM A nz c = fun d => sval (seasN (V B 10) (V B 11) (V B 12) c d nz) (V B 14) 20 := funext (fun d => s_pr h c d)
  rw [e2]
theorem u_book (h : Same A B nc ns nz nb nr t) (hi : Inv A nc ns nb nr t) (c a m : Int32) : cd_book A c a m = cr_book B c a m ∧ (cr_book B c a m = 0 → St (addB A nb c a (a + m) (psum (prM A nz c) a.toNatClampNeg m.toNatClampNeg)) (appendBookingM B nb c a m (prR B c a m))) := by
  have hc := h.1.2.2.2.2.2.2.1; have hb := h.2.1.2.2.2.2.2.2.1; have hl := h.1.2.2.2.2.2.2.2.1
  have hs := h.1.2.2.2.1
  have hnc := h.1.2.1
  have ht := h.1.2.2.2.2.2.2.2.2.2.2.2
  refine ⟨?_, fun z => ?_⟩
  · unfold cd_book cr_book
    refine ifc (k_cls h c) rfl (fun z1 => ifc (k_rg 1 28 m) rfl (fun z2 => ?_))
    obtain ⟨k, hk, -, e⟩ := o_cls h (Classical.not_not.mp z1)
    obtain ⟨mm, hm1, hm9, hm⟩ := stay_of (Classical.not_not.mp z2)
    rw [ifo, (s_ns h).1, (s_nb h).1, (s_nz2 h).1, (s_ns h).2, (s_nb h).2, (s_nz2 h).2, e, s_os h hi hk e hm hm1 hm9]
    refine ifc ?_ rfl (fun _ => rfl)
    rw [k_ful hc hb (show (60 : Int32) = nI 60 from rfl) (by decide) hl]
    exact Classical.not_and_iff_not_or_not.symm
  · obtain ⟨z1, z2⟩ := if0 (by decide) z
    obtain ⟨z3, z4⟩ := if0 (by decide) z2
    have z5 := Classical.not_not.mp (if0 (by decide) z4).1
    obtain ⟨k, hk, ek, e⟩ := o_cls h (Classical.not_not.mp z1)
    obtain ⟨mm, hm1, hm9, hm⟩ := stay_of (Classical.not_not.mp z3)
    have hk60 : nb < 60 := by rcases Nat.lt_or_ge nb 60 with r | r; exact r; exact absurd (by rw [hb, show nb = 60 by omega]; rfl) z5.1
    have z6 := z5.2
    rw [(s_ns h).1, (s_nb h).1, (s_nz2 h).1, e, ← s_os h hi hk e hm hm1 hm9, ek] at z6
    obtain ⟨x, ex, hx1, hx2, hfr⟩ := on_free h hk hm hm1 hm9 (os_on z6)
    rw [s_prs h]
    refine ⟨nc, ns, nz, nb + 1, nr, t, sm_book h hk60 c a m _, ?_⟩
    rw [ek, ex, hm, nI_add]
    exact iv_book hi hs hl ht hk hx1 hm1 hx2 _ hfr
theorem u_extend (h : Same A B nc ns nz nb nr t) (hi : Inv A nc ns nb nr t) (x m : Int32) : cd_extend A x m = cr_extend B x m ∧ (cr_extend B x m = 0 → exP A x.toNatClampNeg m = prR B (V B 16 x.toNatClampNeg) (V B 18 x.toNatClampNeg) m ∧ St (exM A x.toNatClampNeg m) (w64 (w64 B (112 + 6 * x.toNatClampNeg + 2) ((V B 18 x.toNatClampNeg) + m)) (112 + 6 * x.toNatClampNeg + 3) (V B 19 x.toNatClampNeg + (prR B (V B 16 x.toNatClampNeg) (V B 18 x.toNatClampNeg) m)))) := by
  have hl := h.1.2.2.2.2.2.2.2.1
  have hs := h.1.2.2.2.1
  have ht := h.1.2.2.2.2.2.2.2.2.2.2.2
  have hnc := h.1.2.1
  have hr := h.2.2.2.2.2.1
  refine ⟨?_, fun z => ?_⟩
  · unfold cd_extend cr_extend
    refine ifc (k_bkg h x) rfl (fun z1 => ifc (k_rg 1 28 m) rfl (fun z2 => ?_))
    obtain ⟨k, hk, -, e⟩ := o_bkg h (Classical.not_not.mp z1)
    obtain ⟨mm, hm1, hm9, hm⟩ := stay_of (Classical.not_not.mp z2)
    obtain ⟨kc, -, -, ekc, hkc, -⟩ := hi.2.1 k hk
    rw [ifo, (s_ns h).1, (s_nb h).1, (s_ns h).2, (s_nb h).2, e, ← hr.1 k hk, ← hr.2.2.1 k hk, ← hr.2.2.2.2.1 k hk, ekc, s_on h hi hkc (nI_clamp (by omega)) hm hm1 hm9, nI_clamp (by omega)]
    exact ifc Classical.not_and_iff_not_or_not.symm rfl (fun _ => rfl)
  · obtain ⟨z1, z2⟩ := if0 (by decide) z
    obtain ⟨z3, z4⟩ := if0 (by decide) z2
    have z5 := (Classical.not_not.mp (if0 (by decide) z4).1).2
    obtain ⟨k, hk, -, e⟩ := o_bkg h (Classical.not_not.mp z1)
    obtain ⟨mm, hm1, hm9, hm⟩ := stay_of (Classical.not_not.mp z3)
    obtain ⟨kc, -, -, ekc, hkc, -⟩ := hi.2.1 k hk
    rw [e] at z5 ⊢
    rw [(s_ns h).1, (s_nb h).1, ← hr.1 k hk, ← hr.2.2.1 k hk, ekc, nI_clamp (by omega), ← s_on h hi hkc (nI_clamp (by omega)) hm hm1 hm9] at z5
    obtain ⟨y, ey, hy1, hy2, hfr⟩ := on_free h hkc hm hm1 hm9 z5
    have e1 : exP A k m = prR B (V B 16 k) (V B 18 k) m := by
      unfold exP
      rw [(s_nz2 h).2, s_prs h, hr.1 k hk, hr.2.2.1 k hk]
    refine ⟨e1, nc, ns, nz, nb, nr, t, ?_, ?_⟩
    · unfold exM
      rw [e1, hr.2.2.1 k hk, hr.2.2.2.1 k hk]
      exact sm_18_19 h (by omega) _ _
    · unfold exM
      rw [ey, hm, nI_add]
      exact iv_ext hi hs hl ht hk hkc ekc ey hy2 _ hfr
end Ups
